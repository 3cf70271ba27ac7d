section
-- ===== PART A: goes FIRST, ahead of the names: the tables' words, and 'selects' of the private methods out of them =====
/-- a private method of a class that the tables say can be made, by its rows of tables_1 -/
def lw_okq (q : MethodName × Nat) : Prop := (q.1.cls ≠ "java/lang/invoke/MethodHandle" ∧ q.1.cls ≠ "java/lang/invoke/VarHandle") ∧ Cond.instantiable q.1.cls q.2 ∈ tables_1 ∧ Cond.privateMethod q.1 ∈ tables_1 ∧ Cond.instanceMethod q.1 ∈ tables_1
theorem lw_p0 : lw_okq (⟨"WaysAtlas$Scanner", "number", "(LWaysAtlas$Table;)V"⟩, 2) := ⟨⟨by decide +kernel, by decide +kernel⟩, List.mem_of_getElem? (i := 57) (by decide +kernel), List.mem_of_getElem? (i := 462) (by decide +kernel), List.mem_of_getElem? (i := 463) (by decide +kernel)⟩
theorem lw_p1 : lw_okq (⟨"WaysAtlas$Scanner", "note", "(III)V"⟩, 2) := ⟨⟨by decide +kernel, by decide +kernel⟩, List.mem_of_getElem? (i := 57) (by decide +kernel), List.mem_of_getElem? (i := 472) (by decide +kernel), List.mem_of_getElem? (i := 473) (by decide +kernel)⟩
theorem lw_p2 : lw_okq (⟨"WaysAtlas$Scanner", "letters", "(LWaysAtlas$Table;)V"⟩, 2) := ⟨⟨by decide +kernel, by decide +kernel⟩, List.mem_of_getElem? (i := 57) (by decide +kernel), List.mem_of_getElem? (i := 481) (by decide +kernel), List.mem_of_getElem? (i := 482) (by decide +kernel)⟩
theorem lw_p3 : lw_okq (⟨"WaysAtlas$Scanner", "name", "(LWaysAtlas$Table;)V"⟩, 2) := ⟨⟨by decide +kernel, by decide +kernel⟩, List.mem_of_getElem? (i := 57) (by decide +kernel), List.mem_of_getElem? (i := 485) (by decide +kernel), List.mem_of_getElem? (i := 486) (by decide +kernel)⟩
theorem lw_p4 : lw_okq (⟨"WaysAtlas$Reader", "start", "(LWaysAtlas$Program;)V"⟩, 12) := ⟨⟨by decide +kernel, by decide +kernel⟩, List.mem_of_getElem? (i := 117) (by decide +kernel), List.mem_of_getElem? (i := 606) (by decide +kernel), List.mem_of_getElem? (i := 607) (by decide +kernel)⟩
theorem lw_p5 : lw_okq (⟨"WaysAtlas$Reader", "advance", "()V"⟩, 12) := ⟨⟨by decide +kernel, by decide +kernel⟩, List.mem_of_getElem? (i := 117) (by decide +kernel), List.mem_of_getElem? (i := 618) (by decide +kernel), List.mem_of_getElem? (i := 619) (by decide +kernel)⟩
theorem lw_p6 : lw_okq (⟨"WaysAtlas$Reader", "readKind", "()V"⟩, 12) := ⟨⟨by decide +kernel, by decide +kernel⟩, List.mem_of_getElem? (i := 117) (by decide +kernel), List.mem_of_getElem? (i := 623) (by decide +kernel), List.mem_of_getElem? (i := 624) (by decide +kernel)⟩
theorem lw_p7 : lw_okq (⟨"WaysAtlas$Reader", "fail", "(I)V"⟩, 12) := ⟨⟨by decide +kernel, by decide +kernel⟩, List.mem_of_getElem? (i := 117) (by decide +kernel), List.mem_of_getElem? (i := 627) (by decide +kernel), List.mem_of_getElem? (i := 628) (by decide +kernel)⟩
theorem lw_p8 : lw_okq (⟨"WaysAtlas$Reader", "expect", "(I)V"⟩, 12) := ⟨⟨by decide +kernel, by decide +kernel⟩, List.mem_of_getElem? (i := 117) (by decide +kernel), List.mem_of_getElem? (i := 631) (by decide +kernel), List.mem_of_getElem? (i := 632) (by decide +kernel)⟩
theorem lw_p9 : lw_okq (⟨"WaysAtlas$Reader", "readKindName", "()I"⟩, 12) := ⟨⟨by decide +kernel, by decide +kernel⟩, List.mem_of_getElem? (i := 117) (by decide +kernel), List.mem_of_getElem? (i := 635) (by decide +kernel), List.mem_of_getElem? (i := 636) (by decide +kernel)⟩
theorem lw_p10 : lw_okq (⟨"WaysAtlas$Reader", "failLesser", "(I)V"⟩, 12) := ⟨⟨by decide +kernel, by decide +kernel⟩, List.mem_of_getElem? (i := 117) (by decide +kernel), List.mem_of_getElem? (i := 639) (by decide +kernel), List.mem_of_getElem? (i := 640) (by decide +kernel)⟩
theorem lw_p11 : lw_okq (⟨"WaysAtlas$Reader", "beginMethod", "()I"⟩, 12) := ⟨⟨by decide +kernel, by decide +kernel⟩, List.mem_of_getElem? (i := 117) (by decide +kernel), List.mem_of_getElem? (i := 645) (by decide +kernel), List.mem_of_getElem? (i := 646) (by decide +kernel)⟩
theorem lw_p12 : lw_okq (⟨"WaysAtlas$Reader", "readStatements", "(II)I"⟩, 12) := ⟨⟨by decide +kernel, by decide +kernel⟩, List.mem_of_getElem? (i := 117) (by decide +kernel), List.mem_of_getElem? (i := 650) (by decide +kernel), List.mem_of_getElem? (i := 651) (by decide +kernel)⟩
theorem lw_p13 : lw_okq (⟨"WaysAtlas$Reader", "readStatement", "(II)I"⟩, 12) := ⟨⟨by decide +kernel, by decide +kernel⟩, List.mem_of_getElem? (i := 117) (by decide +kernel), List.mem_of_getElem? (i := 654) (by decide +kernel), List.mem_of_getElem? (i := 655) (by decide +kernel)⟩
theorem lw_p14 : lw_okq (⟨"WaysAtlas$Reader", "isNoVariable", "()Z"⟩, 12) := ⟨⟨by decide +kernel, by decide +kernel⟩, List.mem_of_getElem? (i := 117) (by decide +kernel), List.mem_of_getElem? (i := 661) (by decide +kernel), List.mem_of_getElem? (i := 662) (by decide +kernel)⟩
theorem lw_p15 : lw_okq (⟨"WaysAtlas$Reader", "isNoRow", "()Z"⟩, 12) := ⟨⟨by decide +kernel, by decide +kernel⟩, List.mem_of_getElem? (i := 117) (by decide +kernel), List.mem_of_getElem? (i := 665) (by decide +kernel), List.mem_of_getElem? (i := 666) (by decide +kernel)⟩
def lw_privs_1 : List (MethodName × Nat) := [(⟨"WaysAtlas$Scanner", "number", "(LWaysAtlas$Table;)V"⟩, 2), (⟨"WaysAtlas$Scanner", "note", "(III)V"⟩, 2), (⟨"WaysAtlas$Scanner", "letters", "(LWaysAtlas$Table;)V"⟩, 2), (⟨"WaysAtlas$Scanner", "name", "(LWaysAtlas$Table;)V"⟩, 2), (⟨"WaysAtlas$Reader", "start", "(LWaysAtlas$Program;)V"⟩, 12), (⟨"WaysAtlas$Reader", "advance", "()V"⟩, 12), (⟨"WaysAtlas$Reader", "readKind", "()V"⟩, 12), (⟨"WaysAtlas$Reader", "fail", "(I)V"⟩, 12), (⟨"WaysAtlas$Reader", "expect", "(I)V"⟩, 12), (⟨"WaysAtlas$Reader", "readKindName", "()I"⟩, 12), (⟨"WaysAtlas$Reader", "failLesser", "(I)V"⟩, 12), (⟨"WaysAtlas$Reader", "beginMethod", "()I"⟩, 12), (⟨"WaysAtlas$Reader", "readStatements", "(II)I"⟩, 12), (⟨"WaysAtlas$Reader", "readStatement", "(II)I"⟩, 12), (⟨"WaysAtlas$Reader", "isNoVariable", "()Z"⟩, 12), (⟨"WaysAtlas$Reader", "isNoRow", "()Z"⟩, 12)]
theorem lw_r1 : ∀ q ∈ lw_privs_1, lw_okq q := List.forall_mem_cons.mpr ⟨lw_p0, List.forall_mem_cons.mpr ⟨lw_p1, List.forall_mem_cons.mpr ⟨lw_p2, List.forall_mem_cons.mpr ⟨lw_p3, List.forall_mem_cons.mpr ⟨lw_p4, List.forall_mem_cons.mpr ⟨lw_p5, List.forall_mem_cons.mpr ⟨lw_p6, List.forall_mem_cons.mpr ⟨lw_p7, List.forall_mem_cons.mpr ⟨lw_p8, List.forall_mem_cons.mpr ⟨lw_p9, List.forall_mem_cons.mpr ⟨lw_p10, List.forall_mem_cons.mpr ⟨lw_p11, List.forall_mem_cons.mpr ⟨lw_p12, List.forall_mem_cons.mpr ⟨lw_p13, List.forall_mem_cons.mpr ⟨lw_p14, List.forall_mem_cons.mpr ⟨lw_p15, fun _ h => absurd h List.not_mem_nil⟩⟩⟩⟩⟩⟩⟩⟩⟩⟩⟩⟩⟩⟩⟩⟩
theorem lw_p16 : lw_okq (⟨"WaysAtlas$Reader", "readIf", "(II)V"⟩, 12) := ⟨⟨by decide +kernel, by decide +kernel⟩, List.mem_of_getElem? (i := 117) (by decide +kernel), List.mem_of_getElem? (i := 669) (by decide +kernel), List.mem_of_getElem? (i := 670) (by decide +kernel)⟩
theorem lw_p17 : lw_okq (⟨"WaysAtlas$Reader", "readList", "(IZ)I"⟩, 12) := ⟨⟨by decide +kernel, by decide +kernel⟩, List.mem_of_getElem? (i := 117) (by decide +kernel), List.mem_of_getElem? (i := 673) (by decide +kernel), List.mem_of_getElem? (i := 674) (by decide +kernel)⟩
theorem lw_p18 : lw_okq (⟨"WaysAtlas$Reader", "readFactor", "(I)I"⟩, 12) := ⟨⟨by decide +kernel, by decide +kernel⟩, List.mem_of_getElem? (i := 117) (by decide +kernel), List.mem_of_getElem? (i := 677) (by decide +kernel), List.mem_of_getElem? (i := 678) (by decide +kernel)⟩
theorem lw_p19 : lw_okq (⟨"WaysAtlas$Reader", "newNode", "(II)I"⟩, 12) := ⟨⟨by decide +kernel, by decide +kernel⟩, List.mem_of_getElem? (i := 117) (by decide +kernel), List.mem_of_getElem? (i := 681) (by decide +kernel), List.mem_of_getElem? (i := 682) (by decide +kernel)⟩
theorem lw_p20 : lw_okq (⟨"WaysAtlas$Reader", "readRowName", "()I"⟩, 12) := ⟨⟨by decide +kernel, by decide +kernel⟩, List.mem_of_getElem? (i := 117) (by decide +kernel), List.mem_of_getElem? (i := 685) (by decide +kernel), List.mem_of_getElem? (i := 686) (by decide +kernel)⟩
theorem lw_p21 : lw_okq (⟨"WaysAtlas$Reader", "readElement", "(I)I"⟩, 12) := ⟨⟨by decide +kernel, by decide +kernel⟩, List.mem_of_getElem? (i := 117) (by decide +kernel), List.mem_of_getElem? (i := 689) (by decide +kernel), List.mem_of_getElem? (i := 690) (by decide +kernel)⟩
theorem lw_p22 : lw_okq (⟨"WaysAtlas$Reader", "readBlock", "(II)I"⟩, 12) := ⟨⟨by decide +kernel, by decide +kernel⟩, List.mem_of_getElem? (i := 117) (by decide +kernel), List.mem_of_getElem? (i := 696) (by decide +kernel), List.mem_of_getElem? (i := 697) (by decide +kernel)⟩
theorem lw_p23 : lw_okq (⟨"WaysAtlas$Reader", "readLoop", "(II)V"⟩, 12) := ⟨⟨by decide +kernel, by decide +kernel⟩, List.mem_of_getElem? (i := 117) (by decide +kernel), List.mem_of_getElem? (i := 700) (by decide +kernel), List.mem_of_getElem? (i := 701) (by decide +kernel)⟩
theorem lw_p24 : lw_okq (⟨"WaysAtlas$Reader", "readGuard", "(II)V"⟩, 12) := ⟨⟨by decide +kernel, by decide +kernel⟩, List.mem_of_getElem? (i := 117) (by decide +kernel), List.mem_of_getElem? (i := 708) (by decide +kernel), List.mem_of_getElem? (i := 709) (by decide +kernel)⟩
theorem lw_p25 : lw_okq (⟨"WaysAtlas$Reader", "readResources", "()I"⟩, 12) := ⟨⟨by decide +kernel, by decide +kernel⟩, List.mem_of_getElem? (i := 117) (by decide +kernel), List.mem_of_getElem? (i := 712) (by decide +kernel), List.mem_of_getElem? (i := 713) (by decide +kernel)⟩
theorem lw_p26 : lw_okq (⟨"WaysAtlas$Reader", "readCatch", "(III)I"⟩, 12) := ⟨⟨by decide +kernel, by decide +kernel⟩, List.mem_of_getElem? (i := 117) (by decide +kernel), List.mem_of_getElem? (i := 716) (by decide +kernel), List.mem_of_getElem? (i := 717) (by decide +kernel)⟩
theorem lw_p27 : lw_okq (⟨"WaysAtlas$Reader", "readCall", "(II)V"⟩, 12) := ⟨⟨by decide +kernel, by decide +kernel⟩, List.mem_of_getElem? (i := 117) (by decide +kernel), List.mem_of_getElem? (i := 729) (by decide +kernel), List.mem_of_getElem? (i := 730) (by decide +kernel)⟩
theorem lw_p28 : lw_okq (⟨"WaysAtlas$Reader", "readSet", "(II)V"⟩, 12) := ⟨⟨by decide +kernel, by decide +kernel⟩, List.mem_of_getElem? (i := 117) (by decide +kernel), List.mem_of_getElem? (i := 733) (by decide +kernel), List.mem_of_getElem? (i := 734) (by decide +kernel)⟩
theorem lw_p29 : lw_okq (⟨"WaysAtlas$Reader", "readRow", "(I)V"⟩, 12) := ⟨⟨by decide +kernel, by decide +kernel⟩, List.mem_of_getElem? (i := 117) (by decide +kernel), List.mem_of_getElem? (i := 737) (by decide +kernel), List.mem_of_getElem? (i := 738) (by decide +kernel)⟩
theorem lw_p30 : lw_okq (⟨"WaysAtlas$Reader", "readJump", "(II)V"⟩, 12) := ⟨⟨by decide +kernel, by decide +kernel⟩, List.mem_of_getElem? (i := 117) (by decide +kernel), List.mem_of_getElem? (i := 741) (by decide +kernel), List.mem_of_getElem? (i := 742) (by decide +kernel)⟩
theorem lw_p31 : lw_okq (⟨"WaysAtlas$Reader", "readMark", "(I)V"⟩, 12) := ⟨⟨by decide +kernel, by decide +kernel⟩, List.mem_of_getElem? (i := 117) (by decide +kernel), List.mem_of_getElem? (i := 745) (by decide +kernel), List.mem_of_getElem? (i := 746) (by decide +kernel)⟩
def lw_privs_2 : List (MethodName × Nat) := [(⟨"WaysAtlas$Reader", "readIf", "(II)V"⟩, 12), (⟨"WaysAtlas$Reader", "readList", "(IZ)I"⟩, 12), (⟨"WaysAtlas$Reader", "readFactor", "(I)I"⟩, 12), (⟨"WaysAtlas$Reader", "newNode", "(II)I"⟩, 12), (⟨"WaysAtlas$Reader", "readRowName", "()I"⟩, 12), (⟨"WaysAtlas$Reader", "readElement", "(I)I"⟩, 12), (⟨"WaysAtlas$Reader", "readBlock", "(II)I"⟩, 12), (⟨"WaysAtlas$Reader", "readLoop", "(II)V"⟩, 12), (⟨"WaysAtlas$Reader", "readGuard", "(II)V"⟩, 12), (⟨"WaysAtlas$Reader", "readResources", "()I"⟩, 12), (⟨"WaysAtlas$Reader", "readCatch", "(III)I"⟩, 12), (⟨"WaysAtlas$Reader", "readCall", "(II)V"⟩, 12), (⟨"WaysAtlas$Reader", "readSet", "(II)V"⟩, 12), (⟨"WaysAtlas$Reader", "readRow", "(I)V"⟩, 12), (⟨"WaysAtlas$Reader", "readJump", "(II)V"⟩, 12), (⟨"WaysAtlas$Reader", "readMark", "(I)V"⟩, 12)]
theorem lw_r2 : ∀ q ∈ lw_privs_2, lw_okq q := List.forall_mem_cons.mpr ⟨lw_p16, List.forall_mem_cons.mpr ⟨lw_p17, List.forall_mem_cons.mpr ⟨lw_p18, List.forall_mem_cons.mpr ⟨lw_p19, List.forall_mem_cons.mpr ⟨lw_p20, List.forall_mem_cons.mpr ⟨lw_p21, List.forall_mem_cons.mpr ⟨lw_p22, List.forall_mem_cons.mpr ⟨lw_p23, List.forall_mem_cons.mpr ⟨lw_p24, List.forall_mem_cons.mpr ⟨lw_p25, List.forall_mem_cons.mpr ⟨lw_p26, List.forall_mem_cons.mpr ⟨lw_p27, List.forall_mem_cons.mpr ⟨lw_p28, List.forall_mem_cons.mpr ⟨lw_p29, List.forall_mem_cons.mpr ⟨lw_p30, List.forall_mem_cons.mpr ⟨lw_p31, fun _ h => absurd h List.not_mem_nil⟩⟩⟩⟩⟩⟩⟩⟩⟩⟩⟩⟩⟩⟩⟩⟩
theorem lw_p32 : lw_okq (⟨"WaysAtlas$Reader", "readReturn", "(I)V"⟩, 12) := ⟨⟨by decide +kernel, by decide +kernel⟩, List.mem_of_getElem? (i := 117) (by decide +kernel), List.mem_of_getElem? (i := 749) (by decide +kernel), List.mem_of_getElem? (i := 750) (by decide +kernel)⟩
theorem lw_p33 : lw_okq (⟨"WaysAtlas$Reader", "readThrow", "(II)V"⟩, 12) := ⟨⟨by decide +kernel, by decide +kernel⟩, List.mem_of_getElem? (i := 117) (by decide +kernel), List.mem_of_getElem? (i := 753) (by decide +kernel), List.mem_of_getElem? (i := 754) (by decide +kernel)⟩
theorem lw_p34 : lw_okq (⟨"WaysAtlas$Reader", "checkCalls", "()V"⟩, 12) := ⟨⟨by decide +kernel, by decide +kernel⟩, List.mem_of_getElem? (i := 117) (by decide +kernel), List.mem_of_getElem? (i := 757) (by decide +kernel), List.mem_of_getElem? (i := 758) (by decide +kernel)⟩
theorem lw_p35 : lw_okq (⟨"WaysAtlas$Coder", "write", "(Z)V"⟩, 8) := ⟨⟨by decide +kernel, by decide +kernel⟩, List.mem_of_getElem? (i := 164) (by decide +kernel), List.mem_of_getElem? (i := 765) (by decide +kernel), List.mem_of_getElem? (i := 766) (by decide +kernel)⟩
theorem lw_p36 : lw_okq (⟨"WaysAtlas$Coder", "writeBlock", "(II)V"⟩, 8) := ⟨⟨by decide +kernel, by decide +kernel⟩, List.mem_of_getElem? (i := 164) (by decide +kernel), List.mem_of_getElem? (i := 772) (by decide +kernel), List.mem_of_getElem? (i := 773) (by decide +kernel)⟩
theorem lw_p37 : lw_okq (⟨"WaysAtlas$Coder", "writeStatement", "(II)V"⟩, 8) := ⟨⟨by decide +kernel, by decide +kernel⟩, List.mem_of_getElem? (i := 164) (by decide +kernel), List.mem_of_getElem? (i := 776) (by decide +kernel), List.mem_of_getElem? (i := 777) (by decide +kernel)⟩
theorem lw_p38 : lw_okq (⟨"WaysAtlas$Coder", "emit", "(III)I"⟩, 8) := ⟨⟨by decide +kernel, by decide +kernel⟩, List.mem_of_getElem? (i := 164) (by decide +kernel), List.mem_of_getElem? (i := 780) (by decide +kernel), List.mem_of_getElem? (i := 781) (by decide +kernel)⟩
theorem lw_p39 : lw_okq (⟨"WaysAtlas$Coder", "writeSum", "(II)V"⟩, 8) := ⟨⟨by decide +kernel, by decide +kernel⟩, List.mem_of_getElem? (i := 164) (by decide +kernel), List.mem_of_getElem? (i := 785) (by decide +kernel), List.mem_of_getElem? (i := 786) (by decide +kernel)⟩
theorem lw_p40 : lw_okq (⟨"WaysAtlas$Coder", "writeList", "(II)V"⟩, 8) := ⟨⟨by decide +kernel, by decide +kernel⟩, List.mem_of_getElem? (i := 164) (by decide +kernel), List.mem_of_getElem? (i := 789) (by decide +kernel), List.mem_of_getElem? (i := 790) (by decide +kernel)⟩
theorem lw_p41 : lw_okq (⟨"WaysAtlas$Coder", "writeIf", "(II)V"⟩, 8) := ⟨⟨by decide +kernel, by decide +kernel⟩, List.mem_of_getElem? (i := 164) (by decide +kernel), List.mem_of_getElem? (i := 793) (by decide +kernel), List.mem_of_getElem? (i := 794) (by decide +kernel)⟩
theorem lw_p42 : lw_okq (⟨"WaysAtlas$Coder", "patch", "(II)V"⟩, 8) := ⟨⟨by decide +kernel, by decide +kernel⟩, List.mem_of_getElem? (i := 164) (by decide +kernel), List.mem_of_getElem? (i := 797) (by decide +kernel), List.mem_of_getElem? (i := 798) (by decide +kernel)⟩
theorem lw_p43 : lw_okq (⟨"WaysAtlas$Coder", "writeLoop", "(II)V"⟩, 8) := ⟨⟨by decide +kernel, by decide +kernel⟩, List.mem_of_getElem? (i := 164) (by decide +kernel), List.mem_of_getElem? (i := 801) (by decide +kernel), List.mem_of_getElem? (i := 802) (by decide +kernel)⟩
theorem lw_p44 : lw_okq (⟨"WaysAtlas$Coder", "levelOf", "(I)I"⟩, 8) := ⟨⟨by decide +kernel, by decide +kernel⟩, List.mem_of_getElem? (i := 164) (by decide +kernel), List.mem_of_getElem? (i := 805) (by decide +kernel), List.mem_of_getElem? (i := 806) (by decide +kernel)⟩
theorem lw_p45 : lw_okq (⟨"WaysAtlas$Coder", "pushContext", "(II)I"⟩, 8) := ⟨⟨by decide +kernel, by decide +kernel⟩, List.mem_of_getElem? (i := 164) (by decide +kernel), List.mem_of_getElem? (i := 809) (by decide +kernel), List.mem_of_getElem? (i := 810) (by decide +kernel)⟩
theorem lw_p46 : lw_okq (⟨"WaysAtlas$Coder", "popContext", "(I)V"⟩, 8) := ⟨⟨by decide +kernel, by decide +kernel⟩, List.mem_of_getElem? (i := 164) (by decide +kernel), List.mem_of_getElem? (i := 813) (by decide +kernel), List.mem_of_getElem? (i := 814) (by decide +kernel)⟩
theorem lw_p47 : lw_okq (⟨"WaysAtlas$Coder", "writeGuard", "(II)V"⟩, 8) := ⟨⟨by decide +kernel, by decide +kernel⟩, List.mem_of_getElem? (i := 164) (by decide +kernel), List.mem_of_getElem? (i := 818) (by decide +kernel), List.mem_of_getElem? (i := 819) (by decide +kernel)⟩
def lw_privs_3 : List (MethodName × Nat) := [(⟨"WaysAtlas$Reader", "readReturn", "(I)V"⟩, 12), (⟨"WaysAtlas$Reader", "readThrow", "(II)V"⟩, 12), (⟨"WaysAtlas$Reader", "checkCalls", "()V"⟩, 12), (⟨"WaysAtlas$Coder", "write", "(Z)V"⟩, 8), (⟨"WaysAtlas$Coder", "writeBlock", "(II)V"⟩, 8), (⟨"WaysAtlas$Coder", "writeStatement", "(II)V"⟩, 8), (⟨"WaysAtlas$Coder", "emit", "(III)I"⟩, 8), (⟨"WaysAtlas$Coder", "writeSum", "(II)V"⟩, 8), (⟨"WaysAtlas$Coder", "writeList", "(II)V"⟩, 8), (⟨"WaysAtlas$Coder", "writeIf", "(II)V"⟩, 8), (⟨"WaysAtlas$Coder", "patch", "(II)V"⟩, 8), (⟨"WaysAtlas$Coder", "writeLoop", "(II)V"⟩, 8), (⟨"WaysAtlas$Coder", "levelOf", "(I)I"⟩, 8), (⟨"WaysAtlas$Coder", "pushContext", "(II)I"⟩, 8), (⟨"WaysAtlas$Coder", "popContext", "(I)V"⟩, 8), (⟨"WaysAtlas$Coder", "writeGuard", "(II)V"⟩, 8)]
theorem lw_r3 : ∀ q ∈ lw_privs_3, lw_okq q := List.forall_mem_cons.mpr ⟨lw_p32, List.forall_mem_cons.mpr ⟨lw_p33, List.forall_mem_cons.mpr ⟨lw_p34, List.forall_mem_cons.mpr ⟨lw_p35, List.forall_mem_cons.mpr ⟨lw_p36, List.forall_mem_cons.mpr ⟨lw_p37, List.forall_mem_cons.mpr ⟨lw_p38, List.forall_mem_cons.mpr ⟨lw_p39, List.forall_mem_cons.mpr ⟨lw_p40, List.forall_mem_cons.mpr ⟨lw_p41, List.forall_mem_cons.mpr ⟨lw_p42, List.forall_mem_cons.mpr ⟨lw_p43, List.forall_mem_cons.mpr ⟨lw_p44, List.forall_mem_cons.mpr ⟨lw_p45, List.forall_mem_cons.mpr ⟨lw_p46, List.forall_mem_cons.mpr ⟨lw_p47, fun _ h => absurd h List.not_mem_nil⟩⟩⟩⟩⟩⟩⟩⟩⟩⟩⟩⟩⟩⟩⟩⟩
theorem lw_p48 : lw_okq (⟨"WaysAtlas$Coder", "newHandler", "(II)I"⟩, 8) := ⟨⟨by decide +kernel, by decide +kernel⟩, List.mem_of_getElem? (i := 164) (by decide +kernel), List.mem_of_getElem? (i := 822) (by decide +kernel), List.mem_of_getElem? (i := 823) (by decide +kernel)⟩
theorem lw_p49 : lw_okq (⟨"WaysAtlas$Coder", "newCatchHandlers", "(II)I"⟩, 8) := ⟨⟨by decide +kernel, by decide +kernel⟩, List.mem_of_getElem? (i := 164) (by decide +kernel), List.mem_of_getElem? (i := 826) (by decide +kernel), List.mem_of_getElem? (i := 827) (by decide +kernel)⟩
theorem lw_p50 : lw_okq (⟨"WaysAtlas$Coder", "writeHeld", "(III)I"⟩, 8) := ⟨⟨by decide +kernel, by decide +kernel⟩, List.mem_of_getElem? (i := 164) (by decide +kernel), List.mem_of_getElem? (i := 830) (by decide +kernel), List.mem_of_getElem? (i := 831) (by decide +kernel)⟩
theorem lw_p51 : lw_okq (⟨"WaysAtlas$Coder", "writeClosings", "(II)V"⟩, 8) := ⟨⟨by decide +kernel, by decide +kernel⟩, List.mem_of_getElem? (i := 164) (by decide +kernel), List.mem_of_getElem? (i := 834) (by decide +kernel), List.mem_of_getElem? (i := 835) (by decide +kernel)⟩
theorem lw_p52 : lw_okq (⟨"WaysAtlas$Coder", "writeEnd", "(III)I"⟩, 8) := ⟨⟨by decide +kernel, by decide +kernel⟩, List.mem_of_getElem? (i := 164) (by decide +kernel), List.mem_of_getElem? (i := 838) (by decide +kernel), List.mem_of_getElem? (i := 839) (by decide +kernel)⟩
theorem lw_p53 : lw_okq (⟨"WaysAtlas$Coder", "writeFinish", "(II)V"⟩, 8) := ⟨⟨by decide +kernel, by decide +kernel⟩, List.mem_of_getElem? (i := 164) (by decide +kernel), List.mem_of_getElem? (i := 842) (by decide +kernel), List.mem_of_getElem? (i := 843) (by decide +kernel)⟩
theorem lw_p54 : lw_okq (⟨"WaysAtlas$Coder", "writeFinishing", "(II)V"⟩, 8) := ⟨⟨by decide +kernel, by decide +kernel⟩, List.mem_of_getElem? (i := 164) (by decide +kernel), List.mem_of_getElem? (i := 846) (by decide +kernel), List.mem_of_getElem? (i := 847) (by decide +kernel)⟩
theorem lw_p55 : lw_okq (⟨"WaysAtlas$Coder", "writeCatches", "(IIIII)I"⟩, 8) := ⟨⟨by decide +kernel, by decide +kernel⟩, List.mem_of_getElem? (i := 164) (by decide +kernel), List.mem_of_getElem? (i := 850) (by decide +kernel), List.mem_of_getElem? (i := 851) (by decide +kernel)⟩
theorem lw_p56 : lw_okq (⟨"WaysAtlas$Coder", "writeLast", "(III)V"⟩, 8) := ⟨⟨by decide +kernel, by decide +kernel⟩, List.mem_of_getElem? (i := 164) (by decide +kernel), List.mem_of_getElem? (i := 854) (by decide +kernel), List.mem_of_getElem? (i := 855) (by decide +kernel)⟩
theorem lw_p57 : lw_okq (⟨"WaysAtlas$Coder", "writeJump", "(IZI)V"⟩, 8) := ⟨⟨by decide +kernel, by decide +kernel⟩, List.mem_of_getElem? (i := 164) (by decide +kernel), List.mem_of_getElem? (i := 858) (by decide +kernel), List.mem_of_getElem? (i := 859) (by decide +kernel)⟩
theorem lw_p58 : lw_okq (⟨"WaysAtlas$Coder", "contextOf", "(I)I"⟩, 8) := ⟨⟨by decide +kernel, by decide +kernel⟩, List.mem_of_getElem? (i := 164) (by decide +kernel), List.mem_of_getElem? (i := 862) (by decide +kernel), List.mem_of_getElem? (i := 863) (by decide +kernel)⟩
theorem lw_p59 : lw_okq (⟨"WaysAtlas$Coder", "writeWayOut", "(IZI)V"⟩, 8) := ⟨⟨by decide +kernel, by decide +kernel⟩, List.mem_of_getElem? (i := 164) (by decide +kernel), List.mem_of_getElem? (i := 866) (by decide +kernel), List.mem_of_getElem? (i := 867) (by decide +kernel)⟩
theorem lw_p60 : lw_okq (⟨"WaysAtlas$Coder", "writePassing", "(IIZI)V"⟩, 8) := ⟨⟨by decide +kernel, by decide +kernel⟩, List.mem_of_getElem? (i := 164) (by decide +kernel), List.mem_of_getElem? (i := 870) (by decide +kernel), List.mem_of_getElem? (i := 871) (by decide +kernel)⟩
theorem lw_p61 : lw_okq (⟨"WaysAtlas$Coder", "writeReturn", "(I)V"⟩, 8) := ⟨⟨by decide +kernel, by decide +kernel⟩, List.mem_of_getElem? (i := 164) (by decide +kernel), List.mem_of_getElem? (i := 874) (by decide +kernel), List.mem_of_getElem? (i := 875) (by decide +kernel)⟩
theorem lw_p62 : lw_okq (⟨"WaysAtlas$Coder", "writePlain", "(I)V"⟩, 8) := ⟨⟨by decide +kernel, by decide +kernel⟩, List.mem_of_getElem? (i := 164) (by decide +kernel), List.mem_of_getElem? (i := 878) (by decide +kernel), List.mem_of_getElem? (i := 879) (by decide +kernel)⟩
theorem lw_p63 : lw_okq (⟨"WaysAtlas", "isNoMethod", "(I)Z"⟩, 17) := ⟨⟨by decide +kernel, by decide +kernel⟩, List.mem_of_getElem? (i := 19) (by decide +kernel), List.mem_of_getElem? (i := 907) (by decide +kernel), List.mem_of_getElem? (i := 908) (by decide +kernel)⟩
def lw_privs_4 : List (MethodName × Nat) := [(⟨"WaysAtlas$Coder", "newHandler", "(II)I"⟩, 8), (⟨"WaysAtlas$Coder", "newCatchHandlers", "(II)I"⟩, 8), (⟨"WaysAtlas$Coder", "writeHeld", "(III)I"⟩, 8), (⟨"WaysAtlas$Coder", "writeClosings", "(II)V"⟩, 8), (⟨"WaysAtlas$Coder", "writeEnd", "(III)I"⟩, 8), (⟨"WaysAtlas$Coder", "writeFinish", "(II)V"⟩, 8), (⟨"WaysAtlas$Coder", "writeFinishing", "(II)V"⟩, 8), (⟨"WaysAtlas$Coder", "writeCatches", "(IIIII)I"⟩, 8), (⟨"WaysAtlas$Coder", "writeLast", "(III)V"⟩, 8), (⟨"WaysAtlas$Coder", "writeJump", "(IZI)V"⟩, 8), (⟨"WaysAtlas$Coder", "contextOf", "(I)I"⟩, 8), (⟨"WaysAtlas$Coder", "writeWayOut", "(IZI)V"⟩, 8), (⟨"WaysAtlas$Coder", "writePassing", "(IIZI)V"⟩, 8), (⟨"WaysAtlas$Coder", "writeReturn", "(I)V"⟩, 8), (⟨"WaysAtlas$Coder", "writePlain", "(I)V"⟩, 8), (⟨"WaysAtlas", "isNoMethod", "(I)Z"⟩, 17)]
theorem lw_r4 : ∀ q ∈ lw_privs_4, lw_okq q := List.forall_mem_cons.mpr ⟨lw_p48, List.forall_mem_cons.mpr ⟨lw_p49, List.forall_mem_cons.mpr ⟨lw_p50, List.forall_mem_cons.mpr ⟨lw_p51, List.forall_mem_cons.mpr ⟨lw_p52, List.forall_mem_cons.mpr ⟨lw_p53, List.forall_mem_cons.mpr ⟨lw_p54, List.forall_mem_cons.mpr ⟨lw_p55, List.forall_mem_cons.mpr ⟨lw_p56, List.forall_mem_cons.mpr ⟨lw_p57, List.forall_mem_cons.mpr ⟨lw_p58, List.forall_mem_cons.mpr ⟨lw_p59, List.forall_mem_cons.mpr ⟨lw_p60, List.forall_mem_cons.mpr ⟨lw_p61, List.forall_mem_cons.mpr ⟨lw_p62, List.forall_mem_cons.mpr ⟨lw_p63, fun _ h => absurd h List.not_mem_nil⟩⟩⟩⟩⟩⟩⟩⟩⟩⟩⟩⟩⟩⟩⟩⟩
theorem lw_p64 : lw_okq (⟨"WaysAtlas", "perform", "(ZLWaysAtlas$RunRecord;LWaysAtlas$Table;IIII)I"⟩, 17) := ⟨⟨by decide +kernel, by decide +kernel⟩, List.mem_of_getElem? (i := 19) (by decide +kernel), List.mem_of_getElem? (i := 911) (by decide +kernel), List.mem_of_getElem? (i := 912) (by decide +kernel)⟩
theorem lw_p65 : lw_okq (⟨"WaysAtlas$Walker", "enter", "(III)V"⟩, 7) := ⟨⟨by decide +kernel, by decide +kernel⟩, List.mem_of_getElem? (i := 321) (by decide +kernel), List.mem_of_getElem? (i := 930) (by decide +kernel), List.mem_of_getElem? (i := 931) (by decide +kernel)⟩
theorem lw_p66 : lw_okq (⟨"WaysAtlas$Walker", "begin", "(I)V"⟩, 7) := ⟨⟨by decide +kernel, by decide +kernel⟩, List.mem_of_getElem? (i := 321) (by decide +kernel), List.mem_of_getElem? (i := 956) (by decide +kernel), List.mem_of_getElem? (i := 957) (by decide +kernel)⟩
theorem lw_p67 : lw_okq (⟨"WaysAtlas$Walker", "at", "(II)I"⟩, 7) := ⟨⟨by decide +kernel, by decide +kernel⟩, List.mem_of_getElem? (i := 321) (by decide +kernel), List.mem_of_getElem? (i := 965) (by decide +kernel), List.mem_of_getElem? (i := 966) (by decide +kernel)⟩
theorem lw_p68 : lw_okq (⟨"WaysAtlas$Walker", "sum", "(II)I"⟩, 7) := ⟨⟨by decide +kernel, by decide +kernel⟩, List.mem_of_getElem? (i := 321) (by decide +kernel), List.mem_of_getElem? (i := 969) (by decide +kernel), List.mem_of_getElem? (i := 970) (by decide +kernel)⟩
theorem lw_p69 : lw_okq (⟨"WaysAtlas$Walker", "list", "(II)I"⟩, 7) := ⟨⟨by decide +kernel, by decide +kernel⟩, List.mem_of_getElem? (i := 321) (by decide +kernel), List.mem_of_getElem? (i := 982) (by decide +kernel), List.mem_of_getElem? (i := 983) (by decide +kernel)⟩
theorem lw_p70 : lw_okq (⟨"WaysAtlas$World", "lacking", "(II)I"⟩, 11) := ⟨⟨by decide +kernel, by decide +kernel⟩, List.mem_of_getElem? (i := 264) (by decide +kernel), List.mem_of_getElem? (i := 994) (by decide +kernel), List.mem_of_getElem? (i := 995) (by decide +kernel)⟩
theorem lw_p71 : lw_okq (⟨"WaysAtlas$Walker", "execute", "(I)V"⟩, 7) := ⟨⟨by decide +kernel, by decide +kernel⟩, List.mem_of_getElem? (i := 321) (by decide +kernel), List.mem_of_getElem? (i := 998) (by decide +kernel), List.mem_of_getElem? (i := 999) (by decide +kernel)⟩
theorem lw_p72 : lw_okq (⟨"WaysAtlas$World", "pass", "(II)I"⟩, 11) := ⟨⟨by decide +kernel, by decide +kernel⟩, List.mem_of_getElem? (i := 264) (by decide +kernel), List.mem_of_getElem? (i := 1006) (by decide +kernel), List.mem_of_getElem? (i := 1007) (by decide +kernel)⟩
theorem lw_p73 : lw_okq (⟨"WaysAtlas$Walker", "endBy", "(II)V"⟩, 7) := ⟨⟨by decide +kernel, by decide +kernel⟩, List.mem_of_getElem? (i := 321) (by decide +kernel), List.mem_of_getElem? (i := 1023) (by decide +kernel), List.mem_of_getElem? (i := 1024) (by decide +kernel)⟩
theorem lw_p74 : lw_okq (⟨"WaysAtlas$Walker", "enterBlock", "(II)V"⟩, 7) := ⟨⟨by decide +kernel, by decide +kernel⟩, List.mem_of_getElem? (i := 321) (by decide +kernel), List.mem_of_getElem? (i := 1031) (by decide +kernel), List.mem_of_getElem? (i := 1032) (by decide +kernel)⟩
theorem lw_p75 : lw_okq (⟨"WaysAtlas$Walker", "setSlot", "(III)V"⟩, 7) := ⟨⟨by decide +kernel, by decide +kernel⟩, List.mem_of_getElem? (i := 321) (by decide +kernel), List.mem_of_getElem? (i := 1035) (by decide +kernel), List.mem_of_getElem? (i := 1036) (by decide +kernel)⟩
theorem lw_p76 : lw_okq (⟨"WaysAtlas$Walker", "turn", "(I)V"⟩, 7) := ⟨⟨by decide +kernel, by decide +kernel⟩, List.mem_of_getElem? (i := 321) (by decide +kernel), List.mem_of_getElem? (i := 1043) (by decide +kernel), List.mem_of_getElem? (i := 1044) (by decide +kernel)⟩
theorem lw_p77 : lw_okq (⟨"WaysAtlas$Walker", "slot", "(II)I"⟩, 7) := ⟨⟨by decide +kernel, by decide +kernel⟩, List.mem_of_getElem? (i := 321) (by decide +kernel), List.mem_of_getElem? (i := 1047) (by decide +kernel), List.mem_of_getElem? (i := 1048) (by decide +kernel)⟩
theorem lw_p78 : lw_okq (⟨"WaysAtlas$Walker", "goOn", "(I)V"⟩, 7) := ⟨⟨by decide +kernel, by decide +kernel⟩, List.mem_of_getElem? (i := 321) (by decide +kernel), List.mem_of_getElem? (i := 1055) (by decide +kernel), List.mem_of_getElem? (i := 1056) (by decide +kernel)⟩
theorem lw_p79 : lw_okq (⟨"WaysAtlas$Walker", "takeThrown", "()V"⟩, 7) := ⟨⟨by decide +kernel, by decide +kernel⟩, List.mem_of_getElem? (i := 321) (by decide +kernel), List.mem_of_getElem? (i := 1059) (by decide +kernel), List.mem_of_getElem? (i := 1060) (by decide +kernel)⟩
def lw_privs_5 : List (MethodName × Nat) := [(⟨"WaysAtlas", "perform", "(ZLWaysAtlas$RunRecord;LWaysAtlas$Table;IIII)I"⟩, 17), (⟨"WaysAtlas$Walker", "enter", "(III)V"⟩, 7), (⟨"WaysAtlas$Walker", "begin", "(I)V"⟩, 7), (⟨"WaysAtlas$Walker", "at", "(II)I"⟩, 7), (⟨"WaysAtlas$Walker", "sum", "(II)I"⟩, 7), (⟨"WaysAtlas$Walker", "list", "(II)I"⟩, 7), (⟨"WaysAtlas$World", "lacking", "(II)I"⟩, 11), (⟨"WaysAtlas$Walker", "execute", "(I)V"⟩, 7), (⟨"WaysAtlas$World", "pass", "(II)I"⟩, 11), (⟨"WaysAtlas$Walker", "endBy", "(II)V"⟩, 7), (⟨"WaysAtlas$Walker", "enterBlock", "(II)V"⟩, 7), (⟨"WaysAtlas$Walker", "setSlot", "(III)V"⟩, 7), (⟨"WaysAtlas$Walker", "turn", "(I)V"⟩, 7), (⟨"WaysAtlas$Walker", "slot", "(II)I"⟩, 7), (⟨"WaysAtlas$Walker", "goOn", "(I)V"⟩, 7), (⟨"WaysAtlas$Walker", "takeThrown", "()V"⟩, 7)]
theorem lw_r5 : ∀ q ∈ lw_privs_5, lw_okq q := List.forall_mem_cons.mpr ⟨lw_p64, List.forall_mem_cons.mpr ⟨lw_p65, List.forall_mem_cons.mpr ⟨lw_p66, List.forall_mem_cons.mpr ⟨lw_p67, List.forall_mem_cons.mpr ⟨lw_p68, List.forall_mem_cons.mpr ⟨lw_p69, List.forall_mem_cons.mpr ⟨lw_p70, List.forall_mem_cons.mpr ⟨lw_p71, List.forall_mem_cons.mpr ⟨lw_p72, List.forall_mem_cons.mpr ⟨lw_p73, List.forall_mem_cons.mpr ⟨lw_p74, List.forall_mem_cons.mpr ⟨lw_p75, List.forall_mem_cons.mpr ⟨lw_p76, List.forall_mem_cons.mpr ⟨lw_p77, List.forall_mem_cons.mpr ⟨lw_p78, List.forall_mem_cons.mpr ⟨lw_p79, fun _ h => absurd h List.not_mem_nil⟩⟩⟩⟩⟩⟩⟩⟩⟩⟩⟩⟩⟩⟩⟩⟩
theorem lw_p80 : lw_okq (⟨"WaysAtlas$Walker", "leave", "()V"⟩, 7) := ⟨⟨by decide +kernel, by decide +kernel⟩, List.mem_of_getElem? (i := 321) (by decide +kernel), List.mem_of_getElem? (i := 1063) (by decide +kernel), List.mem_of_getElem? (i := 1064) (by decide +kernel)⟩
theorem lw_p81 : lw_okq (⟨"WaysAtlas$Walker", "endPhase", "(I)V"⟩, 7) := ⟨⟨by decide +kernel, by decide +kernel⟩, List.mem_of_getElem? (i := 321) (by decide +kernel), List.mem_of_getElem? (i := 1076) (by decide +kernel), List.mem_of_getElem? (i := 1077) (by decide +kernel)⟩
theorem lw_p82 : lw_okq (⟨"WaysAtlas$Walker", "openNext", "(I)V"⟩, 7) := ⟨⟨by decide +kernel, by decide +kernel⟩, List.mem_of_getElem? (i := 321) (by decide +kernel), List.mem_of_getElem? (i := 1080) (by decide +kernel), List.mem_of_getElem? (i := 1081) (by decide +kernel)⟩
theorem lw_p83 : lw_okq (⟨"WaysAtlas$Walker", "closeNext", "(I)V"⟩, 7) := ⟨⟨by decide +kernel, by decide +kernel⟩, List.mem_of_getElem? (i := 321) (by decide +kernel), List.mem_of_getElem? (i := 1089) (by decide +kernel), List.mem_of_getElem? (i := 1090) (by decide +kernel)⟩
theorem lw_p84 : lw_okq (⟨"WaysAtlas$Walker", "chooseCatch", "(I)V"⟩, 7) := ⟨⟨by decide +kernel, by decide +kernel⟩, List.mem_of_getElem? (i := 321) (by decide +kernel), List.mem_of_getElem? (i := 1102) (by decide +kernel), List.mem_of_getElem? (i := 1103) (by decide +kernel)⟩
theorem lw_p85 : lw_okq (⟨"WaysAtlas$Walker", "finish", "(I)V"⟩, 7) := ⟨⟨by decide +kernel, by decide +kernel⟩, List.mem_of_getElem? (i := 321) (by decide +kernel), List.mem_of_getElem? (i := 1111) (by decide +kernel), List.mem_of_getElem? (i := 1112) (by decide +kernel)⟩
theorem lw_p86 : lw_okq (⟨"WaysAtlas$Walker", "endFinally", "(I)V"⟩, 7) := ⟨⟨by decide +kernel, by decide +kernel⟩, List.mem_of_getElem? (i := 321) (by decide +kernel), List.mem_of_getElem? (i := 1119) (by decide +kernel), List.mem_of_getElem? (i := 1120) (by decide +kernel)⟩
theorem lw_p87 : lw_okq (⟨"WaysAtlas$Walker", "endTurn", "(I)V"⟩, 7) := ⟨⟨by decide +kernel, by decide +kernel⟩, List.mem_of_getElem? (i := 321) (by decide +kernel), List.mem_of_getElem? (i := 1123) (by decide +kernel), List.mem_of_getElem? (i := 1124) (by decide +kernel)⟩
theorem lw_p88 : lw_okq (⟨"WaysAtlas$Machine", "evaluate", "(II)V"⟩, 7) := ⟨⟨by decide +kernel, by decide +kernel⟩, List.mem_of_getElem? (i := 349) (by decide +kernel), List.mem_of_getElem? (i := 1136) (by decide +kernel), List.mem_of_getElem? (i := 1137) (by decide +kernel)⟩
theorem lw_p89 : lw_okq (⟨"WaysAtlas$Machine", "push", "(I)V"⟩, 7) := ⟨⟨by decide +kernel, by decide +kernel⟩, List.mem_of_getElem? (i := 349) (by decide +kernel), List.mem_of_getElem? (i := 1140) (by decide +kernel), List.mem_of_getElem? (i := 1141) (by decide +kernel)⟩
theorem lw_p90 : lw_okq (⟨"WaysAtlas$Machine", "pop", "()I"⟩, 7) := ⟨⟨by decide +kernel, by decide +kernel⟩, List.mem_of_getElem? (i := 349) (by decide +kernel), List.mem_of_getElem? (i := 1147) (by decide +kernel), List.mem_of_getElem? (i := 1148) (by decide +kernel)⟩
theorem lw_p91 : lw_okq (⟨"WaysAtlas$Machine", "change", "(III)V"⟩, 7) := ⟨⟨by decide +kernel, by decide +kernel⟩, List.mem_of_getElem? (i := 349) (by decide +kernel), List.mem_of_getElem? (i := 1155) (by decide +kernel), List.mem_of_getElem? (i := 1156) (by decide +kernel)⟩
theorem lw_p92 : lw_okq (⟨"WaysAtlas$Machine", "flow", "(III)V"⟩, 7) := ⟨⟨by decide +kernel, by decide +kernel⟩, List.mem_of_getElem? (i := 349) (by decide +kernel), List.mem_of_getElem? (i := 1164) (by decide +kernel), List.mem_of_getElem? (i := 1165) (by decide +kernel)⟩
theorem lw_p93 : lw_okq (⟨"WaysAtlas$Machine", "turn", "(II)V"⟩, 7) := ⟨⟨by decide +kernel, by decide +kernel⟩, List.mem_of_getElem? (i := 349) (by decide +kernel), List.mem_of_getElem? (i := 1170) (by decide +kernel), List.mem_of_getElem? (i := 1171) (by decide +kernel)⟩
theorem lw_p94 : lw_okq (⟨"WaysAtlas$Machine", "call", "(I)V"⟩, 7) := ⟨⟨by decide +kernel, by decide +kernel⟩, List.mem_of_getElem? (i := 349) (by decide +kernel), List.mem_of_getElem? (i := 1175) (by decide +kernel), List.mem_of_getElem? (i := 1176) (by decide +kernel)⟩
theorem lw_p95 : lw_okq (⟨"WaysAtlas$Machine", "giveBack", "()V"⟩, 7) := ⟨⟨by decide +kernel, by decide +kernel⟩, List.mem_of_getElem? (i := 349) (by decide +kernel), List.mem_of_getElem? (i := 1181) (by decide +kernel), List.mem_of_getElem? (i := 1182) (by decide +kernel)⟩
def lw_privs_6 : List (MethodName × Nat) := [(⟨"WaysAtlas$Walker", "leave", "()V"⟩, 7), (⟨"WaysAtlas$Walker", "endPhase", "(I)V"⟩, 7), (⟨"WaysAtlas$Walker", "openNext", "(I)V"⟩, 7), (⟨"WaysAtlas$Walker", "closeNext", "(I)V"⟩, 7), (⟨"WaysAtlas$Walker", "chooseCatch", "(I)V"⟩, 7), (⟨"WaysAtlas$Walker", "finish", "(I)V"⟩, 7), (⟨"WaysAtlas$Walker", "endFinally", "(I)V"⟩, 7), (⟨"WaysAtlas$Walker", "endTurn", "(I)V"⟩, 7), (⟨"WaysAtlas$Machine", "evaluate", "(II)V"⟩, 7), (⟨"WaysAtlas$Machine", "push", "(I)V"⟩, 7), (⟨"WaysAtlas$Machine", "pop", "()I"⟩, 7), (⟨"WaysAtlas$Machine", "change", "(III)V"⟩, 7), (⟨"WaysAtlas$Machine", "flow", "(III)V"⟩, 7), (⟨"WaysAtlas$Machine", "turn", "(II)V"⟩, 7), (⟨"WaysAtlas$Machine", "call", "(I)V"⟩, 7), (⟨"WaysAtlas$Machine", "giveBack", "()V"⟩, 7)]
theorem lw_r6 : ∀ q ∈ lw_privs_6, lw_okq q := List.forall_mem_cons.mpr ⟨lw_p80, List.forall_mem_cons.mpr ⟨lw_p81, List.forall_mem_cons.mpr ⟨lw_p82, List.forall_mem_cons.mpr ⟨lw_p83, List.forall_mem_cons.mpr ⟨lw_p84, List.forall_mem_cons.mpr ⟨lw_p85, List.forall_mem_cons.mpr ⟨lw_p86, List.forall_mem_cons.mpr ⟨lw_p87, List.forall_mem_cons.mpr ⟨lw_p88, List.forall_mem_cons.mpr ⟨lw_p89, List.forall_mem_cons.mpr ⟨lw_p90, List.forall_mem_cons.mpr ⟨lw_p91, List.forall_mem_cons.mpr ⟨lw_p92, List.forall_mem_cons.mpr ⟨lw_p93, List.forall_mem_cons.mpr ⟨lw_p94, List.forall_mem_cons.mpr ⟨lw_p95, fun _ h => absurd h List.not_mem_nil⟩⟩⟩⟩⟩⟩⟩⟩⟩⟩⟩⟩⟩⟩⟩⟩
theorem lw_p96 : lw_okq (⟨"WaysAtlas$Machine", "fail", "(III)V"⟩, 7) := ⟨⟨by decide +kernel, by decide +kernel⟩, List.mem_of_getElem? (i := 349) (by decide +kernel), List.mem_of_getElem? (i := 1187) (by decide +kernel), List.mem_of_getElem? (i := 1188) (by decide +kernel)⟩
theorem lw_p97 : lw_okq (⟨"WaysAtlas$Machine", "lose", "(I)V"⟩, 7) := ⟨⟨by decide +kernel, by decide +kernel⟩, List.mem_of_getElem? (i := 349) (by decide +kernel), List.mem_of_getElem? (i := 1192) (by decide +kernel), List.mem_of_getElem? (i := 1193) (by decide +kernel)⟩
theorem lw_p98 : lw_okq (⟨"WaysAtlas$Machine", "closeUnder", "(II)V"⟩, 7) := ⟨⟨by decide +kernel, by decide +kernel⟩, List.mem_of_getElem? (i := 349) (by decide +kernel), List.mem_of_getElem? (i := 1198) (by decide +kernel), List.mem_of_getElem? (i := 1199) (by decide +kernel)⟩
theorem lw_p99 : lw_okq (⟨"WaysAtlas$Machine", "unwind", "()V"⟩, 7) := ⟨⟨by decide +kernel, by decide +kernel⟩, List.mem_of_getElem? (i := 349) (by decide +kernel), List.mem_of_getElem? (i := 1203) (by decide +kernel), List.mem_of_getElem? (i := 1204) (by decide +kernel)⟩
theorem lw_p100 : lw_okq (⟨"WaysAtlas$Machine", "handlerOf", "(II)I"⟩, 7) := ⟨⟨by decide +kernel, by decide +kernel⟩, List.mem_of_getElem? (i := 349) (by decide +kernel), List.mem_of_getElem? (i := 1208) (by decide +kernel), List.mem_of_getElem? (i := 1209) (by decide +kernel)⟩
theorem lw_p101 : lw_okq (⟨"WaysAtlas", "isNoRun", "(I)Z"⟩, 17) := ⟨⟨by decide +kernel, by decide +kernel⟩, List.mem_of_getElem? (i := 19) (by decide +kernel), List.mem_of_getElem? (i := 1217) (by decide +kernel), List.mem_of_getElem? (i := 1218) (by decide +kernel)⟩
theorem lw_p102 : lw_okq (⟨"WaysAtlas", "chosen", "(I)LWaysAtlas$RunRecord;"⟩, 17) := ⟨⟨by decide +kernel, by decide +kernel⟩, List.mem_of_getElem? (i := 19) (by decide +kernel), List.mem_of_getElem? (i := 1221) (by decide +kernel), List.mem_of_getElem? (i := 1222) (by decide +kernel)⟩
theorem lw_p103 : lw_okq (⟨"WaysAtlas", "noteOutcome", "()V"⟩, 17) := ⟨⟨by decide +kernel, by decide +kernel⟩, List.mem_of_getElem? (i := 19) (by decide +kernel), List.mem_of_getElem? (i := 1263) (by decide +kernel), List.mem_of_getElem? (i := 1264) (by decide +kernel)⟩
theorem lw_p104 : lw_okq (⟨"WaysAtlas", "planAlone", "(I)V"⟩, 17) := ⟨⟨by decide +kernel, by decide +kernel⟩, List.mem_of_getElem? (i := 19) (by decide +kernel), List.mem_of_getElem? (i := 1267) (by decide +kernel), List.mem_of_getElem? (i := 1268) (by decide +kernel)⟩
theorem lw_p105 : lw_okq (⟨"WaysAtlasModel", "reads", "()V"⟩, 96) := ⟨⟨by decide +kernel, by decide +kernel⟩, List.mem_of_getElem? (i := 1285) (by decide +kernel), List.mem_of_getElem? (i := 1614) (by decide +kernel), List.mem_of_getElem? (i := 1615) (by decide +kernel)⟩
theorem lw_p106 : lw_okq (⟨"WaysAtlasModel", "advance", "()V"⟩, 96) := ⟨⟨by decide +kernel, by decide +kernel⟩, List.mem_of_getElem? (i := 1285) (by decide +kernel), List.mem_of_getElem? (i := 1618) (by decide +kernel), List.mem_of_getElem? (i := 1619) (by decide +kernel)⟩
theorem lw_p107 : lw_okq (⟨"WaysAtlasModel", "isLetter", "(I)Z"⟩, 96) := ⟨⟨by decide +kernel, by decide +kernel⟩, List.mem_of_getElem? (i := 1285) (by decide +kernel), List.mem_of_getElem? (i := 1622) (by decide +kernel), List.mem_of_getElem? (i := 1623) (by decide +kernel)⟩
theorem lw_p108 : lw_okq (⟨"WaysAtlasModel", "byteAt", "(I)I"⟩, 96) := ⟨⟨by decide +kernel, by decide +kernel⟩, List.mem_of_getElem? (i := 1285) (by decide +kernel), List.mem_of_getElem? (i := 1626) (by decide +kernel), List.mem_of_getElem? (i := 1627) (by decide +kernel)⟩
theorem lw_p109 : lw_okq (⟨"WaysAtlasModel", "wordOrName", "()V"⟩, 96) := ⟨⟨by decide +kernel, by decide +kernel⟩, List.mem_of_getElem? (i := 1285) (by decide +kernel), List.mem_of_getElem? (i := 1630) (by decide +kernel), List.mem_of_getElem? (i := 1631) (by decide +kernel)⟩
theorem lw_p110 : lw_okq (⟨"WaysAtlasModel", "isDigit", "(I)Z"⟩, 96) := ⟨⟨by decide +kernel, by decide +kernel⟩, List.mem_of_getElem? (i := 1285) (by decide +kernel), List.mem_of_getElem? (i := 1637) (by decide +kernel), List.mem_of_getElem? (i := 1638) (by decide +kernel)⟩
theorem lw_p111 : lw_okq (⟨"WaysAtlasModel", "digits", "()I"⟩, 96) := ⟨⟨by decide +kernel, by decide +kernel⟩, List.mem_of_getElem? (i := 1285) (by decide +kernel), List.mem_of_getElem? (i := 1641) (by decide +kernel), List.mem_of_getElem? (i := 1642) (by decide +kernel)⟩
def lw_privs_7 : List (MethodName × Nat) := [(⟨"WaysAtlas$Machine", "fail", "(III)V"⟩, 7), (⟨"WaysAtlas$Machine", "lose", "(I)V"⟩, 7), (⟨"WaysAtlas$Machine", "closeUnder", "(II)V"⟩, 7), (⟨"WaysAtlas$Machine", "unwind", "()V"⟩, 7), (⟨"WaysAtlas$Machine", "handlerOf", "(II)I"⟩, 7), (⟨"WaysAtlas", "isNoRun", "(I)Z"⟩, 17), (⟨"WaysAtlas", "chosen", "(I)LWaysAtlas$RunRecord;"⟩, 17), (⟨"WaysAtlas", "noteOutcome", "()V"⟩, 17), (⟨"WaysAtlas", "planAlone", "(I)V"⟩, 17), (⟨"WaysAtlasModel", "reads", "()V"⟩, 96), (⟨"WaysAtlasModel", "advance", "()V"⟩, 96), (⟨"WaysAtlasModel", "isLetter", "(I)Z"⟩, 96), (⟨"WaysAtlasModel", "byteAt", "(I)I"⟩, 96), (⟨"WaysAtlasModel", "wordOrName", "()V"⟩, 96), (⟨"WaysAtlasModel", "isDigit", "(I)Z"⟩, 96), (⟨"WaysAtlasModel", "digits", "()I"⟩, 96)]
theorem lw_r7 : ∀ q ∈ lw_privs_7, lw_okq q := List.forall_mem_cons.mpr ⟨lw_p96, List.forall_mem_cons.mpr ⟨lw_p97, List.forall_mem_cons.mpr ⟨lw_p98, List.forall_mem_cons.mpr ⟨lw_p99, List.forall_mem_cons.mpr ⟨lw_p100, List.forall_mem_cons.mpr ⟨lw_p101, List.forall_mem_cons.mpr ⟨lw_p102, List.forall_mem_cons.mpr ⟨lw_p103, List.forall_mem_cons.mpr ⟨lw_p104, List.forall_mem_cons.mpr ⟨lw_p105, List.forall_mem_cons.mpr ⟨lw_p106, List.forall_mem_cons.mpr ⟨lw_p107, List.forall_mem_cons.mpr ⟨lw_p108, List.forall_mem_cons.mpr ⟨lw_p109, List.forall_mem_cons.mpr ⟨lw_p110, List.forall_mem_cons.mpr ⟨lw_p111, fun _ h => absurd h List.not_mem_nil⟩⟩⟩⟩⟩⟩⟩⟩⟩⟩⟩⟩⟩⟩⟩⟩
theorem lw_p112 : lw_okq (⟨"WaysAtlasModel", "outside", "()V"⟩, 96) := ⟨⟨by decide +kernel, by decide +kernel⟩, List.mem_of_getElem? (i := 1285) (by decide +kernel), List.mem_of_getElem? (i := 1648) (by decide +kernel), List.mem_of_getElem? (i := 1649) (by decide +kernel)⟩
theorem lw_p113 : lw_okq (⟨"WaysAtlasModel", "isWord", "(I)Z"⟩, 96) := ⟨⟨by decide +kernel, by decide +kernel⟩, List.mem_of_getElem? (i := 1285) (by decide +kernel), List.mem_of_getElem? (i := 1652) (by decide +kernel), List.mem_of_getElem? (i := 1653) (by decide +kernel)⟩
theorem lw_p114 : lw_okq (⟨"WaysAtlasModel", "fails", "(II)V"⟩, 96) := ⟨⟨by decide +kernel, by decide +kernel⟩, List.mem_of_getElem? (i := 1285) (by decide +kernel), List.mem_of_getElem? (i := 1656) (by decide +kernel), List.mem_of_getElem? (i := 1657) (by decide +kernel)⟩
theorem lw_p115 : lw_okq (⟨"WaysAtlasModel", "cannot", "()V"⟩, 96) := ⟨⟨by decide +kernel, by decide +kernel⟩, List.mem_of_getElem? (i := 1285) (by decide +kernel), List.mem_of_getElem? (i := 1660) (by decide +kernel), List.mem_of_getElem? (i := 1661) (by decide +kernel)⟩
theorem lw_p116 : lw_okq (⟨"WaysAtlasModel", "takeKind", "(I)I"⟩, 96) := ⟨⟨by decide +kernel, by decide +kernel⟩, List.mem_of_getElem? (i := 1285) (by decide +kernel), List.mem_of_getElem? (i := 1664) (by decide +kernel), List.mem_of_getElem? (i := 1665) (by decide +kernel)⟩
theorem lw_p117 : lw_okq (⟨"WaysAtlasModel", "isName", "(I)Z"⟩, 96) := ⟨⟨by decide +kernel, by decide +kernel⟩, List.mem_of_getElem? (i := 1285) (by decide +kernel), List.mem_of_getElem? (i := 1668) (by decide +kernel), List.mem_of_getElem? (i := 1669) (by decide +kernel)⟩
theorem lw_p118 : lw_okq (⟨"WaysAtlasModel", "check", "(III)V"⟩, 96) := ⟨⟨by decide +kernel, by decide +kernel⟩, List.mem_of_getElem? (i := 1285) (by decide +kernel), List.mem_of_getElem? (i := 1672) (by decide +kernel), List.mem_of_getElem? (i := 1673) (by decide +kernel)⟩
theorem lw_p119 : lw_okq (⟨"WaysAtlasModel", "takeSign", "(I)V"⟩, 96) := ⟨⟨by decide +kernel, by decide +kernel⟩, List.mem_of_getElem? (i := 1285) (by decide +kernel), List.mem_of_getElem? (i := 1676) (by decide +kernel), List.mem_of_getElem? (i := 1677) (by decide +kernel)⟩
theorem lw_p120 : lw_okq (⟨"WaysAtlasModel", "isSign", "(I)Z"⟩, 96) := ⟨⟨by decide +kernel, by decide +kernel⟩, List.mem_of_getElem? (i := 1285) (by decide +kernel), List.mem_of_getElem? (i := 1680) (by decide +kernel), List.mem_of_getElem? (i := 1681) (by decide +kernel)⟩
theorem lw_p121 : lw_okq (⟨"WaysAtlasModel", "opens", "(II)I"⟩, 96) := ⟨⟨by decide +kernel, by decide +kernel⟩, List.mem_of_getElem? (i := 1285) (by decide +kernel), List.mem_of_getElem? (i := 1684) (by decide +kernel), List.mem_of_getElem? (i := 1685) (by decide +kernel)⟩
theorem lw_p122 : lw_okq (⟨"WaysAtlasModel", "closes", "()V"⟩, 96) := ⟨⟨by decide +kernel, by decide +kernel⟩, List.mem_of_getElem? (i := 1285) (by decide +kernel), List.mem_of_getElem? (i := 1688) (by decide +kernel), List.mem_of_getElem? (i := 1689) (by decide +kernel)⟩
theorem lw_p123 : lw_okq (⟨"WaysAtlasModel", "put", "(III)V"⟩, 96) := ⟨⟨by decide +kernel, by decide +kernel⟩, List.mem_of_getElem? (i := 1285) (by decide +kernel), List.mem_of_getElem? (i := 1692) (by decide +kernel), List.mem_of_getElem? (i := 1693) (by decide +kernel)⟩
theorem lw_p124 : lw_okq (⟨"WaysAtlasModel", "ofCatch", "(I)V"⟩, 96) := ⟨⟨by decide +kernel, by decide +kernel⟩, List.mem_of_getElem? (i := 1285) (by decide +kernel), List.mem_of_getElem? (i := 1696) (by decide +kernel), List.mem_of_getElem? (i := 1697) (by decide +kernel)⟩
theorem lw_p125 : lw_okq (⟨"WaysAtlasModel", "statement", "()V"⟩, 96) := ⟨⟨by decide +kernel, by decide +kernel⟩, List.mem_of_getElem? (i := 1285) (by decide +kernel), List.mem_of_getElem? (i := 1700) (by decide +kernel), List.mem_of_getElem? (i := 1701) (by decide +kernel)⟩
theorem lw_p126 : lw_okq (⟨"WaysAtlasModel", "canBegin", "()Z"⟩, 96) := ⟨⟨by decide +kernel, by decide +kernel⟩, List.mem_of_getElem? (i := 1285) (by decide +kernel), List.mem_of_getElem? (i := 1704) (by decide +kernel), List.mem_of_getElem? (i := 1705) (by decide +kernel)⟩
theorem lw_p127 : lw_okq (⟨"WaysAtlasModel", "ofVar", "()V"⟩, 96) := ⟨⟨by decide +kernel, by decide +kernel⟩, List.mem_of_getElem? (i := 1285) (by decide +kernel), List.mem_of_getElem? (i := 1708) (by decide +kernel), List.mem_of_getElem? (i := 1709) (by decide +kernel)⟩
def lw_privs_8 : List (MethodName × Nat) := [(⟨"WaysAtlasModel", "outside", "()V"⟩, 96), (⟨"WaysAtlasModel", "isWord", "(I)Z"⟩, 96), (⟨"WaysAtlasModel", "fails", "(II)V"⟩, 96), (⟨"WaysAtlasModel", "cannot", "()V"⟩, 96), (⟨"WaysAtlasModel", "takeKind", "(I)I"⟩, 96), (⟨"WaysAtlasModel", "isName", "(I)Z"⟩, 96), (⟨"WaysAtlasModel", "check", "(III)V"⟩, 96), (⟨"WaysAtlasModel", "takeSign", "(I)V"⟩, 96), (⟨"WaysAtlasModel", "isSign", "(I)Z"⟩, 96), (⟨"WaysAtlasModel", "opens", "(II)I"⟩, 96), (⟨"WaysAtlasModel", "closes", "()V"⟩, 96), (⟨"WaysAtlasModel", "put", "(III)V"⟩, 96), (⟨"WaysAtlasModel", "ofCatch", "(I)V"⟩, 96), (⟨"WaysAtlasModel", "statement", "()V"⟩, 96), (⟨"WaysAtlasModel", "canBegin", "()Z"⟩, 96), (⟨"WaysAtlasModel", "ofVar", "()V"⟩, 96)]
theorem lw_r8 : ∀ q ∈ lw_privs_8, lw_okq q := List.forall_mem_cons.mpr ⟨lw_p112, List.forall_mem_cons.mpr ⟨lw_p113, List.forall_mem_cons.mpr ⟨lw_p114, List.forall_mem_cons.mpr ⟨lw_p115, List.forall_mem_cons.mpr ⟨lw_p116, List.forall_mem_cons.mpr ⟨lw_p117, List.forall_mem_cons.mpr ⟨lw_p118, List.forall_mem_cons.mpr ⟨lw_p119, List.forall_mem_cons.mpr ⟨lw_p120, List.forall_mem_cons.mpr ⟨lw_p121, List.forall_mem_cons.mpr ⟨lw_p122, List.forall_mem_cons.mpr ⟨lw_p123, List.forall_mem_cons.mpr ⟨lw_p124, List.forall_mem_cons.mpr ⟨lw_p125, List.forall_mem_cons.mpr ⟨lw_p126, List.forall_mem_cons.mpr ⟨lw_p127, fun _ h => absurd h List.not_mem_nil⟩⟩⟩⟩⟩⟩⟩⟩⟩⟩⟩⟩⟩⟩⟩⟩
theorem lw_p128 : lw_okq (⟨"WaysAtlasModel", "comes", "(I)I"⟩, 96) := ⟨⟨by decide +kernel, by decide +kernel⟩, List.mem_of_getElem? (i := 1285) (by decide +kernel), List.mem_of_getElem? (i := 1712) (by decide +kernel), List.mem_of_getElem? (i := 1713) (by decide +kernel)⟩
theorem lw_p129 : lw_okq (⟨"WaysAtlasModel", "call", "(I)V"⟩, 96) := ⟨⟨by decide +kernel, by decide +kernel⟩, List.mem_of_getElem? (i := 1285) (by decide +kernel), List.mem_of_getElem? (i := 1716) (by decide +kernel), List.mem_of_getElem? (i := 1717) (by decide +kernel)⟩
theorem lw_p130 : lw_okq (⟨"WaysAtlasModel", "takeMethod", "()I"⟩, 96) := ⟨⟨by decide +kernel, by decide +kernel⟩, List.mem_of_getElem? (i := 1285) (by decide +kernel), List.mem_of_getElem? (i := 1720) (by decide +kernel), List.mem_of_getElem? (i := 1721) (by decide +kernel)⟩
theorem lw_p131 : lw_okq (⟨"WaysAtlasModel", "sumOf", "(III)V"⟩, 96) := ⟨⟨by decide +kernel, by decide +kernel⟩, List.mem_of_getElem? (i := 1285) (by decide +kernel), List.mem_of_getElem? (i := 1724) (by decide +kernel), List.mem_of_getElem? (i := 1725) (by decide +kernel)⟩
theorem lw_p132 : lw_okq (⟨"WaysAtlasModel", "sum", "()V"⟩, 96) := ⟨⟨by decide +kernel, by decide +kernel⟩, List.mem_of_getElem? (i := 1285) (by decide +kernel), List.mem_of_getElem? (i := 1728) (by decide +kernel), List.mem_of_getElem? (i := 1729) (by decide +kernel)⟩
theorem lw_p133 : lw_okq (⟨"WaysAtlasModel", "beginsFactor", "()Z"⟩, 96) := ⟨⟨by decide +kernel, by decide +kernel⟩, List.mem_of_getElem? (i := 1285) (by decide +kernel), List.mem_of_getElem? (i := 1732) (by decide +kernel), List.mem_of_getElem? (i := 1733) (by decide +kernel)⟩
theorem lw_p134 : lw_okq (⟨"WaysAtlasModel", "mayGoDeeper", "()Z"⟩, 96) := ⟨⟨by decide +kernel, by decide +kernel⟩, List.mem_of_getElem? (i := 1285) (by decide +kernel), List.mem_of_getElem? (i := 1736) (by decide +kernel), List.mem_of_getElem? (i := 1737) (by decide +kernel)⟩
theorem lw_p135 : lw_okq (⟨"WaysAtlasModel", "waitsFor", "(II)V"⟩, 96) := ⟨⟨by decide +kernel, by decide +kernel⟩, List.mem_of_getElem? (i := 1285) (by decide +kernel), List.mem_of_getElem? (i := 1740) (by decide +kernel), List.mem_of_getElem? (i := 1741) (by decide +kernel)⟩
theorem lw_p136 : lw_okq (⟨"WaysAtlasModel", "takeNumber", "()I"⟩, 96) := ⟨⟨by decide +kernel, by decide +kernel⟩, List.mem_of_getElem? (i := 1285) (by decide +kernel), List.mem_of_getElem? (i := 1744) (by decide +kernel), List.mem_of_getElem? (i := 1745) (by decide +kernel)⟩
theorem lw_p137 : lw_okq (⟨"WaysAtlasModel", "emits", "(II)V"⟩, 96) := ⟨⟨by decide +kernel, by decide +kernel⟩, List.mem_of_getElem? (i := 1285) (by decide +kernel), List.mem_of_getElem? (i := 1748) (by decide +kernel), List.mem_of_getElem? (i := 1749) (by decide +kernel)⟩
theorem lw_p138 : lw_okq (⟨"WaysAtlasModel", "takeRow", "()I"⟩, 96) := ⟨⟨by decide +kernel, by decide +kernel⟩, List.mem_of_getElem? (i := 1285) (by decide +kernel), List.mem_of_getElem? (i := 1752) (by decide +kernel), List.mem_of_getElem? (i := 1753) (by decide +kernel)⟩
theorem lw_p139 : lw_okq (⟨"WaysAtlasModel", "goesOn", "()Z"⟩, 96) := ⟨⟨by decide +kernel, by decide +kernel⟩, List.mem_of_getElem? (i := 1285) (by decide +kernel), List.mem_of_getElem? (i := 1756) (by decide +kernel), List.mem_of_getElem? (i := 1757) (by decide +kernel)⟩
theorem lw_p140 : lw_okq (⟨"WaysAtlasModel", "endFactor", "()V"⟩, 96) := ⟨⟨by decide +kernel, by decide +kernel⟩, List.mem_of_getElem? (i := 1285) (by decide +kernel), List.mem_of_getElem? (i := 1760) (by decide +kernel), List.mem_of_getElem? (i := 1761) (by decide +kernel)⟩
theorem lw_p141 : lw_okq (⟨"WaysAtlasModel", "top", "()I"⟩, 96) := ⟨⟨by decide +kernel, by decide +kernel⟩, List.mem_of_getElem? (i := 1285) (by decide +kernel), List.mem_of_getElem? (i := 1764) (by decide +kernel), List.mem_of_getElem? (i := 1765) (by decide +kernel)⟩
theorem lw_p142 : lw_okq (⟨"WaysAtlasModel", "endSum", "()V"⟩, 96) := ⟨⟨by decide +kernel, by decide +kernel⟩, List.mem_of_getElem? (i := 1285) (by decide +kernel), List.mem_of_getElem? (i := 1768) (by decide +kernel), List.mem_of_getElem? (i := 1769) (by decide +kernel)⟩
theorem lw_p143 : lw_okq (⟨"WaysAtlasModel", "endProduct", "()V"⟩, 96) := ⟨⟨by decide +kernel, by decide +kernel⟩, List.mem_of_getElem? (i := 1285) (by decide +kernel), List.mem_of_getElem? (i := 1772) (by decide +kernel), List.mem_of_getElem? (i := 1773) (by decide +kernel)⟩
def lw_privs_9 : List (MethodName × Nat) := [(⟨"WaysAtlasModel", "comes", "(I)I"⟩, 96), (⟨"WaysAtlasModel", "call", "(I)V"⟩, 96), (⟨"WaysAtlasModel", "takeMethod", "()I"⟩, 96), (⟨"WaysAtlasModel", "sumOf", "(III)V"⟩, 96), (⟨"WaysAtlasModel", "sum", "()V"⟩, 96), (⟨"WaysAtlasModel", "beginsFactor", "()Z"⟩, 96), (⟨"WaysAtlasModel", "mayGoDeeper", "()Z"⟩, 96), (⟨"WaysAtlasModel", "waitsFor", "(II)V"⟩, 96), (⟨"WaysAtlasModel", "takeNumber", "()I"⟩, 96), (⟨"WaysAtlasModel", "emits", "(II)V"⟩, 96), (⟨"WaysAtlasModel", "takeRow", "()I"⟩, 96), (⟨"WaysAtlasModel", "goesOn", "()Z"⟩, 96), (⟨"WaysAtlasModel", "endFactor", "()V"⟩, 96), (⟨"WaysAtlasModel", "top", "()I"⟩, 96), (⟨"WaysAtlasModel", "endSum", "()V"⟩, 96), (⟨"WaysAtlasModel", "endProduct", "()V"⟩, 96)]
theorem lw_r9 : ∀ q ∈ lw_privs_9, lw_okq q := List.forall_mem_cons.mpr ⟨lw_p128, List.forall_mem_cons.mpr ⟨lw_p129, List.forall_mem_cons.mpr ⟨lw_p130, List.forall_mem_cons.mpr ⟨lw_p131, List.forall_mem_cons.mpr ⟨lw_p132, List.forall_mem_cons.mpr ⟨lw_p133, List.forall_mem_cons.mpr ⟨lw_p134, List.forall_mem_cons.mpr ⟨lw_p135, List.forall_mem_cons.mpr ⟨lw_p136, List.forall_mem_cons.mpr ⟨lw_p137, List.forall_mem_cons.mpr ⟨lw_p138, List.forall_mem_cons.mpr ⟨lw_p139, List.forall_mem_cons.mpr ⟨lw_p140, List.forall_mem_cons.mpr ⟨lw_p141, List.forall_mem_cons.mpr ⟨lw_p142, List.forall_mem_cons.mpr ⟨lw_p143, fun _ h => absurd h List.not_mem_nil⟩⟩⟩⟩⟩⟩⟩⟩⟩⟩⟩⟩⟩⟩⟩⟩
theorem lw_p144 : lw_okq (⟨"WaysAtlasModel", "ofRow", "()V"⟩, 96) := ⟨⟨by decide +kernel, by decide +kernel⟩, List.mem_of_getElem? (i := 1285) (by decide +kernel), List.mem_of_getElem? (i := 1776) (by decide +kernel), List.mem_of_getElem? (i := 1777) (by decide +kernel)⟩
theorem lw_p145 : lw_okq (⟨"WaysAtlasModel", "ofIf", "()V"⟩, 96) := ⟨⟨by decide +kernel, by decide +kernel⟩, List.mem_of_getElem? (i := 1285) (by decide +kernel), List.mem_of_getElem? (i := 1780) (by decide +kernel), List.mem_of_getElem? (i := 1781) (by decide +kernel)⟩
theorem lw_p146 : lw_okq (⟨"WaysAtlasModel", "loopNumber", "(I)V"⟩, 96) := ⟨⟨by decide +kernel, by decide +kernel⟩, List.mem_of_getElem? (i := 1285) (by decide +kernel), List.mem_of_getElem? (i := 1784) (by decide +kernel), List.mem_of_getElem? (i := 1785) (by decide +kernel)⟩
theorem lw_p147 : lw_okq (⟨"WaysAtlasModel", "around", "(I)I"⟩, 96) := ⟨⟨by decide +kernel, by decide +kernel⟩, List.mem_of_getElem? (i := 1285) (by decide +kernel), List.mem_of_getElem? (i := 1788) (by decide +kernel), List.mem_of_getElem? (i := 1789) (by decide +kernel)⟩
theorem lw_p148 : lw_okq (⟨"WaysAtlasModel", "again", "(I)V"⟩, 96) := ⟨⟨by decide +kernel, by decide +kernel⟩, List.mem_of_getElem? (i := 1285) (by decide +kernel), List.mem_of_getElem? (i := 1792) (by decide +kernel), List.mem_of_getElem? (i := 1793) (by decide +kernel)⟩
theorem lw_p149 : lw_okq (⟨"WaysAtlasModel", "ofWith", "()V"⟩, 96) := ⟨⟨by decide +kernel, by decide +kernel⟩, List.mem_of_getElem? (i := 1285) (by decide +kernel), List.mem_of_getElem? (i := 1796) (by decide +kernel), List.mem_of_getElem? (i := 1797) (by decide +kernel)⟩
theorem lw_p150 : lw_okq (⟨"WaysAtlasModel", "looks", "()V"⟩, 96) := ⟨⟨by decide +kernel, by decide +kernel⟩, List.mem_of_getElem? (i := 1285) (by decide +kernel), List.mem_of_getElem? (i := 1800) (by decide +kernel), List.mem_of_getElem? (i := 1801) (by decide +kernel)⟩
theorem lw_p151 : lw_okq (⟨"WaysAtlasModel", "isStatement", "(I)Z"⟩, 96) := ⟨⟨by decide +kernel, by decide +kernel⟩, List.mem_of_getElem? (i := 1285) (by decide +kernel), List.mem_of_getElem? (i := 1816) (by decide +kernel), List.mem_of_getElem? (i := 1817) (by decide +kernel)⟩
theorem lw_p152 : lw_okq (⟨"WaysAtlasModel", "hasPart", "(II)Z"⟩, 96) := ⟨⟨by decide +kernel, by decide +kernel⟩, List.mem_of_getElem? (i := 1285) (by decide +kernel), List.mem_of_getElem? (i := 1820) (by decide +kernel), List.mem_of_getElem? (i := 1821) (by decide +kernel)⟩
theorem lw_p153 : lw_okq (⟨"WaysAtlasModel", "get", "(II)I"⟩, 96) := ⟨⟨by decide +kernel, by decide +kernel⟩, List.mem_of_getElem? (i := 1285) (by decide +kernel), List.mem_of_getElem? (i := 1824) (by decide +kernel), List.mem_of_getElem? (i := 1825) (by decide +kernel)⟩
theorem lw_p154 : lw_okq (⟨"WaysAtlasModel", "isAbove", "(II)Z"⟩, 96) := ⟨⟨by decide +kernel, by decide +kernel⟩, List.mem_of_getElem? (i := 1285) (by decide +kernel), List.mem_of_getElem? (i := 1836) (by decide +kernel), List.mem_of_getElem? (i := 1837) (by decide +kernel)⟩
theorem lw_p155 : lw_okq (⟨"WaysAtlasModel", "isMethod", "(I)Z"⟩, 96) := ⟨⟨by decide +kernel, by decide +kernel⟩, List.mem_of_getElem? (i := 1285) (by decide +kernel), List.mem_of_getElem? (i := 1844) (by decide +kernel), List.mem_of_getElem? (i := 1845) (by decide +kernel)⟩
theorem lw_p156 : lw_okq (⟨"WaysAtlasModel", "runs", "(IIII)I"⟩, 96) := ⟨⟨by decide +kernel, by decide +kernel⟩, List.mem_of_getElem? (i := 1285) (by decide +kernel), List.mem_of_getElem? (i := 1848) (by decide +kernel), List.mem_of_getElem? (i := 1849) (by decide +kernel)⟩
theorem lw_p157 : lw_okq (⟨"WaysAtlasModel", "beginsMethod", "(IIII)V"⟩, 96) := ⟨⟨by decide +kernel, by decide +kernel⟩, List.mem_of_getElem? (i := 1285) (by decide +kernel), List.mem_of_getElem? (i := 1852) (by decide +kernel), List.mem_of_getElem? (i := 1853) (by decide +kernel)⟩
theorem lw_p158 : lw_okq (⟨"WaysAtlasModel", "pushes", "(III)V"⟩, 96) := ⟨⟨by decide +kernel, by decide +kernel⟩, List.mem_of_getElem? (i := 1285) (by decide +kernel), List.mem_of_getElem? (i := 1856) (by decide +kernel), List.mem_of_getElem? (i := 1857) (by decide +kernel)⟩
theorem lw_p159 : lw_okq (⟨"WaysAtlasModel", "tell", "(I)I"⟩, 96) := ⟨⟨by decide +kernel, by decide +kernel⟩, List.mem_of_getElem? (i := 1285) (by decide +kernel), List.mem_of_getElem? (i := 1860) (by decide +kernel), List.mem_of_getElem? (i := 1861) (by decide +kernel)⟩
def lw_privs_10 : List (MethodName × Nat) := [(⟨"WaysAtlasModel", "ofRow", "()V"⟩, 96), (⟨"WaysAtlasModel", "ofIf", "()V"⟩, 96), (⟨"WaysAtlasModel", "loopNumber", "(I)V"⟩, 96), (⟨"WaysAtlasModel", "around", "(I)I"⟩, 96), (⟨"WaysAtlasModel", "again", "(I)V"⟩, 96), (⟨"WaysAtlasModel", "ofWith", "()V"⟩, 96), (⟨"WaysAtlasModel", "looks", "()V"⟩, 96), (⟨"WaysAtlasModel", "isStatement", "(I)Z"⟩, 96), (⟨"WaysAtlasModel", "hasPart", "(II)Z"⟩, 96), (⟨"WaysAtlasModel", "get", "(II)I"⟩, 96), (⟨"WaysAtlasModel", "isAbove", "(II)Z"⟩, 96), (⟨"WaysAtlasModel", "isMethod", "(I)Z"⟩, 96), (⟨"WaysAtlasModel", "runs", "(IIII)I"⟩, 96), (⟨"WaysAtlasModel", "beginsMethod", "(IIII)V"⟩, 96), (⟨"WaysAtlasModel", "pushes", "(III)V"⟩, 96), (⟨"WaysAtlasModel", "tell", "(I)I"⟩, 96)]
theorem lw_r10 : ∀ q ∈ lw_privs_10, lw_okq q := List.forall_mem_cons.mpr ⟨lw_p144, List.forall_mem_cons.mpr ⟨lw_p145, List.forall_mem_cons.mpr ⟨lw_p146, List.forall_mem_cons.mpr ⟨lw_p147, List.forall_mem_cons.mpr ⟨lw_p148, List.forall_mem_cons.mpr ⟨lw_p149, List.forall_mem_cons.mpr ⟨lw_p150, List.forall_mem_cons.mpr ⟨lw_p151, List.forall_mem_cons.mpr ⟨lw_p152, List.forall_mem_cons.mpr ⟨lw_p153, List.forall_mem_cons.mpr ⟨lw_p154, List.forall_mem_cons.mpr ⟨lw_p155, List.forall_mem_cons.mpr ⟨lw_p156, List.forall_mem_cons.mpr ⟨lw_p157, List.forall_mem_cons.mpr ⟨lw_p158, List.forall_mem_cons.mpr ⟨lw_p159, fun _ h => absurd h List.not_mem_nil⟩⟩⟩⟩⟩⟩⟩⟩⟩⟩⟩⟩⟩⟩⟩⟩
theorem lw_p160 : lw_okq (⟨"WaysAtlasModel", "entersBlock", "(I)V"⟩, 96) := ⟨⟨by decide +kernel, by decide +kernel⟩, List.mem_of_getElem? (i := 1285) (by decide +kernel), List.mem_of_getElem? (i := 1864) (by decide +kernel), List.mem_of_getElem? (i := 1865) (by decide +kernel)⟩
theorem lw_p161 : lw_okq (⟨"WaysAtlasModel", "goesOnce", "()V"⟩, 96) := ⟨⟨by decide +kernel, by decide +kernel⟩, List.mem_of_getElem? (i := 1285) (by decide +kernel), List.mem_of_getElem? (i := 1868) (by decide +kernel), List.mem_of_getElem? (i := 1869) (by decide +kernel)⟩
theorem lw_p162 : lw_okq (⟨"WaysAtlasModel", "takesStep", "()Z"⟩, 96) := ⟨⟨by decide +kernel, by decide +kernel⟩, List.mem_of_getElem? (i := 1285) (by decide +kernel), List.mem_of_getElem? (i := 1872) (by decide +kernel), List.mem_of_getElem? (i := 1873) (by decide +kernel)⟩
theorem lw_p163 : lw_okq (⟨"WaysAtlasModel", "does", "(I)V"⟩, 96) := ⟨⟨by decide +kernel, by decide +kernel⟩, List.mem_of_getElem? (i := 1285) (by decide +kernel), List.mem_of_getElem? (i := 1876) (by decide +kernel), List.mem_of_getElem? (i := 1877) (by decide +kernel)⟩
theorem lw_p164 : lw_okq (⟨"WaysAtlasModel", "passes", "(II)I"⟩, 96) := ⟨⟨by decide +kernel, by decide +kernel⟩, List.mem_of_getElem? (i := 1285) (by decide +kernel), List.mem_of_getElem? (i := 1880) (by decide +kernel), List.mem_of_getElem? (i := 1881) (by decide +kernel)⟩
theorem lw_p165 : lw_okq (⟨"WaysAtlasModel", "fail", "(I)V"⟩, 96) := ⟨⟨by decide +kernel, by decide +kernel⟩, List.mem_of_getElem? (i := 1285) (by decide +kernel), List.mem_of_getElem? (i := 1884) (by decide +kernel), List.mem_of_getElem? (i := 1885) (by decide +kernel)⟩
theorem lw_p166 : lw_okq (⟨"WaysAtlasModel", "makes", "(II)I"⟩, 96) := ⟨⟨by decide +kernel, by decide +kernel⟩, List.mem_of_getElem? (i := 1285) (by decide +kernel), List.mem_of_getElem? (i := 1888) (by decide +kernel), List.mem_of_getElem? (i := 1889) (by decide +kernel)⟩
theorem lw_p167 : lw_okq (⟨"WaysAtlasModel", "more", "(I)V"⟩, 96) := ⟨⟨by decide +kernel, by decide +kernel⟩, List.mem_of_getElem? (i := 1285) (by decide +kernel), List.mem_of_getElem? (i := 1892) (by decide +kernel), List.mem_of_getElem? (i := 1893) (by decide +kernel)⟩
theorem lw_p168 : lw_okq (⟨"WaysAtlasModel", "eval", "(III)I"⟩, 96) := ⟨⟨by decide +kernel, by decide +kernel⟩, List.mem_of_getElem? (i := 1285) (by decide +kernel), List.mem_of_getElem? (i := 1896) (by decide +kernel), List.mem_of_getElem? (i := 1897) (by decide +kernel)⟩
theorem lw_p169 : lw_okq (⟨"WaysAtlasModel", "row", "(I)I"⟩, 96) := ⟨⟨by decide +kernel, by decide +kernel⟩, List.mem_of_getElem? (i := 1285) (by decide +kernel), List.mem_of_getElem? (i := 1900) (by decide +kernel), List.mem_of_getElem? (i := 1901) (by decide +kernel)⟩
theorem lw_p170 : lw_okq (⟨"WaysAtlasModel", "evalRow", "(II)I"⟩, 96) := ⟨⟨by decide +kernel, by decide +kernel⟩, List.mem_of_getElem? (i := 1285) (by decide +kernel), List.mem_of_getElem? (i := 1904) (by decide +kernel), List.mem_of_getElem? (i := 1905) (by decide +kernel)⟩
theorem lw_p171 : lw_okq (⟨"WaysAtlasModel", "sign", "(III)I"⟩, 96) := ⟨⟨by decide +kernel, by decide +kernel⟩, List.mem_of_getElem? (i := 1285) (by decide +kernel), List.mem_of_getElem? (i := 1908) (by decide +kernel), List.mem_of_getElem? (i := 1909) (by decide +kernel)⟩
theorem lw_p172 : lw_okq (⟨"WaysAtlasModel", "calls", "(I)V"⟩, 96) := ⟨⟨by decide +kernel, by decide +kernel⟩, List.mem_of_getElem? (i := 1285) (by decide +kernel), List.mem_of_getElem? (i := 1912) (by decide +kernel), List.mem_of_getElem? (i := 1913) (by decide +kernel)⟩
theorem lw_p173 : lw_okq (⟨"WaysAtlasModel", "newRow", "(I)V"⟩, 96) := ⟨⟨by decide +kernel, by decide +kernel⟩, List.mem_of_getElem? (i := 1285) (by decide +kernel), List.mem_of_getElem? (i := 1916) (by decide +kernel), List.mem_of_getElem? (i := 1917) (by decide +kernel)⟩
theorem lw_p174 : lw_okq (⟨"WaysAtlasModel", "setsRow", "(I)V"⟩, 96) := ⟨⟨by decide +kernel, by decide +kernel⟩, List.mem_of_getElem? (i := 1285) (by decide +kernel), List.mem_of_getElem? (i := 1920) (by decide +kernel), List.mem_of_getElem? (i := 1921) (by decide +kernel)⟩
theorem lw_p175 : lw_okq (⟨"WaysAtlasModel", "signals", "(II)V"⟩, 96) := ⟨⟨by decide +kernel, by decide +kernel⟩, List.mem_of_getElem? (i := 1285) (by decide +kernel), List.mem_of_getElem? (i := 1924) (by decide +kernel), List.mem_of_getElem? (i := 1925) (by decide +kernel)⟩
def lw_privs_11 : List (MethodName × Nat) := [(⟨"WaysAtlasModel", "entersBlock", "(I)V"⟩, 96), (⟨"WaysAtlasModel", "goesOnce", "()V"⟩, 96), (⟨"WaysAtlasModel", "takesStep", "()Z"⟩, 96), (⟨"WaysAtlasModel", "does", "(I)V"⟩, 96), (⟨"WaysAtlasModel", "passes", "(II)I"⟩, 96), (⟨"WaysAtlasModel", "fail", "(I)V"⟩, 96), (⟨"WaysAtlasModel", "makes", "(II)I"⟩, 96), (⟨"WaysAtlasModel", "more", "(I)V"⟩, 96), (⟨"WaysAtlasModel", "eval", "(III)I"⟩, 96), (⟨"WaysAtlasModel", "row", "(I)I"⟩, 96), (⟨"WaysAtlasModel", "evalRow", "(II)I"⟩, 96), (⟨"WaysAtlasModel", "sign", "(III)I"⟩, 96), (⟨"WaysAtlasModel", "calls", "(I)V"⟩, 96), (⟨"WaysAtlasModel", "newRow", "(I)V"⟩, 96), (⟨"WaysAtlasModel", "setsRow", "(I)V"⟩, 96), (⟨"WaysAtlasModel", "signals", "(II)V"⟩, 96)]
theorem lw_r11 : ∀ q ∈ lw_privs_11, lw_okq q := List.forall_mem_cons.mpr ⟨lw_p160, List.forall_mem_cons.mpr ⟨lw_p161, List.forall_mem_cons.mpr ⟨lw_p162, List.forall_mem_cons.mpr ⟨lw_p163, List.forall_mem_cons.mpr ⟨lw_p164, List.forall_mem_cons.mpr ⟨lw_p165, List.forall_mem_cons.mpr ⟨lw_p166, List.forall_mem_cons.mpr ⟨lw_p167, List.forall_mem_cons.mpr ⟨lw_p168, List.forall_mem_cons.mpr ⟨lw_p169, List.forall_mem_cons.mpr ⟨lw_p170, List.forall_mem_cons.mpr ⟨lw_p171, List.forall_mem_cons.mpr ⟨lw_p172, List.forall_mem_cons.mpr ⟨lw_p173, List.forall_mem_cons.mpr ⟨lw_p174, List.forall_mem_cons.mpr ⟨lw_p175, fun _ h => absurd h List.not_mem_nil⟩⟩⟩⟩⟩⟩⟩⟩⟩⟩⟩⟩⟩⟩⟩⟩
theorem lw_p176 : lw_okq (⟨"WaysAtlasModel", "asks", "(I)V"⟩, 96) := ⟨⟨by decide +kernel, by decide +kernel⟩, List.mem_of_getElem? (i := 1285) (by decide +kernel), List.mem_of_getElem? (i := 1928) (by decide +kernel), List.mem_of_getElem? (i := 1929) (by decide +kernel)⟩
theorem lw_p177 : lw_okq (⟨"WaysAtlasModel", "loops", "(I)V"⟩, 96) := ⟨⟨by decide +kernel, by decide +kernel⟩, List.mem_of_getElem? (i := 1285) (by decide +kernel), List.mem_of_getElem? (i := 1932) (by decide +kernel), List.mem_of_getElem? (i := 1933) (by decide +kernel)⟩
theorem lw_p178 : lw_okq (⟨"WaysAtlasModel", "turns", "()V"⟩, 96) := ⟨⟨by decide +kernel, by decide +kernel⟩, List.mem_of_getElem? (i := 1285) (by decide +kernel), List.mem_of_getElem? (i := 1936) (by decide +kernel), List.mem_of_getElem? (i := 1937) (by decide +kernel)⟩
theorem lw_p179 : lw_okq (⟨"WaysAtlasModel", "taken", "()I"⟩, 96) := ⟨⟨by decide +kernel, by decide +kernel⟩, List.mem_of_getElem? (i := 1285) (by decide +kernel), List.mem_of_getElem? (i := 1940) (by decide +kernel), List.mem_of_getElem? (i := 1941) (by decide +kernel)⟩
theorem lw_p180 : lw_okq (⟨"WaysAtlasModel", "opensAll", "(I)V"⟩, 96) := ⟨⟨by decide +kernel, by decide +kernel⟩, List.mem_of_getElem? (i := 1285) (by decide +kernel), List.mem_of_getElem? (i := 1944) (by decide +kernel), List.mem_of_getElem? (i := 1945) (by decide +kernel)⟩
theorem lw_p181 : lw_okq (⟨"WaysAtlasModel", "comesToLoop", "(I)V"⟩, 96) := ⟨⟨by decide +kernel, by decide +kernel⟩, List.mem_of_getElem? (i := 1285) (by decide +kernel), List.mem_of_getElem? (i := 1948) (by decide +kernel), List.mem_of_getElem? (i := 1949) (by decide +kernel)⟩
theorem lw_p182 : lw_okq (⟨"WaysAtlasModel", "comesToGuard", "(I)V"⟩, 96) := ⟨⟨by decide +kernel, by decide +kernel⟩, List.mem_of_getElem? (i := 1285) (by decide +kernel), List.mem_of_getElem? (i := 1952) (by decide +kernel), List.mem_of_getElem? (i := 1953) (by decide +kernel)⟩
theorem lw_p183 : lw_okq (⟨"WaysAtlasModel", "closesAll", "(I)V"⟩, 96) := ⟨⟨by decide +kernel, by decide +kernel⟩, List.mem_of_getElem? (i := 1285) (by decide +kernel), List.mem_of_getElem? (i := 1956) (by decide +kernel), List.mem_of_getElem? (i := 1957) (by decide +kernel)⟩
theorem lw_p184 : lw_okq (⟨"WaysAtlasModel", "suppresses", "(II)V"⟩, 96) := ⟨⟨by decide +kernel, by decide +kernel⟩, List.mem_of_getElem? (i := 1285) (by decide +kernel), List.mem_of_getElem? (i := 1960) (by decide +kernel), List.mem_of_getElem? (i := 1961) (by decide +kernel)⟩
theorem lw_p185 : lw_okq (⟨"WaysAtlasModel", "catchFor", "(II)I"⟩, 96) := ⟨⟨by decide +kernel, by decide +kernel⟩, List.mem_of_getElem? (i := 1285) (by decide +kernel), List.mem_of_getElem? (i := 1964) (by decide +kernel), List.mem_of_getElem? (i := 1965) (by decide +kernel)⟩
theorem lw_p186 : lw_okq (⟨"WaysAtlasModel", "finishes", "(I)V"⟩, 96) := ⟨⟨by decide +kernel, by decide +kernel⟩, List.mem_of_getElem? (i := 1285) (by decide +kernel), List.mem_of_getElem? (i := 1968) (by decide +kernel), List.mem_of_getElem? (i := 1969) (by decide +kernel)⟩
theorem lw_p187 : lw_okq (⟨"WaysAtlasModel", "comesToMethod", "(I)V"⟩, 96) := ⟨⟨by decide +kernel, by decide +kernel⟩, List.mem_of_getElem? (i := 1285) (by decide +kernel), List.mem_of_getElem? (i := 1972) (by decide +kernel), List.mem_of_getElem? (i := 1973) (by decide +kernel)⟩
theorem lw_p188 : lw_okq (⟨"WaysAtlasModel", "isRun", "(I)Z"⟩, 96) := ⟨⟨by decide +kernel, by decide +kernel⟩, List.mem_of_getElem? (i := 1285) (by decide +kernel), List.mem_of_getElem? (i := 1980) (by decide +kernel), List.mem_of_getElem? (i := 1981) (by decide +kernel)⟩
theorem lw_p189 : lw_okq (⟨"WaysAtlasModel", "notesWay", "()V"⟩, 96) := ⟨⟨by decide +kernel, by decide +kernel⟩, List.mem_of_getElem? (i := 1285) (by decide +kernel), List.mem_of_getElem? (i := 2008) (by decide +kernel), List.mem_of_getElem? (i := 2009) (by decide +kernel)⟩
def lw_privs_12 : List (MethodName × Nat) := [(⟨"WaysAtlasModel", "asks", "(I)V"⟩, 96), (⟨"WaysAtlasModel", "loops", "(I)V"⟩, 96), (⟨"WaysAtlasModel", "turns", "()V"⟩, 96), (⟨"WaysAtlasModel", "taken", "()I"⟩, 96), (⟨"WaysAtlasModel", "opensAll", "(I)V"⟩, 96), (⟨"WaysAtlasModel", "comesToLoop", "(I)V"⟩, 96), (⟨"WaysAtlasModel", "comesToGuard", "(I)V"⟩, 96), (⟨"WaysAtlasModel", "closesAll", "(I)V"⟩, 96), (⟨"WaysAtlasModel", "suppresses", "(II)V"⟩, 96), (⟨"WaysAtlasModel", "catchFor", "(II)I"⟩, 96), (⟨"WaysAtlasModel", "finishes", "(I)V"⟩, 96), (⟨"WaysAtlasModel", "comesToMethod", "(I)V"⟩, 96), (⟨"WaysAtlasModel", "isRun", "(I)Z"⟩, 96), (⟨"WaysAtlasModel", "notesWay", "()V"⟩, 96)]
theorem lw_r12 : ∀ q ∈ lw_privs_12, lw_okq q := List.forall_mem_cons.mpr ⟨lw_p176, List.forall_mem_cons.mpr ⟨lw_p177, List.forall_mem_cons.mpr ⟨lw_p178, List.forall_mem_cons.mpr ⟨lw_p179, List.forall_mem_cons.mpr ⟨lw_p180, List.forall_mem_cons.mpr ⟨lw_p181, List.forall_mem_cons.mpr ⟨lw_p182, List.forall_mem_cons.mpr ⟨lw_p183, List.forall_mem_cons.mpr ⟨lw_p184, List.forall_mem_cons.mpr ⟨lw_p185, List.forall_mem_cons.mpr ⟨lw_p186, List.forall_mem_cons.mpr ⟨lw_p187, List.forall_mem_cons.mpr ⟨lw_p188, List.forall_mem_cons.mpr ⟨lw_p189, fun _ h => absurd h List.not_mem_nil⟩⟩⟩⟩⟩⟩⟩⟩⟩⟩⟩⟩⟩⟩
def lw_privs : List (MethodName × Nat) := lw_privs_1 ++ (lw_privs_2 ++ (lw_privs_3 ++ (lw_privs_4 ++ (lw_privs_5 ++ (lw_privs_6 ++ (lw_privs_7 ++ (lw_privs_8 ++ (lw_privs_9 ++ (lw_privs_10 ++ (lw_privs_11 ++ (lw_privs_12)))))))))))
def lw_tbl : List Cond := k2_sels lw_privs ++ tables_1
theorem lw_privs_ok : ∀ q ∈ lw_privs, lw_okq q := by
  show ∀ q ∈ lw_privs_1 ++ (lw_privs_2 ++ (lw_privs_3 ++ (lw_privs_4 ++ (lw_privs_5 ++ (lw_privs_6 ++ (lw_privs_7 ++ (lw_privs_8 ++ (lw_privs_9 ++ (lw_privs_10 ++ (lw_privs_11 ++ (lw_privs_12))))))))))), lw_okq q
  exact List.forall_mem_append.mpr ⟨lw_r1, List.forall_mem_append.mpr ⟨lw_r2, List.forall_mem_append.mpr ⟨lw_r3, List.forall_mem_append.mpr ⟨lw_r4, List.forall_mem_append.mpr ⟨lw_r5, List.forall_mem_append.mpr ⟨lw_r6, List.forall_mem_append.mpr ⟨lw_r7, List.forall_mem_append.mpr ⟨lw_r8, List.forall_mem_append.mpr ⟨lw_r9, List.forall_mem_append.mpr ⟨lw_r10, List.forall_mem_append.mpr ⟨lw_r11, lw_r12⟩⟩⟩⟩⟩⟩⟩⟩⟩⟩⟩
end
section
def RX0 : String := "WaysAtlas$Coder"
def TX0 : u_T := fun k => match k with
  | 0 => ("WaysAtlas$Coder", "code", "LWaysAtlas$Table;", true)
  | 1 => ("WaysAtlas$Coder", "handlers", "LWaysAtlas$Table;", true)
  | 2 => ("WaysAtlas$Coder", "contexts", "LWaysAtlas$Table;", true)
  | 3 => ("WaysAtlas$Coder", "program", "LWaysAtlas$Program;", false)
  | 4 => ("WaysAtlas$Coder", "shares", "Z", false)
  | 5 => ("WaysAtlas$Coder", "full", "Z", false)
  | 6 => ("WaysAtlas$Coder", "handler", "I", false)
  | _ => ("WaysAtlas$Coder", "context", "I", false)
def tyX0 : Nat → FieldType := fun k => match k with
  | 0 => .object "WaysAtlas$Table"
  | 1 => .object "WaysAtlas$Table"
  | 2 => .object "WaysAtlas$Table"
  | 3 => .object "WaysAtlas$Program"
  | 4 => .boolean
  | 5 => .boolean
  | 6 => .int
  | _ => .int
abbrev wsX00 : List Cond := u_ws RX0 TX0 8
theorem nmX0 : ∀ a, a < 8 → ∀ b, b < 8 → a ≠ b → (TX0 a).2.1 ≠ (TX0 b).2.1 := by decide +kernel
theorem tyX0_ok : ∀ k, k < 8 → parseFieldDescriptor (TX0 k).2.2.1 = some (tyX0 k) := by decide +kernel
abbrev cX0_init : ByteArray := prog_2_method_1_code
def yX0_init : MethodName := ⟨RX0, "<init>", "(LWaysAtlas$Program;)V"⟩
abbrev cX0_translate : ByteArray := prog_2_method_2_code
def yX0_translate : MethodName := ⟨RX0, "translate", "(LWaysAtlas$Program;Z)V"⟩
abbrev cX0_write : ByteArray := prog_2_method_3_code
def yX0_write : MethodName := ⟨RX0, "write", "(Z)V"⟩
abbrev cX0_emit : ByteArray := prog_2_method_4_code
def yX0_emit : MethodName := ⟨RX0, "emit", "(III)I"⟩
abbrev cX0_patch : ByteArray := prog_2_method_5_code
def yX0_patch : MethodName := ⟨RX0, "patch", "(II)V"⟩
abbrev cX0_newHandler : ByteArray := prog_2_method_6_code
def yX0_newHandler : MethodName := ⟨RX0, "newHandler", "(II)I"⟩
abbrev cX0_pushContext : ByteArray := prog_2_method_7_code
def yX0_pushContext : MethodName := ⟨RX0, "pushContext", "(II)I"⟩
abbrev cX0_popContext : ByteArray := prog_2_method_8_code
def yX0_popContext : MethodName := ⟨RX0, "popContext", "(I)V"⟩
abbrev cX0_levelOf : ByteArray := prog_2_method_9_code
def yX0_levelOf : MethodName := ⟨RX0, "levelOf", "(I)I"⟩
abbrev cX0_writeBlock : ByteArray := prog_2_method_10_code
def yX0_writeBlock : MethodName := ⟨RX0, "writeBlock", "(II)V"⟩
abbrev cX0_writeStatement : ByteArray := prog_2_method_11_code
def yX0_writeStatement : MethodName := ⟨RX0, "writeStatement", "(II)V"⟩
abbrev cX0_writeReturn : ByteArray := prog_2_method_12_code
def yX0_writeReturn : MethodName := ⟨RX0, "writeReturn", "(I)V"⟩
abbrev cX0_writePlain : ByteArray := prog_2_method_13_code
def yX0_writePlain : MethodName := ⟨RX0, "writePlain", "(I)V"⟩
abbrev cX0_writeIf : ByteArray := prog_2_method_14_code
def yX0_writeIf : MethodName := ⟨RX0, "writeIf", "(II)V"⟩
abbrev cX0_writeLoop : ByteArray := prog_2_method_15_code
def yX0_writeLoop : MethodName := ⟨RX0, "writeLoop", "(II)V"⟩
abbrev cX0_writeJump : ByteArray := prog_2_method_16_code
def yX0_writeJump : MethodName := ⟨RX0, "writeJump", "(IZI)V"⟩
abbrev cX0_contextOf : ByteArray := prog_2_method_17_code
def yX0_contextOf : MethodName := ⟨RX0, "contextOf", "(I)I"⟩
abbrev cX0_writeWayOut : ByteArray := prog_2_method_18_code
def yX0_writeWayOut : MethodName := ⟨RX0, "writeWayOut", "(IZI)V"⟩
abbrev cX0_writePassing : ByteArray := prog_2_method_19_code
def yX0_writePassing : MethodName := ⟨RX0, "writePassing", "(IIZI)V"⟩
abbrev cX0_writeClosings : ByteArray := prog_2_method_20_code
def yX0_writeClosings : MethodName := ⟨RX0, "writeClosings", "(II)V"⟩
abbrev cX0_writeGuard : ByteArray := prog_2_method_21_code
def yX0_writeGuard : MethodName := ⟨RX0, "writeGuard", "(II)V"⟩
abbrev cX0_newCatchHandlers : ByteArray := prog_2_method_22_code
def yX0_newCatchHandlers : MethodName := ⟨RX0, "newCatchHandlers", "(II)I"⟩
abbrev cX0_writeHeld : ByteArray := prog_2_method_23_code
def yX0_writeHeld : MethodName := ⟨RX0, "writeHeld", "(III)I"⟩
abbrev cX0_writeCatches : ByteArray := prog_2_method_24_code
def yX0_writeCatches : MethodName := ⟨RX0, "writeCatches", "(IIIII)I"⟩
abbrev cX0_writeEnd : ByteArray := prog_2_method_25_code
def yX0_writeEnd : MethodName := ⟨RX0, "writeEnd", "(III)I"⟩
abbrev cX0_writeFinish : ByteArray := prog_2_method_26_code
def yX0_writeFinish : MethodName := ⟨RX0, "writeFinish", "(II)V"⟩
abbrev cX0_writeLast : ByteArray := prog_2_method_27_code
def yX0_writeLast : MethodName := ⟨RX0, "writeLast", "(III)V"⟩
abbrev cX0_writeFinishing : ByteArray := prog_2_method_28_code
def yX0_writeFinishing : MethodName := ⟨RX0, "writeFinishing", "(II)V"⟩
abbrev cX0_writeSum : ByteArray := prog_2_method_29_code
def yX0_writeSum : MethodName := ⟨RX0, "writeSum", "(II)V"⟩
abbrev cX0_writeList : ByteArray := prog_2_method_30_code
def yX0_writeList : MethodName := ⟨RX0, "writeList", "(II)V"⟩
def RX1 : String := "WaysAtlas$Machine"
def TX1 : u_T := fun k => match k with
  | 0 => ("WaysAtlas$Machine", "world", "LWaysAtlas$World;", true)
  | 1 => ("WaysAtlas$Machine", "code", "LWaysAtlas$Table;", true)
  | 2 => ("WaysAtlas$Machine", "handlers", "LWaysAtlas$Table;", true)
  | 3 => ("WaysAtlas$Machine", "stack", "LWaysAtlas$Table;", true)
  | 4 => ("WaysAtlas$Machine", "present", "I", false)
  | 5 => ("WaysAtlas$Machine", "next", "I", false)
  | _ => ("WaysAtlas$Machine", "caught", "I", false)
def tyX1 : Nat → FieldType := fun k => match k with
  | 0 => .object "WaysAtlas$World"
  | 1 => .object "WaysAtlas$Table"
  | 2 => .object "WaysAtlas$Table"
  | 3 => .object "WaysAtlas$Table"
  | 4 => .int
  | 5 => .int
  | _ => .int
abbrev wsX10 : List Cond := u_ws RX1 TX1 7
theorem nmX1 : ∀ a, a < 7 → ∀ b, b < 7 → a ≠ b → (TX1 a).2.1 ≠ (TX1 b).2.1 := by decide +kernel
theorem tyX1_ok : ∀ k, k < 7 → parseFieldDescriptor (TX1 k).2.2.1 = some (tyX1 k) := by decide +kernel
abbrev cX1_init : ByteArray := prog_3_method_1_code
def yX1_init : MethodName := ⟨RX1, "<init>", "(LWaysAtlas$World;LWaysAtlas$Table;LWaysAtlas$Table;)V"⟩
abbrev cX1_work : ByteArray := prog_3_method_2_code
def yX1_work : MethodName := ⟨RX1, "work", "(III)V"⟩
abbrev cX1_push : ByteArray := prog_3_method_3_code
def yX1_push : MethodName := ⟨RX1, "push", "(I)V"⟩
abbrev cX1_pop : ByteArray := prog_3_method_4_code
def yX1_pop : MethodName := ⟨RX1, "pop", "()I"⟩
abbrev cX1_unwind : ByteArray := prog_3_method_5_code
def yX1_unwind : MethodName := ⟨RX1, "unwind", "()V"⟩
abbrev cX1_handlerOf : ByteArray := prog_3_method_6_code
def yX1_handlerOf : MethodName := ⟨RX1, "handlerOf", "(II)I"⟩
abbrev cX1_evaluate : ByteArray := prog_3_method_7_code
def yX1_evaluate : MethodName := ⟨RX1, "evaluate", "(II)V"⟩
abbrev cX1_change : ByteArray := prog_3_method_8_code
def yX1_change : MethodName := ⟨RX1, "change", "(III)V"⟩
abbrev cX1_flow : ByteArray := prog_3_method_9_code
def yX1_flow : MethodName := ⟨RX1, "flow", "(III)V"⟩
abbrev cX1_turn : ByteArray := prog_3_method_10_code
def yX1_turn : MethodName := ⟨RX1, "turn", "(II)V"⟩
abbrev cX1_call : ByteArray := prog_3_method_11_code
def yX1_call : MethodName := ⟨RX1, "call", "(I)V"⟩
abbrev cX1_giveBack : ByteArray := prog_3_method_12_code
def yX1_giveBack : MethodName := ⟨RX1, "giveBack", "()V"⟩
abbrev cX1_fail : ByteArray := prog_3_method_13_code
def yX1_fail : MethodName := ⟨RX1, "fail", "(III)V"⟩
abbrev cX1_lose : ByteArray := prog_3_method_14_code
def yX1_lose : MethodName := ⟨RX1, "lose", "(I)V"⟩
abbrev cX1_closeUnder : ByteArray := prog_3_method_15_code
def yX1_closeUnder : MethodName := ⟨RX1, "closeUnder", "(II)V"⟩
def RX2 : String := "WaysAtlas$Program"
def TX2 : u_T := fun k => match k with
  | 0 => ("WaysAtlas$Program", "statements", "LWaysAtlas$Table;", true)
  | 1 => ("WaysAtlas$Program", "nodes", "LWaysAtlas$Table;", true)
  | 2 => ("WaysAtlas$Program", "catches", "LWaysAtlas$Table;", true)
  | 3 => ("WaysAtlas$Program", "kinds", "LWaysAtlas$Table;", true)
  | _ => ("WaysAtlas$Program", "methods", "LWaysAtlas$Table;", true)
def tyX2 : Nat → FieldType := fun k => match k with
  | 0 => .object "WaysAtlas$Table"
  | 1 => .object "WaysAtlas$Table"
  | 2 => .object "WaysAtlas$Table"
  | 3 => .object "WaysAtlas$Table"
  | _ => .object "WaysAtlas$Table"
abbrev wsX20 : List Cond := u_ws RX2 TX2 5
theorem nmX2 : ∀ a, a < 5 → ∀ b, b < 5 → a ≠ b → (TX2 a).2.1 ≠ (TX2 b).2.1 := by decide +kernel
theorem tyX2_ok : ∀ k, k < 5 → parseFieldDescriptor (TX2 k).2.2.1 = some (tyX2 k) := by decide +kernel
abbrev cX2_init : ByteArray := prog_4_method_1_code
def yX2_init : MethodName := ⟨RX2, "<init>", "()V"⟩
abbrev cX2_reset : ByteArray := prog_4_method_2_code
def yX2_reset : MethodName := ⟨RX2, "reset", "()V"⟩
abbrev cX2_covers : ByteArray := prog_4_method_3_code
def yX2_covers : MethodName := ⟨RX2, "covers", "(II)Z"⟩
abbrev cX2_catchOf : ByteArray := prog_4_method_4_code
def yX2_catchOf : MethodName := ⟨RX2, "catchOf", "(II)I"⟩
abbrev cX2_hasPart : ByteArray := prog_4_method_5_code
def yX2_hasPart : MethodName := ⟨RX2, "hasPart", "(II)Z"⟩
def RX3 : String := "WaysAtlas$Reader"
def TX3 : u_T := fun k => match k with
  | 0 => ("WaysAtlas$Reader", "tokens", "LWaysAtlas$Table;", true)
  | 1 => ("WaysAtlas$Reader", "loops", "LWaysAtlas$Table;", true)
  | 2 => ("WaysAtlas$Reader", "caughtLevels", "LWaysAtlas$Table;", true)
  | 3 => ("WaysAtlas$Reader", "callPlaces", "LWaysAtlas$Table;", true)
  | 4 => ("WaysAtlas$Reader", "program", "LWaysAtlas$Program;", false)
  | 5 => ("WaysAtlas$Reader", "at", "I", false)
  | 6 => ("WaysAtlas$Reader", "token", "I", false)
  | 7 => ("WaysAtlas$Reader", "value", "I", false)
  | 8 => ("WaysAtlas$Reader", "place", "I", false)
  | 9 => ("WaysAtlas$Reader", "lesserPlace", "I", false)
  | 10 => ("WaysAtlas$Reader", "fault", "I", false)
  | _ => ("WaysAtlas$Reader", "faultPlace", "I", false)
def tyX3 : Nat → FieldType := fun k => match k with
  | 0 => .object "WaysAtlas$Table"
  | 1 => .object "WaysAtlas$Table"
  | 2 => .object "WaysAtlas$Table"
  | 3 => .object "WaysAtlas$Table"
  | 4 => .object "WaysAtlas$Program"
  | 5 => .int
  | 6 => .int
  | 7 => .int
  | 8 => .int
  | 9 => .int
  | 10 => .int
  | _ => .int
abbrev wsX30 : List Cond := u_ws RX3 TX3 12
theorem nmX3 : ∀ a, a < 12 → ∀ b, b < 12 → a ≠ b → (TX3 a).2.1 ≠ (TX3 b).2.1 := by decide +kernel
theorem tyX3_ok : ∀ k, k < 12 → parseFieldDescriptor (TX3 k).2.2.1 = some (tyX3 k) := by decide +kernel
abbrev cX3_init : ByteArray := prog_5_method_1_code
def yX3_init : MethodName := ⟨RX3, "<init>", "(LWaysAtlas$Table;LWaysAtlas$Program;)V"⟩
abbrev cX3_read : ByteArray := prog_5_method_2_code
def yX3_read : MethodName := ⟨RX3, "read", "(LWaysAtlas$Program;)V"⟩
abbrev cX3_start : ByteArray := prog_5_method_3_code
def yX3_start : MethodName := ⟨RX3, "start", "(LWaysAtlas$Program;)V"⟩
abbrev cX3_advance : ByteArray := prog_5_method_4_code
def yX3_advance : MethodName := ⟨RX3, "advance", "()V"⟩
abbrev cX3_fail : ByteArray := prog_5_method_5_code
def yX3_fail : MethodName := ⟨RX3, "fail", "(I)V"⟩
abbrev cX3_failLesser : ByteArray := prog_5_method_6_code
def yX3_failLesser : MethodName := ⟨RX3, "failLesser", "(I)V"⟩
abbrev cX3_expect : ByteArray := prog_5_method_7_code
def yX3_expect : MethodName := ⟨RX3, "expect", "(I)V"⟩
abbrev cX3_readKind : ByteArray := prog_5_method_8_code
def yX3_readKind : MethodName := ⟨RX3, "readKind", "()V"⟩
abbrev cX3_readKindName : ByteArray := prog_5_method_9_code
def yX3_readKindName : MethodName := ⟨RX3, "readKindName", "()I"⟩
abbrev cX3_beginMethod : ByteArray := prog_5_method_10_code
def yX3_beginMethod : MethodName := ⟨RX3, "beginMethod", "()I"⟩
abbrev cX3_checkCalls : ByteArray := prog_5_method_11_code
def yX3_checkCalls : MethodName := ⟨RX3, "checkCalls", "()V"⟩
abbrev cX3_readStatements : ByteArray := prog_5_method_12_code
def yX3_readStatements : MethodName := ⟨RX3, "readStatements", "(II)I"⟩
abbrev cX3_readStatement : ByteArray := prog_5_method_13_code
def yX3_readStatement : MethodName := ⟨RX3, "readStatement", "(II)I"⟩
abbrev cX3_beginsStatement : ByteArray := prog_5_method_14_code
def yX3_beginsStatement : MethodName := ⟨RX3, "beginsStatement", "(I)Z"⟩
abbrev cX3_isNoVariable : ByteArray := prog_5_method_15_code
def yX3_isNoVariable : MethodName := ⟨RX3, "isNoVariable", "()Z"⟩
abbrev cX3_isNoRow : ByteArray := prog_5_method_16_code
def yX3_isNoRow : MethodName := ⟨RX3, "isNoRow", "()Z"⟩
abbrev cX3_readBlock : ByteArray := prog_5_method_17_code
def yX3_readBlock : MethodName := ⟨RX3, "readBlock", "(II)I"⟩
abbrev cX3_readIf : ByteArray := prog_5_method_18_code
def yX3_readIf : MethodName := ⟨RX3, "readIf", "(II)V"⟩
abbrev cX3_readLoop : ByteArray := prog_5_method_19_code
def yX3_readLoop : MethodName := ⟨RX3, "readLoop", "(II)V"⟩
abbrev cX3_readGuard : ByteArray := prog_5_method_20_code
def yX3_readGuard : MethodName := ⟨RX3, "readGuard", "(II)V"⟩
abbrev cX3_readResources : ByteArray := prog_5_method_21_code
def yX3_readResources : MethodName := ⟨RX3, "readResources", "()I"⟩
abbrev cX3_readCatch : ByteArray := prog_5_method_22_code
def yX3_readCatch : MethodName := ⟨RX3, "readCatch", "(III)I"⟩
abbrev cX3_readMark : ByteArray := prog_5_method_23_code
def yX3_readMark : MethodName := ⟨RX3, "readMark", "(I)V"⟩
abbrev cX3_readReturn : ByteArray := prog_5_method_24_code
def yX3_readReturn : MethodName := ⟨RX3, "readReturn", "(I)V"⟩
abbrev cX3_readThrow : ByteArray := prog_5_method_25_code
def yX3_readThrow : MethodName := ⟨RX3, "readThrow", "(II)V"⟩
abbrev cX3_readJump : ByteArray := prog_5_method_26_code
def yX3_readJump : MethodName := ⟨RX3, "readJump", "(II)V"⟩
abbrev cX3_readCall : ByteArray := prog_5_method_27_code
def yX3_readCall : MethodName := ⟨RX3, "readCall", "(II)V"⟩
abbrev cX3_readSet : ByteArray := prog_5_method_28_code
def yX3_readSet : MethodName := ⟨RX3, "readSet", "(II)V"⟩
abbrev cX3_readRow : ByteArray := prog_5_method_29_code
def yX3_readRow : MethodName := ⟨RX3, "readRow", "(I)V"⟩
abbrev cX3_readRowName : ByteArray := prog_5_method_30_code
def yX3_readRowName : MethodName := ⟨RX3, "readRowName", "()I"⟩
abbrev cX3_readList : ByteArray := prog_5_method_31_code
def yX3_readList : MethodName := ⟨RX3, "readList", "(IZ)I"⟩
abbrev cX3_joins : ByteArray := prog_5_method_32_code
def yX3_joins : MethodName := ⟨RX3, "joins", "(IZ)Z"⟩
abbrev cX3_newNode : ByteArray := prog_5_method_33_code
def yX3_newNode : MethodName := ⟨RX3, "newNode", "(II)I"⟩
abbrev cX3_readFactor : ByteArray := prog_5_method_34_code
def yX3_readFactor : MethodName := ⟨RX3, "readFactor", "(I)I"⟩
abbrev cX3_readElement : ByteArray := prog_5_method_35_code
def yX3_readElement : MethodName := ⟨RX3, "readElement", "(I)I"⟩
def RX4 : String := "WaysAtlas$RunRecord"
def TX4 : u_T := fun k => match k with
  | 0 => ("WaysAtlas$RunRecord", "tape", "LWaysAtlas$Table;", true)
  | 1 => ("WaysAtlas$RunRecord", "failures", "LWaysAtlas$Table;", true)
  | 2 => ("WaysAtlas$RunRecord", "activations", "LWaysAtlas$Table;", true)
  | 3 => ("WaysAtlas$RunRecord", "closings", "LWaysAtlas$Table;", true)
  | 4 => ("WaysAtlas$RunRecord", "entries", "LWaysAtlas$Table;", true)
  | 5 => ("WaysAtlas$RunRecord", "ended", "I", false)
  | 6 => ("WaysAtlas$RunRecord", "returned", "I", false)
  | 7 => ("WaysAtlas$RunRecord", "ender", "I", false)
  | 8 => ("WaysAtlas$RunRecord", "opened", "I", false)
  | 9 => ("WaysAtlas$RunRecord", "lost", "I", false)
  | 10 => ("WaysAtlas$RunRecord", "deepest", "I", false)
  | _ => ("WaysAtlas$RunRecord", "steps", "I", false)
def tyX4 : Nat → FieldType := fun k => match k with
  | 0 => .object "WaysAtlas$Table"
  | 1 => .object "WaysAtlas$Table"
  | 2 => .object "WaysAtlas$Table"
  | 3 => .object "WaysAtlas$Table"
  | 4 => .object "WaysAtlas$Table"
  | 5 => .int
  | 6 => .int
  | 7 => .int
  | 8 => .int
  | 9 => .int
  | 10 => .int
  | _ => .int
abbrev wsX40 : List Cond := u_ws RX4 TX4 12
theorem nmX4 : ∀ a, a < 12 → ∀ b, b < 12 → a ≠ b → (TX4 a).2.1 ≠ (TX4 b).2.1 := by decide +kernel
theorem tyX4_ok : ∀ k, k < 12 → parseFieldDescriptor (TX4 k).2.2.1 = some (tyX4 k) := by decide +kernel
abbrev cX4_init : ByteArray := prog_6_method_1_code
def yX4_init : MethodName := ⟨RX4, "<init>", "()V"⟩
abbrev cX4_restart : ByteArray := prog_6_method_2_code
def yX4_restart : MethodName := ⟨RX4, "restart", "(I)V"⟩
abbrev cX4_property : ByteArray := prog_6_method_3_code
def yX4_property : MethodName := ⟨RX4, "property", "(I)I"⟩
abbrev cX4_traced : ByteArray := prog_6_method_4_code
def yX4_traced : MethodName := ⟨RX4, "traced", "(II)I"⟩
abbrev cX4_agrees : ByteArray := prog_6_method_5_code
def yX4_agrees : MethodName := ⟨RX4, "agrees", "(LWaysAtlas$RunRecord;)Z"⟩
def RX5 : String := "WaysAtlas$Scanner"
def TX5 : u_T := fun k => match k with
  | 0 => ("WaysAtlas$Scanner", "tokens", "LWaysAtlas$Table;", true)
  | _ => ("WaysAtlas$Scanner", "at", "I", false)
def tyX5 : Nat → FieldType := fun k => match k with
  | 0 => .object "WaysAtlas$Table"
  | _ => .int
abbrev wsX50 : List Cond := u_ws RX5 TX5 2
theorem nmX5 : ∀ a, a < 2 → ∀ b, b < 2 → a ≠ b → (TX5 a).2.1 ≠ (TX5 b).2.1 := by decide +kernel
theorem tyX5_ok : ∀ k, k < 2 → parseFieldDescriptor (TX5 k).2.2.1 = some (tyX5 k) := by decide +kernel
abbrev cX5_init : ByteArray := prog_7_method_1_code
def yX5_init : MethodName := ⟨RX5, "<init>", "()V"⟩
abbrev cX5_scan : ByteArray := prog_7_method_2_code
def yX5_scan : MethodName := ⟨RX5, "scan", "(LWaysAtlas$Table;)V"⟩
abbrev cX5_note : ByteArray := prog_7_method_3_code
def yX5_note : MethodName := ⟨RX5, "note", "(III)V"⟩
abbrev cX5_number : ByteArray := prog_7_method_4_code
def yX5_number : MethodName := ⟨RX5, "number", "(LWaysAtlas$Table;)V"⟩
abbrev cX5_letters : ByteArray := prog_7_method_5_code
def yX5_letters : MethodName := ⟨RX5, "letters", "(LWaysAtlas$Table;)V"⟩
abbrev cX5_name : ByteArray := prog_7_method_6_code
def yX5_name : MethodName := ⟨RX5, "name", "(LWaysAtlas$Table;)V"⟩
abbrev cX5_isDigit : ByteArray := prog_7_method_7_code
def yX5_isDigit : MethodName := ⟨RX5, "isDigit", "(I)Z"⟩
abbrev cX5_isLetter : ByteArray := prog_7_method_8_code
def yX5_isLetter : MethodName := ⟨RX5, "isLetter", "(I)Z"⟩
abbrev cX5_endOfDigits : ByteArray := prog_7_method_9_code
def yX5_endOfDigits : MethodName := ⟨RX5, "endOfDigits", "(LWaysAtlas$Table;I)I"⟩
abbrev cX5_valueOf : ByteArray := prog_7_method_10_code
def yX5_valueOf : MethodName := ⟨RX5, "valueOf", "(LWaysAtlas$Table;II)I"⟩
abbrev cX5_wordNumber : ByteArray := prog_7_method_11_code
def yX5_wordNumber : MethodName := ⟨RX5, "wordNumber", "(LWaysAtlas$Table;II)I"⟩
abbrev cX5_spells : ByteArray := prog_7_method_12_code
def yX5_spells : MethodName := ⟨RX5, "spells", "(LWaysAtlas$Table;III)Z"⟩
def RX6 : String := "WaysAtlas$Table"
def TX6 : u_T := fun k => match k with
  | 0 => ("WaysAtlas$Table", "cells", "[I", true)
  | 1 => ("WaysAtlas$Table", "width", "I", true)
  | 2 => ("WaysAtlas$Table", "most", "I", true)
  | _ => ("WaysAtlas$Table", "rows", "I", false)
def tyX6 : Nat → FieldType := fun k => match k with
  | 0 => .array .int
  | 1 => .int
  | 2 => .int
  | _ => .int
abbrev wsX60 : List Cond := u_ws RX6 TX6 4
theorem nmX6 : ∀ a, a < 4 → ∀ b, b < 4 → a ≠ b → (TX6 a).2.1 ≠ (TX6 b).2.1 := by decide +kernel
theorem tyX6_ok : ∀ k, k < 4 → parseFieldDescriptor (TX6 k).2.2.1 = some (tyX6 k) := by decide +kernel
abbrev cX6_init : ByteArray := prog_8_method_1_code
def yX6_init : MethodName := ⟨RX6, "<init>", "(II)V"⟩
abbrev cX6_get : ByteArray := prog_8_method_2_code
def yX6_get : MethodName := ⟨RX6, "get", "(II)I"⟩
abbrev cX6_set : ByteArray := prog_8_method_3_code
def yX6_set : MethodName := ⟨RX6, "set", "(III)V"⟩
abbrev cX6_add : ByteArray := prog_8_method_4_code
def yX6_add : MethodName := ⟨RX6, "add", "()I"⟩
abbrev cX6_drop : ByteArray := prog_8_method_5_code
def yX6_drop : MethodName := ⟨RX6, "drop", "()V"⟩
abbrev cX6_reset : ByteArray := prog_8_method_6_code
def yX6_reset : MethodName := ⟨RX6, "reset", "()V"⟩
abbrev cX6_equalIn : ByteArray := prog_8_method_7_code
def yX6_equalIn : MethodName := ⟨RX6, "equalIn", "(LWaysAtlas$Table;I)Z"⟩
abbrev cX6_fill : ByteArray := prog_8_method_8_code
def yX6_fill : MethodName := ⟨RX6, "fill", "(II)V"⟩
def RX7 : String := "WaysAtlas$Walker"
def TX7 : u_T := fun k => match k with
  | 0 => ("WaysAtlas$Walker", "world", "LWaysAtlas$World;", true)
  | 1 => ("WaysAtlas$Walker", "cursor", "I", false)
  | 2 => ("WaysAtlas$Walker", "inside", "I", false)
  | 3 => ("WaysAtlas$Walker", "way", "I", false)
  | 4 => ("WaysAtlas$Walker", "value", "I", false)
  | 5 => ("WaysAtlas$Walker", "firstSum", "I", false)
  | _ => ("WaysAtlas$Walker", "secondSum", "I", false)
def tyX7 : Nat → FieldType := fun k => match k with
  | 0 => .object "WaysAtlas$World"
  | 1 => .int
  | 2 => .int
  | 3 => .int
  | 4 => .int
  | 5 => .int
  | _ => .int
abbrev wsX70 : List Cond := u_ws RX7 TX7 7
theorem nmX7 : ∀ a, a < 7 → ∀ b, b < 7 → a ≠ b → (TX7 a).2.1 ≠ (TX7 b).2.1 := by decide +kernel
theorem tyX7_ok : ∀ k, k < 7 → parseFieldDescriptor (TX7 k).2.2.1 = some (tyX7 k) := by decide +kernel
abbrev cX7_init : ByteArray := prog_9_method_1_code
def yX7_init : MethodName := ⟨RX7, "<init>", "(LWaysAtlas$World;)V"⟩
abbrev cX7_walk : ByteArray := prog_9_method_2_code
def yX7_walk : MethodName := ⟨RX7, "walk", "(III)V"⟩
abbrev cX7_at : ByteArray := prog_9_method_3_code
def yX7_at : MethodName := ⟨RX7, "at", "(II)I"⟩
abbrev cX7_slot : ByteArray := prog_9_method_4_code
def yX7_slot : MethodName := ⟨RX7, "slot", "(II)I"⟩
abbrev cX7_setSlot : ByteArray := prog_9_method_5_code
def yX7_setSlot : MethodName := ⟨RX7, "setSlot", "(III)V"⟩
abbrev cX7_enter : ByteArray := prog_9_method_6_code
def yX7_enter : MethodName := ⟨RX7, "enter", "(III)V"⟩
abbrev cX7_leave : ByteArray := prog_9_method_7_code
def yX7_leave : MethodName := ⟨RX7, "leave", "()V"⟩
abbrev cX7_goOn : ByteArray := prog_9_method_8_code
def yX7_goOn : MethodName := ⟨RX7, "goOn", "(I)V"⟩
abbrev cX7_endBy : ByteArray := prog_9_method_9_code
def yX7_endBy : MethodName := ⟨RX7, "endBy", "(II)V"⟩
abbrev cX7_takeThrown : ByteArray := prog_9_method_10_code
def yX7_takeThrown : MethodName := ⟨RX7, "takeThrown", "()V"⟩
abbrev cX7_begin : ByteArray := prog_9_method_11_code
def yX7_begin : MethodName := ⟨RX7, "begin", "(I)V"⟩
abbrev cX7_execute : ByteArray := prog_9_method_12_code
def yX7_execute : MethodName := ⟨RX7, "execute", "(I)V"⟩
abbrev cX7_enterBlock : ByteArray := prog_9_method_13_code
def yX7_enterBlock : MethodName := ⟨RX7, "enterBlock", "(II)V"⟩
abbrev cX7_turn : ByteArray := prog_9_method_14_code
def yX7_turn : MethodName := ⟨RX7, "turn", "(I)V"⟩
abbrev cX7_endTurn : ByteArray := prog_9_method_15_code
def yX7_endTurn : MethodName := ⟨RX7, "endTurn", "(I)V"⟩
abbrev cX7_endPhase : ByteArray := prog_9_method_16_code
def yX7_endPhase : MethodName := ⟨RX7, "endPhase", "(I)V"⟩
abbrev cX7_openNext : ByteArray := prog_9_method_17_code
def yX7_openNext : MethodName := ⟨RX7, "openNext", "(I)V"⟩
abbrev cX7_closeNext : ByteArray := prog_9_method_18_code
def yX7_closeNext : MethodName := ⟨RX7, "closeNext", "(I)V"⟩
abbrev cX7_chooseCatch : ByteArray := prog_9_method_19_code
def yX7_chooseCatch : MethodName := ⟨RX7, "chooseCatch", "(I)V"⟩
abbrev cX7_finish : ByteArray := prog_9_method_20_code
def yX7_finish : MethodName := ⟨RX7, "finish", "(I)V"⟩
abbrev cX7_endFinally : ByteArray := prog_9_method_21_code
def yX7_endFinally : MethodName := ⟨RX7, "endFinally", "(I)V"⟩
abbrev cX7_sum : ByteArray := prog_9_method_22_code
def yX7_sum : MethodName := ⟨RX7, "sum", "(II)I"⟩
abbrev cX7_list : ByteArray := prog_9_method_23_code
def yX7_list : MethodName := ⟨RX7, "list", "(II)I"⟩
def RX8 : String := "WaysAtlas$World"
def TX8 : u_T := fun k => match k with
  | 0 => ("WaysAtlas$World", "passings", "LWaysAtlas$Table;", true)
  | 1 => ("WaysAtlas$World", "activations", "LWaysAtlas$Table;", true)
  | 2 => ("WaysAtlas$World", "slots", "LWaysAtlas$Table;", true)
  | 3 => ("WaysAtlas$World", "arrays", "LWaysAtlas$Table;", true)
  | 4 => ("WaysAtlas$World", "passed", "LWaysAtlas$Table;", true)
  | 5 => ("WaysAtlas$World", "program", "LWaysAtlas$Program;", false)
  | 6 => ("WaysAtlas$World", "record", "LWaysAtlas$RunRecord;", false)
  | 7 => ("WaysAtlas$World", "plan", "LWaysAtlas$Table;", false)
  | 8 => ("WaysAtlas$World", "limit", "I", false)
  | 9 => ("WaysAtlas$World", "thrown", "I", false)
  | _ => ("WaysAtlas$World", "notesPassings", "Z", false)
def tyX8 : Nat → FieldType := fun k => match k with
  | 0 => .object "WaysAtlas$Table"
  | 1 => .object "WaysAtlas$Table"
  | 2 => .object "WaysAtlas$Table"
  | 3 => .object "WaysAtlas$Table"
  | 4 => .object "WaysAtlas$Table"
  | 5 => .object "WaysAtlas$Program"
  | 6 => .object "WaysAtlas$RunRecord"
  | 7 => .object "WaysAtlas$Table"
  | 8 => .int
  | 9 => .int
  | _ => .boolean
abbrev wsX80 : List Cond := u_ws RX8 TX8 11
theorem nmX8 : ∀ a, a < 11 → ∀ b, b < 11 → a ≠ b → (TX8 a).2.1 ≠ (TX8 b).2.1 := by decide +kernel
theorem tyX8_ok : ∀ k, k < 11 → parseFieldDescriptor (TX8 k).2.2.1 = some (tyX8 k) := by decide +kernel
abbrev cX8_init : ByteArray := prog_10_method_1_code
def yX8_init : MethodName := ⟨RX8, "<init>", "(LWaysAtlas$Program;LWaysAtlas$Table;LWaysAtlas$RunRecord;)V"⟩
abbrev cX8_prepare : ByteArray := prog_10_method_2_code
def yX8_prepare : MethodName := ⟨RX8, "prepare", "(LWaysAtlas$Program;LWaysAtlas$Table;LWaysAtlas$RunRecord;I)V"⟩
abbrev cX8_isRunning : ByteArray := prog_10_method_3_code
def yX8_isRunning : MethodName := ⟨RX8, "isRunning", "()Z"⟩
abbrev cX8_takeStep : ByteArray := prog_10_method_4_code
def yX8_takeStep : MethodName := ⟨RX8, "takeStep", "()Z"⟩
abbrev cX8_end : ByteArray := prog_10_method_5_code
def yX8_end : MethodName := ⟨RX8, "end", "(II)V"⟩
abbrev cX8_active : ByteArray := prog_10_method_6_code
def yX8_active : MethodName := ⟨RX8, "active", "()I"⟩
abbrev cX8_enter : ByteArray := prog_10_method_7_code
def yX8_enter : MethodName := ⟨RX8, "enter", "(III)V"⟩
abbrev cX8_leave : ByteArray := prog_10_method_8_code
def yX8_leave : MethodName := ⟨RX8, "leave", "()V"⟩
abbrev cX8_now : ByteArray := prog_10_method_9_code
def yX8_now : MethodName := ⟨RX8, "now", "(I)I"⟩
abbrev cX8_setNow : ByteArray := prog_10_method_10_code
def yX8_setNow : MethodName := ⟨RX8, "setNow", "(II)V"⟩
abbrev cX8_slot : ByteArray := prog_10_method_11_code
def yX8_slot : MethodName := ⟨RX8, "slot", "(II)I"⟩
abbrev cX8_setSlot : ByteArray := prog_10_method_12_code
def yX8_setSlot : MethodName := ⟨RX8, "setSlot", "(III)V"⟩
abbrev cX8_kindOf : ByteArray := prog_10_method_13_code
def yX8_kindOf : MethodName := ⟨RX8, "kindOf", "(I)I"⟩
abbrev cX8_raise : ByteArray := prog_10_method_14_code
def yX8_raise : MethodName := ⟨RX8, "raise", "(II)V"⟩
abbrev cX8_suppress : ByteArray := prog_10_method_15_code
def yX8_suppress : MethodName := ⟨RX8, "suppress", "(II)V"⟩
abbrev cX8_pass : ByteArray := prog_10_method_16_code
def yX8_pass : MethodName := ⟨RX8, "pass", "(II)I"⟩
abbrev cX8_append : ByteArray := prog_10_method_17_code
def yX8_append : MethodName := ⟨RX8, "append", "(II)V"⟩
abbrev cX8_open : ByteArray := prog_10_method_18_code
def yX8_open : MethodName := ⟨RX8, "open", "(II)V"⟩
abbrev cX8_close : ByteArray := prog_10_method_19_code
def yX8_close : MethodName := ⟨RX8, "close", "(II)V"⟩
abbrev cX8_finish : ByteArray := prog_10_method_20_code
def yX8_finish : MethodName := ⟨RX8, "finish", "(I)V"⟩
abbrev cX8_apply : ByteArray := prog_10_method_21_code
def yX8_apply : MethodName := ⟨RX8, "apply", "(III)I"⟩
abbrev cX8_compares : ByteArray := prog_10_method_22_code
def yX8_compares : MethodName := ⟨RX8, "compares", "(III)Z"⟩
abbrev cX8_newRow : ByteArray := prog_10_method_23_code
def yX8_newRow : MethodName := ⟨RX8, "newRow", "(II)V"⟩
abbrev cX8_lacking : ByteArray := prog_10_method_24_code
def yX8_lacking : MethodName := ⟨RX8, "lacking", "(II)I"⟩
abbrev cX8_element : ByteArray := prog_10_method_25_code
def yX8_element : MethodName := ⟨RX8, "element", "(II)I"⟩
abbrev cX8_store : ByteArray := prog_10_method_26_code
def yX8_store : MethodName := ⟨RX8, "store", "(III)V"⟩
abbrev cX8_size : ByteArray := prog_10_method_27_code
def yX8_size : MethodName := ⟨RX8, "size", "(I)I"⟩
def RX9 : String := "WaysAtlas"
def TX9 : u_T := fun k => match k with
  | 0 => ("WaysAtlas", "text", "LWaysAtlas$Table;", true)
  | 1 => ("WaysAtlas", "scanner", "LWaysAtlas$Scanner;", true)
  | 2 => ("WaysAtlas", "reader", "LWaysAtlas$Reader;", true)
  | 3 => ("WaysAtlas", "coder", "LWaysAtlas$Coder;", true)
  | 4 => ("WaysAtlas", "world", "LWaysAtlas$World;", true)
  | 5 => ("WaysAtlas", "walker", "LWaysAtlas$Walker;", true)
  | 6 => ("WaysAtlas", "machine", "LWaysAtlas$Machine;", true)
  | 7 => ("WaysAtlas", "plan", "LWaysAtlas$Table;", true)
  | 8 => ("WaysAtlas", "alone", "LWaysAtlas$Table;", true)
  | 9 => ("WaysAtlas", "outcomes", "LWaysAtlas$Table;", true)
  | 10 => ("WaysAtlas", "codeRun", "LWaysAtlas$RunRecord;", true)
  | 11 => ("WaysAtlas", "treeRun", "LWaysAtlas$RunRecord;", true)
  | 12 => ("WaysAtlas", "trial", "LWaysAtlas$RunRecord;", true)
  | 13 => ("WaysAtlas", "secondTrial", "LWaysAtlas$RunRecord;", true)
  | 14 => ("WaysAtlas", "present", "LWaysAtlas$Program;", false)
  | 15 => ("WaysAtlas", "spare", "LWaysAtlas$Program;", false)
  | _ => ("WaysAtlas", "fault", "I", false)
def tyX9 : Nat → FieldType := fun k => match k with
  | 0 => .object "WaysAtlas$Table"
  | 1 => .object "WaysAtlas$Scanner"
  | 2 => .object "WaysAtlas$Reader"
  | 3 => .object "WaysAtlas$Coder"
  | 4 => .object "WaysAtlas$World"
  | 5 => .object "WaysAtlas$Walker"
  | 6 => .object "WaysAtlas$Machine"
  | 7 => .object "WaysAtlas$Table"
  | 8 => .object "WaysAtlas$Table"
  | 9 => .object "WaysAtlas$Table"
  | 10 => .object "WaysAtlas$RunRecord"
  | 11 => .object "WaysAtlas$RunRecord"
  | 12 => .object "WaysAtlas$RunRecord"
  | 13 => .object "WaysAtlas$RunRecord"
  | 14 => .object "WaysAtlas$Program"
  | 15 => .object "WaysAtlas$Program"
  | _ => .int
abbrev wsX90 : List Cond := u_ws RX9 TX9 17
theorem nmX9 : ∀ a, a < 17 → ∀ b, b < 17 → a ≠ b → (TX9 a).2.1 ≠ (TX9 b).2.1 := by decide +kernel
theorem tyX9_ok : ∀ k, k < 17 → parseFieldDescriptor (TX9 k).2.2.1 = some (tyX9 k) := by decide +kernel
abbrev cX9_init : ByteArray := prog_1_method_1_code
def yX9_init : MethodName := ⟨RX9, "<init>", "()V"⟩
abbrev cX9_say : ByteArray := prog_1_method_2_code
def yX9_say : MethodName := ⟨RX9, "say", "(JI)I"⟩
abbrev cX9_compile : ByteArray := prog_1_method_3_code
def yX9_compile : MethodName := ⟨RX9, "compile", "(Z)I"⟩
abbrev cX9_fault : ByteArray := prog_1_method_4_code
def yX9_fault : MethodName := ⟨RX9, "fault", "()I"⟩
abbrev cX9_count : ByteArray := prog_1_method_5_code
def yX9_count : MethodName := ⟨RX9, "count", "(I)I"⟩
abbrev cX9_plan : ByteArray := prog_1_method_6_code
def yX9_plan : MethodName := ⟨RX9, "plan", "(IIII)I"⟩
abbrev cX9_clear : ByteArray := prog_1_method_7_code
def yX9_clear : MethodName := ⟨RX9, "clear", "()I"⟩
abbrev cX9_run : ByteArray := prog_1_method_8_code
def yX9_run : MethodName := ⟨RX9, "run", "(ZIIII)I"⟩
abbrev cX9_ran : ByteArray := prog_1_method_9_code
def yX9_ran : MethodName := ⟨RX9, "ran", "(II)I"⟩
abbrev cX9_mark : ByteArray := prog_1_method_10_code
def yX9_mark : MethodName := ⟨RX9, "mark", "(II)I"⟩
abbrev cX9_failure : ByteArray := prog_1_method_11_code
def yX9_failure : MethodName := ⟨RX9, "failure", "(III)I"⟩
abbrev cX9_trace : ByteArray := prog_1_method_12_code
def yX9_trace : MethodName := ⟨RX9, "trace", "(III)I"⟩
abbrev cX9_closed : ByteArray := prog_1_method_13_code
def yX9_closed : MethodName := ⟨RX9, "closed", "(II)I"⟩
abbrev cX9_entered : ByteArray := prog_1_method_14_code
def yX9_entered : MethodName := ⟨RX9, "entered", "(II)I"⟩
abbrev cX9_handler : ByteArray := prog_1_method_15_code
def yX9_handler : MethodName := ⟨RX9, "handler", "(II)I"⟩
abbrev cX9_ways : ByteArray := prog_1_method_16_code
def yX9_ways : MethodName := ⟨RX9, "ways", "(III)I"⟩
abbrev cX9_same : ByteArray := prog_1_method_17_code
def yX9_same : MethodName := ⟨RX9, "same", "(III)I"⟩
abbrev cX9_isNoMethod : ByteArray := prog_1_method_18_code
def yX9_isNoMethod : MethodName := ⟨RX9, "isNoMethod", "(I)Z"⟩
abbrev cX9_isNoRun : ByteArray := prog_1_method_19_code
def yX9_isNoRun : MethodName := ⟨RX9, "isNoRun", "(I)Z"⟩
abbrev cX9_chosen : ByteArray := prog_1_method_20_code
def yX9_chosen : MethodName := ⟨RX9, "chosen", "(I)LWaysAtlas$RunRecord;"⟩
abbrev cX9_perform : ByteArray := prog_1_method_21_code
def yX9_perform : MethodName := ⟨RX9, "perform", "(ZLWaysAtlas$RunRecord;LWaysAtlas$Table;IIII)I"⟩
abbrev cX9_planAlone : ByteArray := prog_1_method_22_code
def yX9_planAlone : MethodName := ⟨RX9, "planAlone", "(I)V"⟩
abbrev cX9_noteOutcome : ByteArray := prog_1_method_23_code
def yX9_noteOutcome : MethodName := ⟨RX9, "noteOutcome", "()V"⟩
def RX10 : String := "WaysAtlasModel"
def TX10 : u_T := fun k => match k with
  | 0 => ("WaysAtlasModel", "words", "[J", true)
  | 1 => ("WaysAtlasModel", "text", "[B", true)
  | 2 => ("WaysAtlasModel", "size", "I", false)
  | 3 => ("WaysAtlasModel", "at", "I", false)
  | 4 => ("WaysAtlasModel", "token", "I", false)
  | 5 => ("WaysAtlasModel", "tokenAt", "I", false)
  | 6 => ("WaysAtlasModel", "which", "I", false)
  | 7 => ("WaysAtlasModel", "value", "I", false)
  | 8 => ("WaysAtlasModel", "live", "I", false)
  | 9 => ("WaysAtlasModel", "draft", "I", false)
  | 10 => ("WaysAtlasModel", "hasProgram", "Z", false)
  | 11 => ("WaysAtlasModel", "stat", "[I", true)
  | 12 => ("WaysAtlasModel", "statements", "[I", true)
  | 13 => ("WaysAtlasModel", "entryKind", "[I", true)
  | 14 => ("WaysAtlasModel", "entryValue", "[I", true)
  | 15 => ("WaysAtlasModel", "firstOf", "[I", true)
  | 16 => ("WaysAtlasModel", "catchOf", "[I", true)
  | 17 => ("WaysAtlasModel", "catchKind", "[I", true)
  | 18 => ("WaysAtlasModel", "catchBlock", "[I", true)
  | 19 => ("WaysAtlasModel", "catches", "[I", true)
  | 20 => ("WaysAtlasModel", "body", "[I", true)
  | 21 => ("WaysAtlasModel", "methods", "[I", true)
  | 22 => ("WaysAtlasModel", "above", "[I", true)
  | 23 => ("WaysAtlasModel", "kinds", "[I", true)
  | 24 => ("WaysAtlasModel", "entries", "I", false)
  | 25 => ("WaysAtlasModel", "blocks", "I", false)
  | 26 => ("WaysAtlasModel", "fault", "I", false)
  | 27 => ("WaysAtlasModel", "faultAt", "I", false)
  | 28 => ("WaysAtlasModel", "faultTold", "I", false)
  | 29 => ("WaysAtlasModel", "checks", "I", false)
  | 30 => ("WaysAtlasModel", "checkHow", "[I", true)
  | 31 => ("WaysAtlasModel", "checkAt", "[I", true)
  | 32 => ("WaysAtlasModel", "checkValue", "[I", true)
  | 33 => ("WaysAtlasModel", "waits", "I", false)
  | 34 => ("WaysAtlasModel", "wait", "[I", true)
  | 35 => ("WaysAtlasModel", "waitValue", "[I", true)
  | 36 => ("WaysAtlasModel", "deep", "I", false)
  | 37 => ("WaysAtlasModel", "isOver", "Z", false)
  | 38 => ("WaysAtlasModel", "piled", "I", false)
  | 39 => ("WaysAtlasModel", "pileKind", "[I", true)
  | 40 => ("WaysAtlasModel", "pileStatement", "[I", true)
  | 41 => ("WaysAtlasModel", "pileBlock", "[I", true)
  | 42 => ("WaysAtlasModel", "pileLast", "[I", true)
  | 43 => ("WaysAtlasModel", "planned", "I", false)
  | 44 => ("WaysAtlasModel", "planStatement", "[I", true)
  | 45 => ("WaysAtlasModel", "planPart", "[I", true)
  | 46 => ("WaysAtlasModel", "planTime", "[I", true)
  | 47 => ("WaysAtlasModel", "planKind", "[I", true)
  | 48 => ("WaysAtlasModel", "hasRun", "[Z", true)
  | 49 => ("WaysAtlasModel", "slot", "I", false)
  | 50 => ("WaysAtlasModel", "told", "[I", true)
  | 51 => ("WaysAtlasModel", "tape", "[I", true)
  | 52 => ("WaysAtlasModel", "failedKind", "[I", true)
  | 53 => ("WaysAtlasModel", "cause", "[I", true)
  | 54 => ("WaysAtlasModel", "underFirst", "[I", true)
  | 55 => ("WaysAtlasModel", "underNext", "[I", true)
  | 56 => ("WaysAtlasModel", "failedAt", "[I", true)
  | 57 => ("WaysAtlasModel", "underWay", "[I", true)
  | 58 => ("WaysAtlasModel", "traces", "[I", true)
  | 59 => ("WaysAtlasModel", "closings", "[I", true)
  | 60 => ("WaysAtlasModel", "enteredOf", "[I", true)
  | 61 => ("WaysAtlasModel", "left", "I", false)
  | 62 => ("WaysAtlasModel", "ended", "I", false)
  | 63 => ("WaysAtlasModel", "signal", "I", false)
  | 64 => ("WaysAtlasModel", "signalValue", "I", false)
  | 65 => ("WaysAtlasModel", "frames", "I", false)
  | 66 => ("WaysAtlasModel", "frameKind", "[I", true)
  | 67 => ("WaysAtlasModel", "frameStatement", "[I", true)
  | 68 => ("WaysAtlasModel", "frameNow", "[I", true)
  | 69 => ("WaysAtlasModel", "pending", "[I", true)
  | 70 => ("WaysAtlasModel", "pendingValue", "[I", true)
  | 71 => ("WaysAtlasModel", "firstResource", "[I", true)
  | 72 => ("WaysAtlasModel", "openedOf", "[I", true)
  | 73 => ("WaysAtlasModel", "caught", "[I", true)
  | 74 => ("WaysAtlasModel", "acts", "I", false)
  | 75 => ("WaysAtlasModel", "actVar", "[I", true)
  | 76 => ("WaysAtlasModel", "actRow", "[I", true)
  | 77 => ("WaysAtlasModel", "actMethod", "[I", true)
  | 78 => ("WaysAtlasModel", "actStatement", "[I", true)
  | 79 => ("WaysAtlasModel", "rows", "I", false)
  | 80 => ("WaysAtlasModel", "rowSize", "[I", true)
  | 81 => ("WaysAtlasModel", "rowItem", "[I", true)
  | 82 => ("WaysAtlasModel", "passed", "[I", true)
  | 83 => ("WaysAtlasModel", "planning", "I", false)
  | 84 => ("WaysAtlasModel", "aloneStatement", "I", false)
  | 85 => ("WaysAtlasModel", "alonePart", "I", false)
  | 86 => ("WaysAtlasModel", "aloneTime", "I", false)
  | 87 => ("WaysAtlasModel", "quiet", "I", false)
  | 88 => ("WaysAtlasModel", "quietStatement", "[I", true)
  | 89 => ("WaysAtlasModel", "quietPart", "[I", true)
  | 90 => ("WaysAtlasModel", "quietTime", "[I", true)
  | 91 => ("WaysAtlasModel", "stack", "[I", true)
  | 92 => ("WaysAtlasModel", "stacked", "I", false)
  | 93 => ("WaysAtlasModel", "wrong", "I", false)
  | 94 => ("WaysAtlasModel", "wayOut", "[I", true)
  | _ => ("WaysAtlasModel", "wayOuts", "I", false)
def tyX10 : Nat → FieldType := fun k => match k with
  | 0 => .array .long
  | 1 => .array .byte
  | 2 => .int
  | 3 => .int
  | 4 => .int
  | 5 => .int
  | 6 => .int
  | 7 => .int
  | 8 => .int
  | 9 => .int
  | 10 => .boolean
  | 11 => .array .int
  | 12 => .array .int
  | 13 => .array .int
  | 14 => .array .int
  | 15 => .array .int
  | 16 => .array .int
  | 17 => .array .int
  | 18 => .array .int
  | 19 => .array .int
  | 20 => .array .int
  | 21 => .array .int
  | 22 => .array .int
  | 23 => .array .int
  | 24 => .int
  | 25 => .int
  | 26 => .int
  | 27 => .int
  | 28 => .int
  | 29 => .int
  | 30 => .array .int
  | 31 => .array .int
  | 32 => .array .int
  | 33 => .int
  | 34 => .array .int
  | 35 => .array .int
  | 36 => .int
  | 37 => .boolean
  | 38 => .int
  | 39 => .array .int
  | 40 => .array .int
  | 41 => .array .int
  | 42 => .array .int
  | 43 => .int
  | 44 => .array .int
  | 45 => .array .int
  | 46 => .array .int
  | 47 => .array .int
  | 48 => .array .boolean
  | 49 => .int
  | 50 => .array .int
  | 51 => .array .int
  | 52 => .array .int
  | 53 => .array .int
  | 54 => .array .int
  | 55 => .array .int
  | 56 => .array .int
  | 57 => .array .int
  | 58 => .array .int
  | 59 => .array .int
  | 60 => .array .int
  | 61 => .int
  | 62 => .int
  | 63 => .int
  | 64 => .int
  | 65 => .int
  | 66 => .array .int
  | 67 => .array .int
  | 68 => .array .int
  | 69 => .array .int
  | 70 => .array .int
  | 71 => .array .int
  | 72 => .array .int
  | 73 => .array .int
  | 74 => .int
  | 75 => .array .int
  | 76 => .array .int
  | 77 => .array .int
  | 78 => .array .int
  | 79 => .int
  | 80 => .array .int
  | 81 => .array .int
  | 82 => .array .int
  | 83 => .int
  | 84 => .int
  | 85 => .int
  | 86 => .int
  | 87 => .int
  | 88 => .array .int
  | 89 => .array .int
  | 90 => .array .int
  | 91 => .array .int
  | 92 => .int
  | 93 => .int
  | 94 => .array .int
  | _ => .int
abbrev wsX100 : List Cond := u_ws RX10 TX10 96
theorem nmX10 : ∀ a, a < 96 → ∀ b, b < 96 → a ≠ b → (TX10 a).2.1 ≠ (TX10 b).2.1 := by decide +kernel
theorem tyX10_ok : ∀ k, k < 96 → parseFieldDescriptor (TX10 k).2.2.1 = some (tyX10 k) := by decide +kernel
abbrev cX10_init : ByteArray := prog_12_method_1_code
def yX10_init : MethodName := ⟨RX10, "<init>", "()V"⟩
abbrev cX10_in : ByteArray := prog_12_method_3_code
def yX10_in : MethodName := ⟨RX10, "in", "(III)Z"⟩
abbrev cX10_say : ByteArray := prog_12_method_4_code
def yX10_say : MethodName := ⟨RX10, "say", "(JI)I"⟩
abbrev cX10_byteAt : ByteArray := prog_12_method_5_code
def yX10_byteAt : MethodName := ⟨RX10, "byteAt", "(I)I"⟩
abbrev cX10_isLetter : ByteArray := prog_12_method_6_code
def yX10_isLetter : MethodName := ⟨RX10, "isLetter", "(I)Z"⟩
abbrev cX10_isDigit : ByteArray := prog_12_method_7_code
def yX10_isDigit : MethodName := ⟨RX10, "isDigit", "(I)Z"⟩
abbrev cX10_digits : ByteArray := prog_12_method_8_code
def yX10_digits : MethodName := ⟨RX10, "digits", "()I"⟩
abbrev cX10_wordOrName : ByteArray := prog_12_method_9_code
def yX10_wordOrName : MethodName := ⟨RX10, "wordOrName", "()V"⟩
abbrev cX10_isSignByte : ByteArray := prog_12_method_10_code
def yX10_isSignByte : MethodName := ⟨RX10, "isSignByte", "(I)Z"⟩
abbrev cX10_advance : ByteArray := prog_12_method_11_code
def yX10_advance : MethodName := ⟨RX10, "advance", "()V"⟩
abbrev cX10_isWord : ByteArray := prog_12_method_12_code
def yX10_isWord : MethodName := ⟨RX10, "isWord", "(I)Z"⟩
abbrev cX10_isSign : ByteArray := prog_12_method_13_code
def yX10_isSign : MethodName := ⟨RX10, "isSign", "(I)Z"⟩
abbrev cX10_isName : ByteArray := prog_12_method_14_code
def yX10_isName : MethodName := ⟨RX10, "isName", "(I)Z"⟩
abbrev cX10_get : ByteArray := prog_12_method_15_code
def yX10_get : MethodName := ⟨RX10, "get", "(II)I"⟩
abbrev cX10_put : ByteArray := prog_12_method_16_code
def yX10_put : MethodName := ⟨RX10, "put", "(III)V"⟩
abbrev cX10_fails : ByteArray := prog_12_method_17_code
def yX10_fails : MethodName := ⟨RX10, "fails", "(II)V"⟩
abbrev cX10_cannot : ByteArray := prog_12_method_18_code
def yX10_cannot : MethodName := ⟨RX10, "cannot", "()V"⟩
abbrev cX10_check : ByteArray := prog_12_method_19_code
def yX10_check : MethodName := ⟨RX10, "check", "(III)V"⟩
abbrev cX10_takeSign : ByteArray := prog_12_method_20_code
def yX10_takeSign : MethodName := ⟨RX10, "takeSign", "(I)V"⟩
abbrev cX10_takeNumber : ByteArray := prog_12_method_21_code
def yX10_takeNumber : MethodName := ⟨RX10, "takeNumber", "()I"⟩
abbrev cX10_takeKind : ByteArray := prog_12_method_22_code
def yX10_takeKind : MethodName := ⟨RX10, "takeKind", "(I)I"⟩
abbrev cX10_takeMethod : ByteArray := prog_12_method_23_code
def yX10_takeMethod : MethodName := ⟨RX10, "takeMethod", "()I"⟩
abbrev cX10_takeRow : ByteArray := prog_12_method_24_code
def yX10_takeRow : MethodName := ⟨RX10, "takeRow", "()I"⟩
abbrev cX10_emits : ByteArray := prog_12_method_25_code
def yX10_emits : MethodName := ⟨RX10, "emits", "(II)V"⟩
abbrev cX10_waitsFor : ByteArray := prog_12_method_26_code
def yX10_waitsFor : MethodName := ⟨RX10, "waitsFor", "(II)V"⟩
abbrev cX10_mayGoDeeper : ByteArray := prog_12_method_27_code
def yX10_mayGoDeeper : MethodName := ⟨RX10, "mayGoDeeper", "()Z"⟩
abbrev cX10_top : ByteArray := prog_12_method_28_code
def yX10_top : MethodName := ⟨RX10, "top", "()I"⟩
abbrev cX10_endFactor : ByteArray := prog_12_method_29_code
def yX10_endFactor : MethodName := ⟨RX10, "endFactor", "()V"⟩
abbrev cX10_endProduct : ByteArray := prog_12_method_30_code
def yX10_endProduct : MethodName := ⟨RX10, "endProduct", "()V"⟩
abbrev cX10_endSum : ByteArray := prog_12_method_31_code
def yX10_endSum : MethodName := ⟨RX10, "endSum", "()V"⟩
abbrev cX10_beginsFactor : ByteArray := prog_12_method_32_code
def yX10_beginsFactor : MethodName := ⟨RX10, "beginsFactor", "()Z"⟩
abbrev cX10_goesOn : ByteArray := prog_12_method_33_code
def yX10_goesOn : MethodName := ⟨RX10, "goesOn", "()Z"⟩
abbrev cX10_sum : ByteArray := prog_12_method_34_code
def yX10_sum : MethodName := ⟨RX10, "sum", "()V"⟩
abbrev cX10_opens : ByteArray := prog_12_method_35_code
def yX10_opens : MethodName := ⟨RX10, "opens", "(II)I"⟩
abbrev cX10_around : ByteArray := prog_12_method_36_code
def yX10_around : MethodName := ⟨RX10, "around", "(I)I"⟩
abbrev cX10_comes : ByteArray := prog_12_method_37_code
def yX10_comes : MethodName := ⟨RX10, "comes", "(I)I"⟩
abbrev cX10_sumOf : ByteArray := prog_12_method_38_code
def yX10_sumOf : MethodName := ⟨RX10, "sumOf", "(III)V"⟩
abbrev cX10_call : ByteArray := prog_12_method_39_code
def yX10_call : MethodName := ⟨RX10, "call", "(I)V"⟩
abbrev cX10_ofVar : ByteArray := prog_12_method_40_code
def yX10_ofVar : MethodName := ⟨RX10, "ofVar", "()V"⟩
abbrev cX10_ofRow : ByteArray := prog_12_method_41_code
def yX10_ofRow : MethodName := ⟨RX10, "ofRow", "()V"⟩
abbrev cX10_loopNumber : ByteArray := prog_12_method_42_code
def yX10_loopNumber : MethodName := ⟨RX10, "loopNumber", "(I)V"⟩
abbrev cX10_ofIf : ByteArray := prog_12_method_43_code
def yX10_ofIf : MethodName := ⟨RX10, "ofIf", "()V"⟩
abbrev cX10_ofWith : ByteArray := prog_12_method_44_code
def yX10_ofWith : MethodName := ⟨RX10, "ofWith", "()V"⟩
abbrev cX10_again : ByteArray := prog_12_method_45_code
def yX10_again : MethodName := ⟨RX10, "again", "(I)V"⟩
abbrev cX10_canBegin : ByteArray := prog_12_method_46_code
def yX10_canBegin : MethodName := ⟨RX10, "canBegin", "()Z"⟩
abbrev cX10_statement : ByteArray := prog_12_method_47_code
def yX10_statement : MethodName := ⟨RX10, "statement", "()V"⟩
abbrev cX10_ofCatch : ByteArray := prog_12_method_48_code
def yX10_ofCatch : MethodName := ⟨RX10, "ofCatch", "(I)V"⟩
abbrev cX10_closes : ByteArray := prog_12_method_49_code
def yX10_closes : MethodName := ⟨RX10, "closes", "()V"⟩
abbrev cX10_outside : ByteArray := prog_12_method_50_code
def yX10_outside : MethodName := ⟨RX10, "outside", "()V"⟩
abbrev cX10_reads : ByteArray := prog_12_method_51_code
def yX10_reads : MethodName := ⟨RX10, "reads", "()V"⟩
abbrev cX10_looks : ByteArray := prog_12_method_52_code
def yX10_looks : MethodName := ⟨RX10, "looks", "()V"⟩
abbrev cX10_compile : ByteArray := prog_12_method_53_code
def yX10_compile : MethodName := ⟨RX10, "compile", "(Z)I"⟩
abbrev cX10_fault : ByteArray := prog_12_method_54_code
def yX10_fault : MethodName := ⟨RX10, "fault", "()I"⟩
abbrev cX10_count : ByteArray := prog_12_method_55_code
def yX10_count : MethodName := ⟨RX10, "count", "(I)I"⟩
abbrev cX10_isStatement : ByteArray := prog_12_method_56_code
def yX10_isStatement : MethodName := ⟨RX10, "isStatement", "(I)Z"⟩
abbrev cX10_hasPart : ByteArray := prog_12_method_57_code
def yX10_hasPart : MethodName := ⟨RX10, "hasPart", "(II)Z"⟩
abbrev cX10_plan : ByteArray := prog_12_method_58_code
def yX10_plan : MethodName := ⟨RX10, "plan", "(IIII)I"⟩
abbrev cX10_clear : ByteArray := prog_12_method_59_code
def yX10_clear : MethodName := ⟨RX10, "clear", "()I"⟩
abbrev cX10_isAbove : ByteArray := prog_12_method_60_code
def yX10_isAbove : MethodName := ⟨RX10, "isAbove", "(II)Z"⟩
abbrev cX10_handler : ByteArray := prog_12_method_61_code
def yX10_handler : MethodName := ⟨RX10, "handler", "(II)I"⟩
abbrev cX10_takesStep : ByteArray := prog_12_method_62_code
def yX10_takesStep : MethodName := ⟨RX10, "takesStep", "()Z"⟩
abbrev cX10_tell : ByteArray := prog_12_method_63_code
def yX10_tell : MethodName := ⟨RX10, "tell", "(I)I"⟩
abbrev cX10_more : ByteArray := prog_12_method_64_code
def yX10_more : MethodName := ⟨RX10, "more", "(I)V"⟩
abbrev cX10_passes : ByteArray := prog_12_method_65_code
def yX10_passes : MethodName := ⟨RX10, "passes", "(II)I"⟩
abbrev cX10_makes : ByteArray := prog_12_method_66_code
def yX10_makes : MethodName := ⟨RX10, "makes", "(II)I"⟩
abbrev cX10_fail : ByteArray := prog_12_method_67_code
def yX10_fail : MethodName := ⟨RX10, "fail", "(I)V"⟩
abbrev cX10_signals : ByteArray := prog_12_method_68_code
def yX10_signals : MethodName := ⟨RX10, "signals", "(II)V"⟩
abbrev cX10_pushes : ByteArray := prog_12_method_69_code
def yX10_pushes : MethodName := ⟨RX10, "pushes", "(III)V"⟩
abbrev cX10_entersBlock : ByteArray := prog_12_method_70_code
def yX10_entersBlock : MethodName := ⟨RX10, "entersBlock", "(I)V"⟩
abbrev cX10_row : ByteArray := prog_12_method_71_code
def yX10_row : MethodName := ⟨RX10, "row", "(I)I"⟩
abbrev cX10_evalRow : ByteArray := prog_12_method_72_code
def yX10_evalRow : MethodName := ⟨RX10, "evalRow", "(II)I"⟩
abbrev cX10_sign : ByteArray := prog_12_method_73_code
def yX10_sign : MethodName := ⟨RX10, "sign", "(III)I"⟩
abbrev cX10_eval : ByteArray := prog_12_method_74_code
def yX10_eval : MethodName := ⟨RX10, "eval", "(III)I"⟩
abbrev cX10_beginsMethod : ByteArray := prog_12_method_75_code
def yX10_beginsMethod : MethodName := ⟨RX10, "beginsMethod", "(IIII)V"⟩
abbrev cX10_calls : ByteArray := prog_12_method_76_code
def yX10_calls : MethodName := ⟨RX10, "calls", "(I)V"⟩
abbrev cX10_setsRow : ByteArray := prog_12_method_77_code
def yX10_setsRow : MethodName := ⟨RX10, "setsRow", "(I)V"⟩
abbrev cX10_newRow : ByteArray := prog_12_method_78_code
def yX10_newRow : MethodName := ⟨RX10, "newRow", "(I)V"⟩
abbrev cX10_asks : ByteArray := prog_12_method_79_code
def yX10_asks : MethodName := ⟨RX10, "asks", "(I)V"⟩
abbrev cX10_loops : ByteArray := prog_12_method_80_code
def yX10_loops : MethodName := ⟨RX10, "loops", "(I)V"⟩
abbrev cX10_turns : ByteArray := prog_12_method_81_code
def yX10_turns : MethodName := ⟨RX10, "turns", "()V"⟩
abbrev cX10_taken : ByteArray := prog_12_method_82_code
def yX10_taken : MethodName := ⟨RX10, "taken", "()I"⟩
abbrev cX10_opensAll : ByteArray := prog_12_method_83_code
def yX10_opensAll : MethodName := ⟨RX10, "opensAll", "(I)V"⟩
abbrev cX10_does : ByteArray := prog_12_method_84_code
def yX10_does : MethodName := ⟨RX10, "does", "(I)V"⟩
abbrev cX10_suppresses : ByteArray := prog_12_method_85_code
def yX10_suppresses : MethodName := ⟨RX10, "suppresses", "(II)V"⟩
abbrev cX10_closesAll : ByteArray := prog_12_method_86_code
def yX10_closesAll : MethodName := ⟨RX10, "closesAll", "(I)V"⟩
abbrev cX10_catchFor : ByteArray := prog_12_method_87_code
def yX10_catchFor : MethodName := ⟨RX10, "catchFor", "(II)I"⟩
abbrev cX10_finishes : ByteArray := prog_12_method_88_code
def yX10_finishes : MethodName := ⟨RX10, "finishes", "(I)V"⟩
abbrev cX10_comesToGuard : ByteArray := prog_12_method_89_code
def yX10_comesToGuard : MethodName := ⟨RX10, "comesToGuard", "(I)V"⟩
abbrev cX10_comesToLoop : ByteArray := prog_12_method_90_code
def yX10_comesToLoop : MethodName := ⟨RX10, "comesToLoop", "(I)V"⟩
abbrev cX10_comesToMethod : ByteArray := prog_12_method_91_code
def yX10_comesToMethod : MethodName := ⟨RX10, "comesToMethod", "(I)V"⟩
abbrev cX10_goesOnce : ByteArray := prog_12_method_92_code
def yX10_goesOnce : MethodName := ⟨RX10, "goesOnce", "()V"⟩
abbrev cX10_runs : ByteArray := prog_12_method_93_code
def yX10_runs : MethodName := ⟨RX10, "runs", "(IIII)I"⟩
abbrev cX10_isMethod : ByteArray := prog_12_method_94_code
def yX10_isMethod : MethodName := ⟨RX10, "isMethod", "(I)Z"⟩
abbrev cX10_run : ByteArray := prog_12_method_95_code
def yX10_run : MethodName := ⟨RX10, "run", "(ZIIII)I"⟩
abbrev cX10_isRun : ByteArray := prog_12_method_96_code
def yX10_isRun : MethodName := ⟨RX10, "isRun", "(I)Z"⟩
abbrev cX10_ran : ByteArray := prog_12_method_97_code
def yX10_ran : MethodName := ⟨RX10, "ran", "(II)I"⟩
abbrev cX10_mark : ByteArray := prog_12_method_98_code
def yX10_mark : MethodName := ⟨RX10, "mark", "(II)I"⟩
abbrev cX10_failure : ByteArray := prog_12_method_99_code
def yX10_failure : MethodName := ⟨RX10, "failure", "(III)I"⟩
abbrev cX10_trace : ByteArray := prog_12_method_100_code
def yX10_trace : MethodName := ⟨RX10, "trace", "(III)I"⟩
abbrev cX10_closed : ByteArray := prog_12_method_101_code
def yX10_closed : MethodName := ⟨RX10, "closed", "(II)I"⟩
abbrev cX10_entered : ByteArray := prog_12_method_102_code
def yX10_entered : MethodName := ⟨RX10, "entered", "(II)I"⟩
abbrev cX10_notesWay : ByteArray := prog_12_method_103_code
def yX10_notesWay : MethodName := ⟨RX10, "notesWay", "()V"⟩
abbrev cX10_ways : ByteArray := prog_12_method_104_code
def yX10_ways : MethodName := ⟨RX10, "ways", "(III)I"⟩
abbrev cX10_same : ByteArray := prog_12_method_105_code
def yX10_same : MethodName := ⟨RX10, "same", "(III)I"⟩
def RJ11 : String := "java/lang/Character"
def TJ11 : u_T := fun k => match k with
  | _ => ("", "", "", false)
def tyJ11 : Nat → FieldType := fun k => match k with
  | _ => .int
abbrev wsJ110 : List Cond := u_ws RJ11 TJ11 0
theorem nmJ11 : ∀ a, a < 0 → ∀ b, b < 0 → a ≠ b → (TJ11 a).2.1 ≠ (TJ11 b).2.1 := by decide +kernel
theorem tyJ11_ok : ∀ k, k < 0 → parseFieldDescriptor (TJ11 k).2.2.1 = some (tyJ11 k) := by decide +kernel
abbrev cJ11_isValidCodePoint_9a6ad : ByteArray := prog_13_method_11_code
def yJ11_isValidCodePoint_9a6ad : MethodName := ⟨RJ11, "isValidCodePoint", "(I)Z"⟩
abbrev cJ11_highSurrogate_5068e : ByteArray := prog_13_method_28_code
def yJ11_highSurrogate_5068e : MethodName := ⟨RJ11, "highSurrogate", "(I)C"⟩
abbrev cJ11_lowSurrogate_5068e : ByteArray := prog_13_method_29_code
def yJ11_lowSurrogate_5068e : MethodName := ⟨RJ11, "lowSurrogate", "(I)C"⟩
def RJ9 : String := "java/lang/Math"
def TJ9 : u_T := fun k => match k with
  | _ => ("", "", "", false)
def tyJ9 : Nat → FieldType := fun k => match k with
  | _ => .int
abbrev wsJ90 : List Cond := u_ws RJ9 TJ9 0
theorem nmJ9 : ∀ a, a < 0 → ∀ b, b < 0 → a ≠ b → (TJ9 a).2.1 ≠ (TJ9 b).2.1 := by decide +kernel
theorem tyJ9_ok : ∀ k, k < 0 → parseFieldDescriptor (TJ9 k).2.2.1 = some (tyJ9 k) := by decide +kernel
abbrev cJ9_max_7cf53 : ByteArray := prog_14_method_65_code
def yJ9_max_7cf53 : MethodName := ⟨RJ9, "max", "(II)I"⟩
abbrev cJ9_min_7cf53 : ByteArray := prog_14_method_69_code
def yJ9_min_7cf53 : MethodName := ⟨RJ9, "min", "(II)I"⟩
def RJ0 : String := "java/lang/String"
def TJ0 : u_T := fun k => match k with
  | _ => ("", "", "", false)
def tyJ0 : Nat → FieldType := fun k => match k with
  | _ => .int
abbrev wsJ00 : List Cond := u_ws RJ0 TJ0 0
theorem nmJ0 : ∀ a, a < 0 → ∀ b, b < 0 → a ≠ b → (TJ0 a).2.1 ≠ (TJ0 b).2.1 := by decide +kernel
theorem tyJ0_ok : ∀ k, k < 0 → parseFieldDescriptor (TJ0 k).2.2.1 = some (tyJ0 k) := by decide +kernel
abbrev cJ0_length_8abf5 : ByteArray := prog_15_method_54_code
def yJ0_length_8abf5 : MethodName := ⟨RJ0, "length", "()I"⟩
abbrev cJ0_charAt_5068e : ByteArray := prog_15_method_56_code
def yJ0_charAt_5068e : MethodName := ⟨RJ0, "charAt", "(I)C"⟩
abbrev cJ0_indexOf_0f7a4 : ByteArray := prog_15_method_79_code
def yJ0_indexOf_0f7a4 : MethodName := ⟨RJ0, "indexOf", "(I)I"⟩
abbrev cJ0_indexOf_7cf53 : ByteArray := prog_15_method_80_code
def yJ0_indexOf_7cf53 : MethodName := ⟨RJ0, "indexOf", "(II)I"⟩
abbrev cJ0_coder_7d493 : ByteArray := prog_15_method_152_code
def yJ0_coder_7d493 : MethodName := ⟨RJ0, "coder", "()B"⟩
abbrev cJ0_isLatin1_aae02 : ByteArray := prog_15_method_154_code
def yJ0_isLatin1_aae02 : MethodName := ⟨RJ0, "isLatin1", "()Z"⟩
abbrev cJ0_checkIndex_df160 : ByteArray := prog_15_method_155_code
def yJ0_checkIndex_df160 : MethodName := ⟨RJ0, "checkIndex", "(II)V"⟩
abbrev cJ0_checkBoundsBeginEnd_23922 : ByteArray := prog_15_method_158_code
def yJ0_checkBoundsBeginEnd_23922 : MethodName := ⟨RJ0, "checkBoundsBeginEnd", "(III)V"⟩
def RJ1 : String := "java/lang/StringLatin1"
def TJ1 : u_T := fun k => match k with
  | _ => ("", "", "", false)
def tyJ1 : Nat → FieldType := fun k => match k with
  | _ => .int
abbrev wsJ10 : List Cond := u_ws RJ1 TJ1 0
theorem nmJ1 : ∀ a, a < 0 → ∀ b, b < 0 → a ≠ b → (TJ1 a).2.1 ≠ (TJ1 b).2.1 := by decide +kernel
theorem tyJ1_ok : ∀ k, k < 0 → parseFieldDescriptor (TJ1 k).2.2.1 = some (tyJ1 k) := by decide +kernel
abbrev cJ1_charAt_3b067 : ByteArray := prog_16_method_2_code
def yJ1_charAt_3b067 : MethodName := ⟨RJ1, "charAt", "([BI)C"⟩
abbrev cJ1_canEncode_9a6ad : ByteArray := prog_16_method_4_code
def yJ1_canEncode_9a6ad : MethodName := ⟨RJ1, "canEncode", "(I)Z"⟩
abbrev cJ1_indexOf_4cfef : ByteArray := prog_16_method_22_code
def yJ1_indexOf_4cfef : MethodName := ⟨RJ1, "indexOf", "([BIII)I"⟩
abbrev cJ1_indexOfChar_4cfef : ByteArray := prog_16_method_23_code
def yJ1_indexOfChar_4cfef : MethodName := ⟨RJ1, "indexOfChar", "([BIII)I"⟩
def RJ2 : String := "java/lang/StringUTF16"
def TJ2 : u_T := fun k => match k with
  | _ => ("", "", "", false)
def tyJ2 : Nat → FieldType := fun k => match k with
  | _ => .int
abbrev wsJ20 : List Cond := u_ws RJ2 TJ2 0
theorem nmJ2 : ∀ a, a < 0 → ∀ b, b < 0 → a ≠ b → (TJ2 a).2.1 ≠ (TJ2 b).2.1 := by decide +kernel
theorem tyJ2_ok : ∀ k, k < 0 → parseFieldDescriptor (TJ2 k).2.2.1 = some (tyJ2 k) := by decide +kernel
abbrev cJ2_getChar_3b067 : ByteArray := prog_17_method_5_code
def yJ2_getChar_3b067 : MethodName := ⟨RJ2, "getChar", "([BI)C"⟩
abbrev cJ2_length_9d52b : ByteArray := prog_17_method_6_code
def yJ2_length_9d52b : MethodName := ⟨RJ2, "length", "([B)I"⟩
abbrev cJ2_indexOf_4cfef : ByteArray := prog_17_method_40_code
def yJ2_indexOf_4cfef : MethodName := ⟨RJ2, "indexOf", "([BIII)I"⟩
abbrev cJ2_indexOfChar_4cfef : ByteArray := prog_17_method_47_code
def yJ2_indexOfChar_4cfef : MethodName := ⟨RJ2, "indexOfChar", "([BIII)I"⟩
abbrev cJ2_indexOfCharUnsafe_4cfef : ByteArray := prog_17_method_48_code
def yJ2_indexOfCharUnsafe_4cfef : MethodName := ⟨RJ2, "indexOfCharUnsafe", "([BIII)I"⟩
abbrev cJ2_indexOfSupplementary_4cfef : ByteArray := prog_17_method_49_code
def yJ2_indexOfSupplementary_4cfef : MethodName := ⟨RJ2, "indexOfSupplementary", "([BIII)I"⟩
abbrev cJ2_charAt_3b067 : ByteArray := prog_17_method_83_code
def yJ2_charAt_3b067 : MethodName := ⟨RJ2, "charAt", "([BI)C"⟩
abbrev cJ2_checkIndex_2214a : ByteArray := prog_17_method_91_code
def yJ2_checkIndex_2214a : MethodName := ⟨RJ2, "checkIndex", "(I[B)V"⟩
abbrev cJ2_checkBoundsBeginEnd_d044e : ByteArray := prog_17_method_93_code
def yJ2_checkBoundsBeginEnd_d044e : MethodName := ⟨RJ2, "checkBoundsBeginEnd", "(II[B)V"⟩
def RJ3 : String := "jdk/internal/util/Preconditions"
def TJ3 : u_T := fun k => match k with
  | _ => ("", "", "", false)
def tyJ3 : Nat → FieldType := fun k => match k with
  | _ => .int
abbrev wsJ30 : List Cond := u_ws RJ3 TJ3 0
theorem nmJ3 : ∀ a, a < 0 → ∀ b, b < 0 → a ≠ b → (TJ3 a).2.1 ≠ (TJ3 b).2.1 := by decide +kernel
theorem tyJ3_ok : ∀ k, k < 0 → parseFieldDescriptor (TJ3 k).2.2.1 = some (tyJ3 k) := by decide +kernel
abbrev cJ3_checkIndex_8e157 : ByteArray := prog_18_method_11_code
def yJ3_checkIndex_8e157 : MethodName := ⟨RJ3, "checkIndex", "(IILjava/util/function/BiFunction;)I"⟩
abbrev cJ3_checkFromToIndex_8c36e : ByteArray := prog_18_method_12_code
def yJ3_checkFromToIndex_8c36e : MethodName := ⟨RJ3, "checkFromToIndex", "(IIILjava/util/function/BiFunction;)I"⟩
def RL : String := "WaysAtlasLaw"
abbrev cL_law : ByteArray := code
def yL_law : MethodName := ⟨RL, "law", "([I)Z"⟩
abbrev vwCl : List vw_C := [(RX0, TX0, 8), (RX1, TX1, 7), (RX2, TX2, 5), (RX3, TX3, 12), (RX4, TX4, 12), (RX5, TX5, 2), (RX6, TX6, 4), (RX7, TX7, 7), (RX8, TX8, 11), (RX9, TX9, 17), (RX10, TX10, 96)]
/-- all words of the tables that may be handed on to a callee -/
def wsL_law : List Cond := lw_tbl.filter goodWord
theorem vz_in {w : Cond} (h : w ∈ lw_tbl) (hg : goodWord w = true) : w ∈ wsL_law := List.mem_filter.mpr ⟨h, hg⟩
theorem wsL_law_in : ∀ w ∈ wsL_law, w ∈ lw_tbl := fun w h => (List.mem_filter.mp h).1
theorem gdL : GoodIn lw_tbl wsL_law := fun w h => ⟨(List.mem_filter.mp h).1, good_of_word (List.mem_filter.mp h).2⟩
theorem mT_1 {w : Cond} (h : w ∈ tables_1_1) (hg : goodWord w = true) : w ∈ wsL_law := vz_in (List.mem_append_right _ (List.mem_append_left _ h)) hg
theorem mT_2 {w : Cond} (h : w ∈ tables_1_2) (hg : goodWord w = true) : w ∈ wsL_law := vz_in (List.mem_append_right _ (List.mem_append_right _ (List.mem_append_left _ h))) hg
theorem mT_3 {w : Cond} (h : w ∈ tables_1_3) (hg : goodWord w = true) : w ∈ wsL_law := vz_in (List.mem_append_right _ (List.mem_append_right _ (List.mem_append_right _ (List.mem_append_left _ h)))) hg
theorem mT_4 {w : Cond} (h : w ∈ tables_1_4) (hg : goodWord w = true) : w ∈ wsL_law := vz_in (List.mem_append_right _ (List.mem_append_right _ (List.mem_append_right _ (List.mem_append_right _ (List.mem_append_left _ h))))) hg
theorem mT_5 {w : Cond} (h : w ∈ tables_1_5) (hg : goodWord w = true) : w ∈ wsL_law := vz_in (List.mem_append_right _ (List.mem_append_right _ (List.mem_append_right _ (List.mem_append_right _ (List.mem_append_right _ (List.mem_append_left _ h)))))) hg
theorem mT_6 {w : Cond} (h : w ∈ tables_1_6) (hg : goodWord w = true) : w ∈ wsL_law := vz_in (List.mem_append_right _ (List.mem_append_right _ (List.mem_append_right _ (List.mem_append_right _ (List.mem_append_right _ (List.mem_append_right _ (List.mem_append_left _ h))))))) hg
theorem mT_7 {w : Cond} (h : w ∈ tables_1_7) (hg : goodWord w = true) : w ∈ wsL_law := vz_in (List.mem_append_right _ (List.mem_append_right _ (List.mem_append_right _ (List.mem_append_right _ (List.mem_append_right _ (List.mem_append_right _ (List.mem_append_right _ (List.mem_append_left _ h)))))))) hg
theorem mT_8 {w : Cond} (h : w ∈ tables_1_8) (hg : goodWord w = true) : w ∈ wsL_law := vz_in (List.mem_append_right _ (List.mem_append_right _ (List.mem_append_right _ (List.mem_append_right _ (List.mem_append_right _ (List.mem_append_right _ (List.mem_append_right _ (List.mem_append_right _ (List.mem_append_left _ h))))))))) hg
theorem mT_9 {w : Cond} (h : w ∈ tables_1_9) (hg : goodWord w = true) : w ∈ wsL_law := vz_in (List.mem_append_right _ (List.mem_append_right _ (List.mem_append_right _ (List.mem_append_right _ (List.mem_append_right _ (List.mem_append_right _ (List.mem_append_right _ (List.mem_append_right _ (List.mem_append_right _ h))))))))) hg
theorem mS_1 {q : MethodName × Nat} (h : q ∈ lw_privs_1) (hg : goodWord (Cond.selects q.1.cls q.1 q.1) = true) : Cond.selects q.1.cls q.1 q.1 ∈ wsL_law := vz_in (List.mem_append_left _ (List.mem_map.mpr ⟨q, (List.mem_append_left _ h), rfl⟩)) hg
theorem mS_2 {q : MethodName × Nat} (h : q ∈ lw_privs_2) (hg : goodWord (Cond.selects q.1.cls q.1 q.1) = true) : Cond.selects q.1.cls q.1 q.1 ∈ wsL_law := vz_in (List.mem_append_left _ (List.mem_map.mpr ⟨q, (List.mem_append_right _ (List.mem_append_left _ h)), rfl⟩)) hg
theorem mS_3 {q : MethodName × Nat} (h : q ∈ lw_privs_3) (hg : goodWord (Cond.selects q.1.cls q.1 q.1) = true) : Cond.selects q.1.cls q.1 q.1 ∈ wsL_law := vz_in (List.mem_append_left _ (List.mem_map.mpr ⟨q, (List.mem_append_right _ (List.mem_append_right _ (List.mem_append_left _ h))), rfl⟩)) hg
theorem mS_4 {q : MethodName × Nat} (h : q ∈ lw_privs_4) (hg : goodWord (Cond.selects q.1.cls q.1 q.1) = true) : Cond.selects q.1.cls q.1 q.1 ∈ wsL_law := vz_in (List.mem_append_left _ (List.mem_map.mpr ⟨q, (List.mem_append_right _ (List.mem_append_right _ (List.mem_append_right _ (List.mem_append_left _ h)))), rfl⟩)) hg
theorem mS_5 {q : MethodName × Nat} (h : q ∈ lw_privs_5) (hg : goodWord (Cond.selects q.1.cls q.1 q.1) = true) : Cond.selects q.1.cls q.1 q.1 ∈ wsL_law := vz_in (List.mem_append_left _ (List.mem_map.mpr ⟨q, (List.mem_append_right _ (List.mem_append_right _ (List.mem_append_right _ (List.mem_append_right _ (List.mem_append_left _ h))))), rfl⟩)) hg
theorem mS_6 {q : MethodName × Nat} (h : q ∈ lw_privs_6) (hg : goodWord (Cond.selects q.1.cls q.1 q.1) = true) : Cond.selects q.1.cls q.1 q.1 ∈ wsL_law := vz_in (List.mem_append_left _ (List.mem_map.mpr ⟨q, (List.mem_append_right _ (List.mem_append_right _ (List.mem_append_right _ (List.mem_append_right _ (List.mem_append_right _ (List.mem_append_left _ h)))))), rfl⟩)) hg
theorem mS_7 {q : MethodName × Nat} (h : q ∈ lw_privs_7) (hg : goodWord (Cond.selects q.1.cls q.1 q.1) = true) : Cond.selects q.1.cls q.1 q.1 ∈ wsL_law := vz_in (List.mem_append_left _ (List.mem_map.mpr ⟨q, (List.mem_append_right _ (List.mem_append_right _ (List.mem_append_right _ (List.mem_append_right _ (List.mem_append_right _ (List.mem_append_right _ (List.mem_append_left _ h))))))), rfl⟩)) hg
theorem mS_8 {q : MethodName × Nat} (h : q ∈ lw_privs_8) (hg : goodWord (Cond.selects q.1.cls q.1 q.1) = true) : Cond.selects q.1.cls q.1 q.1 ∈ wsL_law := vz_in (List.mem_append_left _ (List.mem_map.mpr ⟨q, (List.mem_append_right _ (List.mem_append_right _ (List.mem_append_right _ (List.mem_append_right _ (List.mem_append_right _ (List.mem_append_right _ (List.mem_append_right _ (List.mem_append_left _ h)))))))), rfl⟩)) hg
theorem mS_9 {q : MethodName × Nat} (h : q ∈ lw_privs_9) (hg : goodWord (Cond.selects q.1.cls q.1 q.1) = true) : Cond.selects q.1.cls q.1 q.1 ∈ wsL_law := vz_in (List.mem_append_left _ (List.mem_map.mpr ⟨q, (List.mem_append_right _ (List.mem_append_right _ (List.mem_append_right _ (List.mem_append_right _ (List.mem_append_right _ (List.mem_append_right _ (List.mem_append_right _ (List.mem_append_right _ (List.mem_append_left _ h))))))))), rfl⟩)) hg
theorem mS_10 {q : MethodName × Nat} (h : q ∈ lw_privs_10) (hg : goodWord (Cond.selects q.1.cls q.1 q.1) = true) : Cond.selects q.1.cls q.1 q.1 ∈ wsL_law := vz_in (List.mem_append_left _ (List.mem_map.mpr ⟨q, (List.mem_append_right _ (List.mem_append_right _ (List.mem_append_right _ (List.mem_append_right _ (List.mem_append_right _ (List.mem_append_right _ (List.mem_append_right _ (List.mem_append_right _ (List.mem_append_right _ (List.mem_append_left _ h)))))))))), rfl⟩)) hg
theorem mS_11 {q : MethodName × Nat} (h : q ∈ lw_privs_11) (hg : goodWord (Cond.selects q.1.cls q.1 q.1) = true) : Cond.selects q.1.cls q.1 q.1 ∈ wsL_law := vz_in (List.mem_append_left _ (List.mem_map.mpr ⟨q, (List.mem_append_right _ (List.mem_append_right _ (List.mem_append_right _ (List.mem_append_right _ (List.mem_append_right _ (List.mem_append_right _ (List.mem_append_right _ (List.mem_append_right _ (List.mem_append_right _ (List.mem_append_right _ (List.mem_append_left _ h))))))))))), rfl⟩)) hg
theorem mS_12 {q : MethodName × Nat} (h : q ∈ lw_privs_12) (hg : goodWord (Cond.selects q.1.cls q.1 q.1) = true) : Cond.selects q.1.cls q.1 q.1 ∈ wsL_law := vz_in (List.mem_append_left _ (List.mem_map.mpr ⟨q, (List.mem_append_right _ (List.mem_append_right _ (List.mem_append_right _ (List.mem_append_right _ (List.mem_append_right _ (List.mem_append_right _ (List.mem_append_right _ (List.mem_append_right _ (List.mem_append_right _ (List.mem_append_right _ (List.mem_append_right _ h))))))))))), rfl⟩)) hg
theorem kinX0 : ∀ k, k < 8 → u_lay RX0 TX0 k ∈ wsL_law := lt_s (lt_s (lt_s (lt_s (lt_s (lt_s (lt_s (lt_s (lt_0) (mT_1 (List.mem_of_getElem? (i := 181) rfl) rfl)) (mT_1 (List.mem_of_getElem? (i := 183) rfl) rfl)) (mT_1 (List.mem_of_getElem? (i := 185) rfl) rfl)) (mT_1 (List.mem_of_getElem? (i := 187) rfl) rfl)) (mT_1 (List.mem_of_getElem? (i := 189) rfl) rfl)) (mT_1 (List.mem_of_getElem? (i := 191) rfl) rfl)) (mT_1 (List.mem_of_getElem? (i := 193) rfl) rfl)) (mT_1 (List.mem_of_getElem? (i := 195) rfl) rfl)
theorem inlX0 : ∀ w ∈ wsX00, w ∈ wsL_law := fun w h => by
  obtain ⟨k, hk, rfl⟩ := List.mem_map.mp h
  exact kinX0 k (List.mem_range.mp hk)
theorem inX0 : ∀ w ∈ wsX00, w ∈ lw_tbl := fun w h => wsL_law_in w (inlX0 w h)
theorem kinX1 : ∀ k, k < 7 → u_lay RX1 TX1 k ∈ wsL_law := lt_s (lt_s (lt_s (lt_s (lt_s (lt_s (lt_s (lt_0) (mT_2 (List.mem_of_getElem? (i := 123) rfl) rfl)) (mT_2 (List.mem_of_getElem? (i := 125) rfl) rfl)) (mT_2 (List.mem_of_getElem? (i := 127) rfl) rfl)) (mT_2 (List.mem_of_getElem? (i := 129) rfl) rfl)) (mT_2 (List.mem_of_getElem? (i := 131) rfl) rfl)) (mT_2 (List.mem_of_getElem? (i := 133) rfl) rfl)) (mT_2 (List.mem_of_getElem? (i := 135) rfl) rfl)
theorem inlX1 : ∀ w ∈ wsX10, w ∈ wsL_law := fun w h => by
  obtain ⟨k, hk, rfl⟩ := List.mem_map.mp h
  exact kinX1 k (List.mem_range.mp hk)
theorem inX1 : ∀ w ∈ wsX10, w ∈ lw_tbl := fun w h => wsL_law_in w (inlX1 w h)
theorem kinX2 : ∀ k, k < 5 → u_lay RX2 TX2 k ∈ wsL_law := lt_s (lt_s (lt_s (lt_s (lt_s (lt_0) (mT_1 (List.mem_of_getElem? (i := 105) rfl) rfl)) (mT_1 (List.mem_of_getElem? (i := 107) rfl) rfl)) (mT_1 (List.mem_of_getElem? (i := 109) rfl) rfl)) (mT_1 (List.mem_of_getElem? (i := 111) rfl) rfl)) (mT_1 (List.mem_of_getElem? (i := 113) rfl) rfl)
theorem inlX2 : ∀ w ∈ wsX20, w ∈ wsL_law := fun w h => by
  obtain ⟨k, hk, rfl⟩ := List.mem_map.mp h
  exact kinX2 k (List.mem_range.mp hk)
theorem inX2 : ∀ w ∈ wsX20, w ∈ lw_tbl := fun w h => wsL_law_in w (inlX2 w h)
theorem kinX3 : ∀ k, k < 12 → u_lay RX3 TX3 k ∈ wsL_law := lt_s (lt_s (lt_s (lt_s (lt_s (lt_s (lt_s (lt_s (lt_s (lt_s (lt_s (lt_s (lt_0) (mT_1 (List.mem_of_getElem? (i := 138) rfl) rfl)) (mT_1 (List.mem_of_getElem? (i := 140) rfl) rfl)) (mT_1 (List.mem_of_getElem? (i := 142) rfl) rfl)) (mT_1 (List.mem_of_getElem? (i := 144) rfl) rfl)) (mT_1 (List.mem_of_getElem? (i := 146) rfl) rfl)) (mT_1 (List.mem_of_getElem? (i := 148) rfl) rfl)) (mT_1 (List.mem_of_getElem? (i := 150) rfl) rfl)) (mT_1 (List.mem_of_getElem? (i := 152) rfl) rfl)) (mT_1 (List.mem_of_getElem? (i := 154) rfl) rfl)) (mT_1 (List.mem_of_getElem? (i := 156) rfl) rfl)) (mT_1 (List.mem_of_getElem? (i := 158) rfl) rfl)) (mT_1 (List.mem_of_getElem? (i := 160) rfl) rfl)
theorem inlX3 : ∀ w ∈ wsX30, w ∈ wsL_law := fun w h => by
  obtain ⟨k, hk, rfl⟩ := List.mem_map.mp h
  exact kinX3 k (List.mem_range.mp hk)
theorem inX3 : ∀ w ∈ wsX30, w ∈ lw_tbl := fun w h => wsL_law_in w (inlX3 w h)
theorem kinX4 : ∀ k, k < 12 → u_lay RX4 TX4 k ∈ wsL_law := lt_s (lt_s (lt_s (lt_s (lt_s (lt_s (lt_s (lt_s (lt_s (lt_s (lt_s (lt_s (lt_0) (mT_1 (List.mem_of_getElem? (i := 238) rfl) rfl)) (mT_2 (List.mem_of_getElem? (i := 0) rfl) rfl)) (mT_2 (List.mem_of_getElem? (i := 2) rfl) rfl)) (mT_2 (List.mem_of_getElem? (i := 4) rfl) rfl)) (mT_2 (List.mem_of_getElem? (i := 6) rfl) rfl)) (mT_2 (List.mem_of_getElem? (i := 8) rfl) rfl)) (mT_2 (List.mem_of_getElem? (i := 10) rfl) rfl)) (mT_2 (List.mem_of_getElem? (i := 12) rfl) rfl)) (mT_2 (List.mem_of_getElem? (i := 14) rfl) rfl)) (mT_2 (List.mem_of_getElem? (i := 16) rfl) rfl)) (mT_2 (List.mem_of_getElem? (i := 18) rfl) rfl)) (mT_2 (List.mem_of_getElem? (i := 20) rfl) rfl)
theorem inlX4 : ∀ w ∈ wsX40, w ∈ wsL_law := fun w h => by
  obtain ⟨k, hk, rfl⟩ := List.mem_map.mp h
  exact kinX4 k (List.mem_range.mp hk)
theorem inX4 : ∀ w ∈ wsX40, w ∈ lw_tbl := fun w h => wsL_law_in w (inlX4 w h)
theorem kinX5 : ∀ k, k < 2 → u_lay RX5 TX5 k ∈ wsL_law := lt_s (lt_s (lt_0) (mT_1 (List.mem_of_getElem? (i := 67) rfl) rfl)) (mT_1 (List.mem_of_getElem? (i := 69) rfl) rfl)
theorem inlX5 : ∀ w ∈ wsX50, w ∈ wsL_law := fun w h => by
  obtain ⟨k, hk, rfl⟩ := List.mem_map.mp h
  exact kinX5 k (List.mem_range.mp hk)
theorem inX5 : ∀ w ∈ wsX50, w ∈ lw_tbl := fun w h => wsL_law_in w (inlX5 w h)
theorem kinX6 : ∀ k, k < 4 → u_lay RX6 TX6 k ∈ wsL_law := lt_s (lt_s (lt_s (lt_s (lt_0) (mT_1 (List.mem_of_getElem? (i := 46) rfl) rfl)) (mT_1 (List.mem_of_getElem? (i := 48) rfl) rfl)) (mT_1 (List.mem_of_getElem? (i := 50) rfl) rfl)) (mT_1 (List.mem_of_getElem? (i := 52) rfl) rfl)
theorem inlX6 : ∀ w ∈ wsX60, w ∈ wsL_law := fun w h => by
  obtain ⟨k, hk, rfl⟩ := List.mem_map.mp h
  exact kinX6 k (List.mem_range.mp hk)
theorem inX6 : ∀ w ∈ wsX60, w ∈ lw_tbl := fun w h => wsL_law_in w (inlX6 w h)
theorem kinX7 : ∀ k, k < 7 → u_lay RX7 TX7 k ∈ wsL_law := lt_s (lt_s (lt_s (lt_s (lt_s (lt_s (lt_s (lt_0) (mT_2 (List.mem_of_getElem? (i := 93) rfl) rfl)) (mT_2 (List.mem_of_getElem? (i := 95) rfl) rfl)) (mT_2 (List.mem_of_getElem? (i := 97) rfl) rfl)) (mT_2 (List.mem_of_getElem? (i := 99) rfl) rfl)) (mT_2 (List.mem_of_getElem? (i := 101) rfl) rfl)) (mT_2 (List.mem_of_getElem? (i := 103) rfl) rfl)) (mT_2 (List.mem_of_getElem? (i := 105) rfl) rfl)
theorem inlX7 : ∀ w ∈ wsX70, w ∈ wsL_law := fun w h => by
  obtain ⟨k, hk, rfl⟩ := List.mem_map.mp h
  exact kinX7 k (List.mem_range.mp hk)
theorem inX7 : ∀ w ∈ wsX70, w ∈ lw_tbl := fun w h => wsL_law_in w (inlX7 w h)
theorem kinX8 : ∀ k, k < 11 → u_lay RX8 TX8 k ∈ wsL_law := lt_s (lt_s (lt_s (lt_s (lt_s (lt_s (lt_s (lt_s (lt_s (lt_s (lt_s (lt_0) (mT_2 (List.mem_of_getElem? (i := 57) rfl) rfl)) (mT_2 (List.mem_of_getElem? (i := 59) rfl) rfl)) (mT_2 (List.mem_of_getElem? (i := 61) rfl) rfl)) (mT_2 (List.mem_of_getElem? (i := 63) rfl) rfl)) (mT_2 (List.mem_of_getElem? (i := 65) rfl) rfl)) (mT_2 (List.mem_of_getElem? (i := 67) rfl) rfl)) (mT_2 (List.mem_of_getElem? (i := 69) rfl) rfl)) (mT_2 (List.mem_of_getElem? (i := 71) rfl) rfl)) (mT_2 (List.mem_of_getElem? (i := 73) rfl) rfl)) (mT_2 (List.mem_of_getElem? (i := 75) rfl) rfl)) (mT_2 (List.mem_of_getElem? (i := 77) rfl) rfl)
theorem inlX8 : ∀ w ∈ wsX80, w ∈ wsL_law := fun w h => by
  obtain ⟨k, hk, rfl⟩ := List.mem_map.mp h
  exact kinX8 k (List.mem_range.mp hk)
theorem inX8 : ∀ w ∈ wsX80, w ∈ lw_tbl := fun w h => wsL_law_in w (inlX8 w h)
theorem kinX9 : ∀ k, k < 17 → u_lay RX9 TX9 k ∈ wsL_law := lt_s (lt_s (lt_s (lt_s (lt_s (lt_s (lt_s (lt_s (lt_s (lt_s (lt_s (lt_s (lt_s (lt_s (lt_s (lt_s (lt_s (lt_0) (mT_2 (List.mem_of_getElem? (i := 155) rfl) rfl)) (mT_2 (List.mem_of_getElem? (i := 157) rfl) rfl)) (mT_2 (List.mem_of_getElem? (i := 159) rfl) rfl)) (mT_2 (List.mem_of_getElem? (i := 161) rfl) rfl)) (mT_2 (List.mem_of_getElem? (i := 163) rfl) rfl)) (mT_2 (List.mem_of_getElem? (i := 165) rfl) rfl)) (mT_2 (List.mem_of_getElem? (i := 167) rfl) rfl)) (mT_2 (List.mem_of_getElem? (i := 169) rfl) rfl)) (mT_2 (List.mem_of_getElem? (i := 171) rfl) rfl)) (mT_2 (List.mem_of_getElem? (i := 173) rfl) rfl)) (mT_2 (List.mem_of_getElem? (i := 175) rfl) rfl)) (mT_2 (List.mem_of_getElem? (i := 177) rfl) rfl)) (mT_2 (List.mem_of_getElem? (i := 179) rfl) rfl)) (mT_2 (List.mem_of_getElem? (i := 181) rfl) rfl)) (mT_2 (List.mem_of_getElem? (i := 183) rfl) rfl)) (mT_2 (List.mem_of_getElem? (i := 185) rfl) rfl)) (mT_2 (List.mem_of_getElem? (i := 187) rfl) rfl)
theorem inlX9 : ∀ w ∈ wsX90, w ∈ wsL_law := fun w h => by
  obtain ⟨k, hk, rfl⟩ := List.mem_map.mp h
  exact kinX9 k (List.mem_range.mp hk)
theorem inX9 : ∀ w ∈ wsX90, w ∈ lw_tbl := fun w h => wsL_law_in w (inlX9 w h)
theorem kinX10 : ∀ k, k < 96 → u_lay RX10 TX10 k ∈ wsL_law := lt_s (lt_s (lt_s (lt_s (lt_s (lt_s (lt_s (lt_s (lt_s (lt_s (lt_s (lt_s (lt_s (lt_s (lt_s (lt_s (lt_s (lt_s (lt_s (lt_s (lt_s (lt_s (lt_s (lt_s (lt_s (lt_s (lt_s (lt_s (lt_s (lt_s (lt_s (lt_s (lt_s (lt_s (lt_s (lt_s (lt_s (lt_s (lt_s (lt_s (lt_s (lt_s (lt_s (lt_s (lt_s (lt_s (lt_s (lt_s (lt_s (lt_s (lt_s (lt_s (lt_s (lt_s (lt_s (lt_s (lt_s (lt_s (lt_s (lt_s (lt_s (lt_s (lt_s (lt_s (lt_s (lt_s (lt_s (lt_s (lt_s (lt_s (lt_s (lt_s (lt_s (lt_s (lt_s (lt_s (lt_s (lt_s (lt_s (lt_s (lt_s (lt_s (lt_s (lt_s (lt_s (lt_s (lt_s (lt_s (lt_s (lt_s (lt_s (lt_s (lt_s (lt_s (lt_s (lt_s (lt_0) (mT_6 (List.mem_of_getElem? (i := 207) rfl) rfl)) (mT_6 (List.mem_of_getElem? (i := 209) rfl) rfl)) (mT_6 (List.mem_of_getElem? (i := 211) rfl) rfl)) (mT_6 (List.mem_of_getElem? (i := 213) rfl) rfl)) (mT_6 (List.mem_of_getElem? (i := 215) rfl) rfl)) (mT_6 (List.mem_of_getElem? (i := 217) rfl) rfl)) (mT_6 (List.mem_of_getElem? (i := 219) rfl) rfl)) (mT_6 (List.mem_of_getElem? (i := 221) rfl) rfl)) (mT_6 (List.mem_of_getElem? (i := 223) rfl) rfl)) (mT_6 (List.mem_of_getElem? (i := 225) rfl) rfl)) (mT_6 (List.mem_of_getElem? (i := 227) rfl) rfl)) (mT_6 (List.mem_of_getElem? (i := 229) rfl) rfl)) (mT_6 (List.mem_of_getElem? (i := 231) rfl) rfl)) (mT_6 (List.mem_of_getElem? (i := 233) rfl) rfl)) (mT_6 (List.mem_of_getElem? (i := 235) rfl) rfl)) (mT_6 (List.mem_of_getElem? (i := 237) rfl) rfl)) (mT_6 (List.mem_of_getElem? (i := 239) rfl) rfl)) (mT_7 (List.mem_of_getElem? (i := 1) rfl) rfl)) (mT_7 (List.mem_of_getElem? (i := 3) rfl) rfl)) (mT_7 (List.mem_of_getElem? (i := 5) rfl) rfl)) (mT_7 (List.mem_of_getElem? (i := 7) rfl) rfl)) (mT_7 (List.mem_of_getElem? (i := 9) rfl) rfl)) (mT_7 (List.mem_of_getElem? (i := 11) rfl) rfl)) (mT_7 (List.mem_of_getElem? (i := 13) rfl) rfl)) (mT_7 (List.mem_of_getElem? (i := 15) rfl) rfl)) (mT_7 (List.mem_of_getElem? (i := 17) rfl) rfl)) (mT_7 (List.mem_of_getElem? (i := 19) rfl) rfl)) (mT_7 (List.mem_of_getElem? (i := 21) rfl) rfl)) (mT_7 (List.mem_of_getElem? (i := 23) rfl) rfl)) (mT_7 (List.mem_of_getElem? (i := 25) rfl) rfl)) (mT_7 (List.mem_of_getElem? (i := 27) rfl) rfl)) (mT_7 (List.mem_of_getElem? (i := 29) rfl) rfl)) (mT_7 (List.mem_of_getElem? (i := 31) rfl) rfl)) (mT_7 (List.mem_of_getElem? (i := 33) rfl) rfl)) (mT_7 (List.mem_of_getElem? (i := 35) rfl) rfl)) (mT_7 (List.mem_of_getElem? (i := 37) rfl) rfl)) (mT_7 (List.mem_of_getElem? (i := 39) rfl) rfl)) (mT_7 (List.mem_of_getElem? (i := 41) rfl) rfl)) (mT_7 (List.mem_of_getElem? (i := 43) rfl) rfl)) (mT_7 (List.mem_of_getElem? (i := 45) rfl) rfl)) (mT_7 (List.mem_of_getElem? (i := 47) rfl) rfl)) (mT_7 (List.mem_of_getElem? (i := 49) rfl) rfl)) (mT_7 (List.mem_of_getElem? (i := 51) rfl) rfl)) (mT_7 (List.mem_of_getElem? (i := 53) rfl) rfl)) (mT_7 (List.mem_of_getElem? (i := 55) rfl) rfl)) (mT_7 (List.mem_of_getElem? (i := 57) rfl) rfl)) (mT_7 (List.mem_of_getElem? (i := 59) rfl) rfl)) (mT_7 (List.mem_of_getElem? (i := 61) rfl) rfl)) (mT_7 (List.mem_of_getElem? (i := 63) rfl) rfl)) (mT_7 (List.mem_of_getElem? (i := 65) rfl) rfl)) (mT_7 (List.mem_of_getElem? (i := 67) rfl) rfl)) (mT_7 (List.mem_of_getElem? (i := 69) rfl) rfl)) (mT_7 (List.mem_of_getElem? (i := 71) rfl) rfl)) (mT_7 (List.mem_of_getElem? (i := 73) rfl) rfl)) (mT_7 (List.mem_of_getElem? (i := 75) rfl) rfl)) (mT_7 (List.mem_of_getElem? (i := 77) rfl) rfl)) (mT_7 (List.mem_of_getElem? (i := 79) rfl) rfl)) (mT_7 (List.mem_of_getElem? (i := 81) rfl) rfl)) (mT_7 (List.mem_of_getElem? (i := 83) rfl) rfl)) (mT_7 (List.mem_of_getElem? (i := 85) rfl) rfl)) (mT_7 (List.mem_of_getElem? (i := 87) rfl) rfl)) (mT_7 (List.mem_of_getElem? (i := 89) rfl) rfl)) (mT_7 (List.mem_of_getElem? (i := 91) rfl) rfl)) (mT_7 (List.mem_of_getElem? (i := 93) rfl) rfl)) (mT_7 (List.mem_of_getElem? (i := 95) rfl) rfl)) (mT_7 (List.mem_of_getElem? (i := 97) rfl) rfl)) (mT_7 (List.mem_of_getElem? (i := 99) rfl) rfl)) (mT_7 (List.mem_of_getElem? (i := 101) rfl) rfl)) (mT_7 (List.mem_of_getElem? (i := 103) rfl) rfl)) (mT_7 (List.mem_of_getElem? (i := 105) rfl) rfl)) (mT_7 (List.mem_of_getElem? (i := 107) rfl) rfl)) (mT_7 (List.mem_of_getElem? (i := 109) rfl) rfl)) (mT_7 (List.mem_of_getElem? (i := 111) rfl) rfl)) (mT_7 (List.mem_of_getElem? (i := 113) rfl) rfl)) (mT_7 (List.mem_of_getElem? (i := 115) rfl) rfl)) (mT_7 (List.mem_of_getElem? (i := 117) rfl) rfl)) (mT_7 (List.mem_of_getElem? (i := 119) rfl) rfl)) (mT_7 (List.mem_of_getElem? (i := 121) rfl) rfl)) (mT_7 (List.mem_of_getElem? (i := 123) rfl) rfl)) (mT_7 (List.mem_of_getElem? (i := 125) rfl) rfl)) (mT_7 (List.mem_of_getElem? (i := 127) rfl) rfl)) (mT_7 (List.mem_of_getElem? (i := 129) rfl) rfl)) (mT_7 (List.mem_of_getElem? (i := 131) rfl) rfl)) (mT_7 (List.mem_of_getElem? (i := 133) rfl) rfl)) (mT_7 (List.mem_of_getElem? (i := 135) rfl) rfl)) (mT_7 (List.mem_of_getElem? (i := 137) rfl) rfl)) (mT_7 (List.mem_of_getElem? (i := 139) rfl) rfl)) (mT_7 (List.mem_of_getElem? (i := 141) rfl) rfl)) (mT_7 (List.mem_of_getElem? (i := 143) rfl) rfl)) (mT_7 (List.mem_of_getElem? (i := 145) rfl) rfl)) (mT_7 (List.mem_of_getElem? (i := 147) rfl) rfl)) (mT_7 (List.mem_of_getElem? (i := 149) rfl) rfl)) (mT_7 (List.mem_of_getElem? (i := 151) rfl) rfl)) (mT_7 (List.mem_of_getElem? (i := 153) rfl) rfl)) (mT_7 (List.mem_of_getElem? (i := 155) rfl) rfl)) (mT_7 (List.mem_of_getElem? (i := 157) rfl) rfl)
theorem inlX10 : ∀ w ∈ wsX100, w ∈ wsL_law := fun w h => by
  obtain ⟨k, hk, rfl⟩ := List.mem_map.mp h
  exact kinX10 k (List.mem_range.mp hk)
theorem inX10 : ∀ w ∈ wsX100, w ∈ lw_tbl := fun w h => wsL_law_in w (inlX10 w h)
end
section
/-! A small layer over the kit: all methods' contracts rest on one list of words (wsL_law), worlds are lists of cells, int/byte/long/boolean arrays have one class each (g 0 .. g 3). -/
abbrev vz_T : Type := List (ClassId × FieldType)
abbrev tyG (g : Nat → ClassId) : vz_T := [(g 0, .int), (g 1, .byte), (g 2, .long), (g 3, .boolean)]
/-- a Table, and the array of its cells -/
abbrev tT (h q : Nat) (w m r : Int32) : Nat × va_E := (h, .inr (6, [.ref q, .int w, .int m, .int r]))
abbrev tA (g : Nat → ClassId) (q n : Nat) (f : Nat → Int32) : Nat × va_E := (q, .inl (g 0, n, .inl f))
def vz_B (D : va_G) (T : vz_T) (A : Nat → Prop) (ws : va_W) (t : State) : Prop := va_P D vwCl ws t.heap ∧ va_K D vwCl T t ∧ va_D A ws
def vz_S (D : va_G) (T : vz_T) (sz : Nat) (ws : va_W) (U : State) : Prop := U.heap.size = sz ∧ va_P D vwCl ws U.heap ∧ va_K D vwCl T U ∧ va_D (fun _ => True) ws
def vz_Mi {S : Type} (l : Launch) (D : va_G) (T : vz_T) (y : MethodName) (b : ByteArray) (n f L mc ms : Nat) (ty : FieldType) (av : List Value) (sz : Nat) (ws : va_W) (post : Int32 → S → Prop) (w1 : S → va_W) : Prop :=
  Met l y (.code y b n (some ty) :: wsL_law) { frames := f, cells := mc, slots := ms, locals := L } (va_Pc av (vz_S D T sz ws)) (va_Qi post (fun u => vz_B D T (va_A ws sz) (w1 u)) (va_A ws sz)) mc ms (va_A ws sz)
def vz_Mv {S : Type} (l : Launch) (D : va_G) (T : vz_T) (y : MethodName) (b : ByteArray) (n f L mc ms : Nat) (av : List Value) (sz : Nat) (ws : va_W) (post : S → Prop) (w1 : S → va_W) : Prop :=
  Met l y (.code y b n none :: wsL_law) { frames := f, cells := mc, slots := ms, locals := L } (va_Pc av (vz_S D T sz ws)) (va_Qv post (fun u => vz_B D T (va_A ws sz) (w1 u)) (va_A ws sz)) mc ms (va_A ws sz)
def vz_Mr {S : Type} (l : Launch) (D : va_G) (T : vz_T) (y : MethodName) (b : ByteArray) (n f L mc ms : Nat) (ty : FieldType) (av : List Value) (sz : Nat) (ws : va_W) (ra : S → Nat) (w1 : S → va_W) : Prop :=
  Met l y (.code y b n (some ty) :: wsL_law) { frames := f, cells := mc, slots := ms, locals := L } (va_Pc av (vz_S D T sz ws)) (va_Qr (fun _ : S => True) (fun u a t => a = ra u ∧ vz_B D T (va_A ws sz) (w1 u) t) (va_A ws sz)) mc ms (va_A ws sz)
theorem vz_pickP {D : va_G} {cl : List vw_C} {ws wc : va_W} {H : Heap} (h : va_P D cl ws H) (is : List Nat) (hC : is.map (fun i => ws[i]?) = wc.map some) : va_P D cl wc H := by
  intro k q hk
  have h1 : (is.map (fun i => ws[i]?))[k]? = some (some q) := by rw [hC, List.getElem?_map, hk]; rfl
  rw [List.getElem?_map] at h1
  cases hi : is[k]? with
  | none => rw [hi] at h1; cases h1
  | some i => rw [hi] at h1; exact h i q (Option.some.inj h1)
def vz_ap (isC isR : List Nat) : Bool := va_nd isC && va_nd isR && isR.all (fun i => !isC.contains i)
theorem vz_ap_spec {isC isR : List Nat} (h : vz_ap isC isR = true) : va_nd isC = true ∧ va_nd isR = true ∧ ∀ i ∈ isR, i ∉ isC := by
  simp only [vz_ap, Bool.and_eq_true] at h
  refine ⟨h.1.1, h.1.2, fun i hi hc => ?_⟩
  have h1 := List.all_eq_true.mp h.2 i hi
  simp at h1
  exact h1 hc
theorem vp_in_c {i : Int32} {n : Nat} (h : (0 ≤ i.toInt ∧ i.toInt < n)) : vp_in i n := vp_in_iff.mpr h
/-- what a call of a virtual method, a static one, a constructor wants of the words -/
def vz_cv (own : String) (index : Nat) (y : MethodName) (b : ByteArray) (n : Nat) (ret : Option FieldType) (k : Nat) : Prop := Cond.methodLink own index y ∈ wsL_law ∧ Cond.instanceMethod y ∈ wsL_law ∧ Cond.selects y.cls y y ∈ wsL_law ∧ Cond.initialized y.cls ∈ wsL_law ∧ Cond.code y b n ret ∈ wsL_law ∧ (y.cls ≠ "java/lang/invoke/MethodHandle" ∧ y.cls ≠ "java/lang/invoke/VarHandle" ∧ (parseMethodDescriptor y.desc).map (fun d => d.parameters.length) = some k)
def vz_cs (own : String) (index : Nat) (y : MethodName) (b : ByteArray) (n : Nat) (ret : Option FieldType) (k : Nat) : Prop := Cond.methodLink own index y ∈ wsL_law ∧ Cond.static y ∈ wsL_law ∧ Cond.initialized own ∈ wsL_law ∧ Cond.code y b n ret ∈ wsL_law ∧ (y.cls = own ∧ y.cls ≠ "java/lang/invoke/MethodHandle" ∧ y.cls ≠ "java/lang/invoke/VarHandle" ∧ (parseMethodDescriptor y.desc).map (fun d => d.parameters.length) = some k)
def vz_ci (own : String) (index : Nat) (y : MethodName) (b : ByteArray) (n : Nat) (k : Nat) : Prop := Cond.methodLink own index y ∈ wsL_law ∧ Cond.instanceMethod y ∈ wsL_law ∧ Cond.initialized y.cls ∈ wsL_law ∧ Cond.code y b n none ∈ wsL_law ∧ (y.name = "<init>" ∧ y.cls ≠ "java/lang/invoke/MethodHandle" ∧ y.cls ≠ "java/lang/invoke/VarHandle" ∧ (parseMethodDescriptor y.desc).map (fun d => d.parameters.length) = some k)
theorem vz_gd {ws : List Cond} (h : ∀ w ∈ ws, w ∈ wsL_law) : GoodIn wsL_law ws := fun w hw => ⟨h w hw, (gdL w (h w hw)).2⟩
theorem vz_gcode {y : MethodName} {b : ByteArray} {n : Nat} {ret : Option FieldType} (h : Cond.code y b n ret ∈ wsL_law) : GoodIn wsL_law (.code y b n ret :: wsL_law) := vz_gd fun w hw => by
  rcases List.mem_cons.mp hw with rfl | hw
  · exact h
  · exact hw
theorem vz_gv {own : String} {index : Nat} {y : MethodName} {b : ByteArray} {n : Nat} {ret : Option FieldType} {k : Nat} (h : vz_cv own index y b n ret k) : GoodIn wsL_law (wsV own index y.cls y (.code y b n ret :: wsL_law)) := by
  obtain ⟨h1, h2, h3, h4, h5, -⟩ := h
  refine vz_gd fun w hw => ?_
  rcases List.mem_append.mp hw with hw | hw
  · simp only [List.mem_cons, List.not_mem_nil, or_false] at hw
    rcases hw with rfl | rfl | rfl | rfl
    · exact h1
    · exact h2
    · exact h3
    · exact h4
  · exact (vz_gcode h5 w hw).1
theorem vz_gs {own : String} {index : Nat} {y : MethodName} {b : ByteArray} {n : Nat} {ret : Option FieldType} {k : Nat} (h : vz_cs own index y b n ret k) : GoodIn wsL_law (wsS own index y (.code y b n ret :: wsL_law)) := by
  obtain ⟨h1, h2, h3, h5, -⟩ := h
  refine vz_gd fun w hw => ?_
  rcases List.mem_append.mp hw with hw | hw
  · simp only [List.mem_cons, List.not_mem_nil, or_false] at hw
    rcases hw with rfl | rfl | rfl
    · exact h1
    · exact h2
    · exact h3
  · exact (vz_gcode h5 w hw).1
theorem vz_blind {D : va_G} {T : vz_T} {sz : Nat} {ws : va_W} {av : List Value} : FrameBlind (va_Pc av (vz_S D T sz ws)) := fun a U g mk q => by
  obtain ⟨q0, q1, qP, qK, qD⟩ := q
  exact ⟨q0, q1, qP, va_K.moved (u := U) (U := U.calling g mk a) (Vm.Alike.refl U.vm) qK, qD⟩
theorem vz_pre {D : va_G} {T : vz_T} {s : State} {H : Heap} {ws : va_W} {A : Nat → Prop} (hP : va_P D vwCl ws H) (hK : va_K D vwCl T s) (hD : va_D A ws) (av : List Value) : ∀ U : State, U.heap = H → s.WarmedH U.vm → va_Pc av (vz_S D T H.size ws) av.toArray U := fun U hU hW => ⟨rfl, by rw [hU], by rw [hU]; exact hP, va_K.moved hW.alike hK, hD.weaken (fun _ _ _ _ => trivial)⟩
section VZ
variable {p : Program} {l : Launch} {e : Env} {R : Room} {s : State} {m : MethodId} {args : Array Value} {below : List Frame} {meth : Method} {c : Code} {H : Heap} {locs : List Loc} {cells slots : Nat} {Q : State → Prop}
variable {cc b' : ByteArray} {pc nL n' f L mc ms index : Nat} {ls : Array Slot} {As rest st0 : List Value} {D : va_G} {A : Nat → Prop} {b : Nat} {T : vz_T} {ws wc wr : va_W} {own : String} {y : MethodName} {ty : FieldType} {S : Type} {H0 : Heap}
theorem vz_Vi {post : Int32 → S → Prop} {w1 : S → va_W} (hx : p.tables.exec = Jvm.exec) (hb : c.code = cc) (hml : c.maxLocals = nL) (hown : s.vm.findClass own = some m.cls) (hts : ∀ w ∈ wsL_law, w.before args s = true) (hK : va_K D vwCl T s) (hA : ∀ q : Nat, H0.size ≤ q → A q) (hP : va_P D vwCl ws H) (hD : va_D A ws) (hS : va_S A H0 H locs)
    (hM : vz_Mi l D T y b' n' f L mc ms ty (.ref b :: As) H.size wc post w1) (hc : vz_cv own index y b' n' (some ty) As.length) (hR : f + 1 ≤ R.frames ∧ 8 + (n' + 11) + L ≤ R.locals)
    {q0 ci : Nat} {fs : List Value} {q : vw_C} (he : ws[q0]? = some (b, .inr (ci, fs))) (hq : vwCl[ci]? = some q) (hqc : q.1 = y.cls) (isC isR : List Nat) (hC : isC.map (fun i => ws[i]?) = wc.map some) (hRr : isR.map (fun i => ws[i]?) = wr.map some) (hap : vz_ap isC isR = true)
    (hls : ls.size = nL) (hroom : (rest.map fun v => v.category).sum ≤ 8) (hdg : decode cc pc = .ok (.invokevirtual index, 3)) (hf : cells + mc ≤ R.cells ∧ slots + ms ≤ R.slots) (hst : st0 = As.reverse ++ .ref b :: rest)
    (kk : ∀ (r : Int32) (u : S) (H1 : Heap) (locs1 : List Loc), post r u → H.size ≤ H1.size → va_P D vwCl (wr ++ w1 u) H1 → va_D A (wr ++ w1 u) → va_S A H0 H1 locs1 → W p l e R s m args below meth c H1 locs1 (cells + mc) (slots + ms) Q (F0 m (pc + 3) ls (.int r :: rest))) : W p l e R s m args below meth c H locs cells slots Q (F0 m pc ls st0) := by
  obtain ⟨n1, n2, n3⟩ := vz_ap_spec hap
  have hPc := vz_pickP hP isC hC
  have hDc := hD.sub isC n1 hC
  have hFc := va_free (wc := wc) hD hS hA isC hC
  refine va_calli (va_runV (As := As) (rest := rest) ⟨hx, hb, hml, hown, hts⟩ hM (cwV As.length hts (vz_gv hc) rfl rfl rfl ⟨rfl, hc.2.2.2.2.2⟩ hR) ⟨vz_blind, by rw [← hqc]; exact va_recv hK hP hq he, vz_pre hPc hK hDc _⟩ rfl rfl hls hst (lv_room hroom) hdg hf) hS (fun q _ h => hFc q h) hFc (fun r u t H1 locs1 ht hvm hw hB hz1 hk1 hS1 => ?_)
  obtain ⟨hP1, hK1, hD1⟩ := hB
  rw [ht] at hP1
  obtain ⟨hP2, hD2⟩ := va_join hP hD isC isR hC hRr n2 n3 hk1 hFc hP1 hD1
  exact kk r u H1 locs1 hw hz1 hP2 hD2 hS1
theorem vz_Vv {post : S → Prop} {w1 : S → va_W} (hx : p.tables.exec = Jvm.exec) (hb : c.code = cc) (hml : c.maxLocals = nL) (hown : s.vm.findClass own = some m.cls) (hts : ∀ w ∈ wsL_law, w.before args s = true) (hK : va_K D vwCl T s) (hA : ∀ q : Nat, H0.size ≤ q → A q) (hP : va_P D vwCl ws H) (hD : va_D A ws) (hS : va_S A H0 H locs)
    (hM : vz_Mv l D T y b' n' f L mc ms (.ref b :: As) H.size wc post w1) (hc : vz_cv own index y b' n' none As.length) (hR : f + 1 ≤ R.frames ∧ 8 + (n' + 11) + L ≤ R.locals)
    {q0 ci : Nat} {fs : List Value} {q : vw_C} (he : ws[q0]? = some (b, .inr (ci, fs))) (hq : vwCl[ci]? = some q) (hqc : q.1 = y.cls) (isC isR : List Nat) (hC : isC.map (fun i => ws[i]?) = wc.map some) (hRr : isR.map (fun i => ws[i]?) = wr.map some) (hap : vz_ap isC isR = true)
    (hls : ls.size = nL) (hroom : (rest.map fun v => v.category).sum ≤ 8) (hdg : decode cc pc = .ok (.invokevirtual index, 3)) (hf : cells + mc ≤ R.cells ∧ slots + ms ≤ R.slots) (hst : st0 = As.reverse ++ .ref b :: rest)
    (kk : ∀ (u : S) (H1 : Heap) (locs1 : List Loc), post u → H.size ≤ H1.size → va_P D vwCl (wr ++ w1 u) H1 → va_D A (wr ++ w1 u) → va_S A H0 H1 locs1 → W p l e R s m args below meth c H1 locs1 (cells + mc) (slots + ms) Q (F0 m (pc + 3) ls rest)) : W p l e R s m args below meth c H locs cells slots Q (F0 m pc ls st0) := by
  obtain ⟨n1, n2, n3⟩ := vz_ap_spec hap
  have hPc := vz_pickP hP isC hC
  have hDc := hD.sub isC n1 hC
  have hFc := va_free (wc := wc) hD hS hA isC hC
  refine va_callv (va_runV (As := As) (rest := rest) ⟨hx, hb, hml, hown, hts⟩ hM (cwV As.length hts (vz_gv hc) rfl rfl rfl ⟨rfl, hc.2.2.2.2.2⟩ hR) ⟨vz_blind, by rw [← hqc]; exact va_recv hK hP hq he, vz_pre hPc hK hDc _⟩ rfl rfl hls hst (lv_room hroom) hdg hf) hS (fun q _ h => hFc q h) hFc (fun u t H1 locs1 ht hvm hw hB hz1 hk1 hS1 => ?_)
  obtain ⟨hP1, hK1, hD1⟩ := hB
  rw [ht] at hP1
  obtain ⟨hP2, hD2⟩ := va_join hP hD isC isR hC hRr n2 n3 hk1 hFc hP1 hD1
  exact kk u H1 locs1 hw hz1 hP2 hD2 hS1
theorem vz_Vr {ra : S → Nat} {w1 : S → va_W} (hx : p.tables.exec = Jvm.exec) (hb : c.code = cc) (hml : c.maxLocals = nL) (hown : s.vm.findClass own = some m.cls) (hts : ∀ w ∈ wsL_law, w.before args s = true) (hK : va_K D vwCl T s) (hA : ∀ q : Nat, H0.size ≤ q → A q) (hP : va_P D vwCl ws H) (hD : va_D A ws) (hS : va_S A H0 H locs)
    (hM : vz_Mr l D T y b' n' f L mc ms ty (.ref b :: As) H.size wc ra w1) (hc : vz_cv own index y b' n' (some ty) As.length) (hR : f + 1 ≤ R.frames ∧ 8 + (n' + 11) + L ≤ R.locals)
    {q0 ci : Nat} {fs : List Value} {q : vw_C} (he : ws[q0]? = some (b, .inr (ci, fs))) (hq : vwCl[ci]? = some q) (hqc : q.1 = y.cls) (isC isR : List Nat) (hC : isC.map (fun i => ws[i]?) = wc.map some) (hRr : isR.map (fun i => ws[i]?) = wr.map some) (hap : vz_ap isC isR = true)
    (hls : ls.size = nL) (hroom : (rest.map fun v => v.category).sum ≤ 8) (hdg : decode cc pc = .ok (.invokevirtual index, 3)) (hf : cells + mc ≤ R.cells ∧ slots + ms ≤ R.slots) (hst : st0 = As.reverse ++ .ref b :: rest)
    (kk : ∀ (u : S) (a : Nat) (H1 : Heap) (locs1 : List Loc), a = ra u → H.size ≤ H1.size → va_P D vwCl (wr ++ w1 u) H1 → va_D A (wr ++ w1 u) → va_S A H0 H1 locs1 → W p l e R s m args below meth c H1 locs1 (cells + mc) (slots + ms) Q (F0 m (pc + 3) ls (.ref a :: rest))) : W p l e R s m args below meth c H locs cells slots Q (F0 m pc ls st0) := by
  obtain ⟨n1, n2, n3⟩ := vz_ap_spec hap
  have hPc := vz_pickP hP isC hC
  have hDc := hD.sub isC n1 hC
  have hFc := va_free (wc := wc) hD hS hA isC hC
  refine va_callr (va_runV (As := As) (rest := rest) ⟨hx, hb, hml, hown, hts⟩ hM (cwV As.length hts (vz_gv hc) rfl rfl rfl ⟨rfl, hc.2.2.2.2.2⟩ hR) ⟨vz_blind, by rw [← hqc]; exact va_recv hK hP hq he, vz_pre hPc hK hDc _⟩ rfl rfl hls hst (lv_room hroom) hdg hf) hS (fun q _ h => hFc q h) hFc (fun u a t H1 locs1 ht hvm hw hB hz1 hk1 hS1 => ?_)
  obtain ⟨ha, hP1, hK1, hD1⟩ := hB
  rw [ht] at hP1
  obtain ⟨hP2, hD2⟩ := va_join hP hD isC isR hC hRr n2 n3 hk1 hFc hP1 hD1
  exact kk u a H1 locs1 ha hz1 hP2 hD2 hS1
theorem vz_Iv {post : S → Prop} {w1 : S → va_W} (hx : p.tables.exec = Jvm.exec) (hb : c.code = cc) (hml : c.maxLocals = nL) (hown : s.vm.findClass own = some m.cls) (hts : ∀ w ∈ wsL_law, w.before args s = true) (hK : va_K D vwCl T s) (hA : ∀ q : Nat, H0.size ≤ q → A q) (hP : va_P D vwCl ws H) (hD : va_D A ws) (hS : va_S A H0 H locs)
    (hM : vz_Mv l D T y b' n' f L mc ms (.ref b :: As) H.size wc post w1) (hc : vz_ci own index y b' n' As.length) (hR : f + 1 ≤ R.frames ∧ 8 + (n' + 11) + L ≤ R.locals)
    (isC isR : List Nat) (hC : isC.map (fun i => ws[i]?) = wc.map some) (hRr : isR.map (fun i => ws[i]?) = wr.map some) (hap : vz_ap isC isR = true)
    (hls : ls.size = nL) (hroom : (rest.map fun v => v.category).sum ≤ 8) (hdg : decode cc pc = .ok (.invokespecial index, 3)) (hf : cells + mc ≤ R.cells ∧ slots + ms ≤ R.slots) (hst : st0 = As.reverse ++ .ref b :: rest)
    (kk : ∀ (u : S) (H1 : Heap) (locs1 : List Loc), post u → H.size ≤ H1.size → va_P D vwCl (wr ++ w1 u) H1 → va_D A (wr ++ w1 u) → va_S A H0 H1 locs1 → W p l e R s m args below meth c H1 locs1 (cells + mc) (slots + ms) Q (F0 m (pc + 3) ls rest)) : W p l e R s m args below meth c H locs cells slots Q (F0 m pc ls st0) := by
  obtain ⟨n1, n2, n3⟩ := vz_ap_spec hap
  have hPc := vz_pickP hP isC hC
  have hDc := hD.sub isC n1 hC
  have hFc := va_free (wc := wc) hD hS hA isC hC
  obtain ⟨c1, c2, c3, c4, c5, c6⟩ := hc
  refine va_callv (va_runI (As := As) (rest := rest) ⟨hx, hb, hml, hown, hts⟩ hM (cwI As.length hts (vz_gcode c4) rfl rfl rfl (hts _ c3) (hts _ c1) (hts _ c2) c5 c6 hR) ⟨vz_blind, vz_pre hPc hK hDc _⟩ rfl rfl hls hst (lv_room hroom) hdg hf) hS (fun q _ h => hFc q h) hFc (fun u t H1 locs1 ht hvm hw hB hz1 hk1 hS1 => ?_)
  obtain ⟨hP1, hK1, hD1⟩ := hB
  rw [ht] at hP1
  obtain ⟨hP2, hD2⟩ := va_join hP hD isC isR hC hRr n2 n3 hk1 hFc hP1 hD1
  exact kk u H1 locs1 hw hz1 hP2 hD2 hS1
theorem vz_Si {post : Int32 → S → Prop} {w1 : S → va_W} (hx : p.tables.exec = Jvm.exec) (hb : c.code = cc) (hml : c.maxLocals = nL) (hown : s.vm.findClass own = some m.cls) (hts : ∀ w ∈ wsL_law, w.before args s = true) (hK : va_K D vwCl T s) (hA : ∀ q : Nat, H0.size ≤ q → A q) (hP : va_P D vwCl ws H) (hD : va_D A ws) (hS : va_S A H0 H locs)
    (hM : vz_Mi l D T y b' n' f L mc ms ty As H.size wc post w1) (hc : vz_cs own index y b' n' (some ty) As.length) (hR : f + 1 ≤ R.frames ∧ 8 + (n' + 11) + L ≤ R.locals)
    (isC isR : List Nat) (hC : isC.map (fun i => ws[i]?) = wc.map some) (hRr : isR.map (fun i => ws[i]?) = wr.map some) (hap : vz_ap isC isR = true)
    (hls : ls.size = nL) (hroom : (rest.map fun v => v.category).sum ≤ 8) (hdg : decode cc pc = .ok (.invokestatic index, 3)) (hf : cells + mc ≤ R.cells ∧ slots + ms ≤ R.slots) (hst : st0 = As.reverse ++ rest)
    (kk : ∀ (r : Int32) (u : S) (H1 : Heap) (locs1 : List Loc), post r u → H.size ≤ H1.size → va_P D vwCl (wr ++ w1 u) H1 → va_D A (wr ++ w1 u) → va_S A H0 H1 locs1 → W p l e R s m args below meth c H1 locs1 (cells + mc) (slots + ms) Q (F0 m (pc + 3) ls (.int r :: rest))) : W p l e R s m args below meth c H locs cells slots Q (F0 m pc ls st0) := by
  obtain ⟨n1, n2, n3⟩ := vz_ap_spec hap
  have hPc := vz_pickP hP isC hC
  have hDc := hD.sub isC n1 hC
  have hFc := va_free (wc := wc) hD hS hA isC hC
  refine va_calli (va_runS (As := As) (rest := rest) ⟨hx, hb, hml, hown, hts⟩ hM (cwS As.length hts (vz_gs hc) rfl rfl rfl hc.2.2.2.2 hR) ⟨vz_blind, vz_pre hPc hK hDc _⟩ rfl rfl hls hst (lv_room hroom) hdg hf) hS (fun q _ h => hFc q h) hFc (fun r u t H1 locs1 ht hvm hw hB hz1 hk1 hS1 => ?_)
  obtain ⟨hP1, hK1, hD1⟩ := hB
  rw [ht] at hP1
  obtain ⟨hP2, hD2⟩ := va_join hP hD isC isR hC hRr n2 n3 hk1 hFc hP1 hD1
  exact kk r u H1 locs1 hw hz1 hP2 hD2 hS1
/-- a new array of numbers: its class is the one that the tables have -/
theorem vz_newa {tys : vz_T} {cl : List vw_C} (t0 : Nat) (hx : p.tables.exec = Jvm.exec) (hb : c.code = cc) {atype : ArrayType} {ty : FieldType} {cA : ClassId} (harr : (Cond.arrayClass (newarray.typeOf atype)).before args s = true) (hty : newarray.typeOf atype = ty) (ht : tys[t0]? = some (cA, ty)) (hra : ∀ (U : State) (x : ClassId), va_RA U x ty → U.vm.findClass ("[" ++ ty.toString) = some x) (hK : va_K D cl tys s) (hP : va_P D cl ws H) (hD : va_D A ws) (hS : va_S A H0 H locs) (hA : ∀ q, H0.size ≤ q → A q)
    {n : Int32} {N' : Nat} {a0 : vp_A} (ha : ∀ cA : ClassId, vp_cell cA a0 = arrV cA N' (fun _ => defaultValue ty)) (hn : ¬ n < 0) (hN : n.toNatClampNeg = N') (hbytes : N' * componentBytes ty ≤ 536870912) (hcells : cells + 1 ≤ R.cells) (hslots : slots + N' ≤ R.slots) (hdg : decode cc pc = .ok (.newarray atype, 2))
    (kk : ∀ (q : Nat) (H1 : Heap), va_P D cl (ws ++ [(q, .inl (cA, a0))]) H1 → va_D A (ws ++ [(q, .inl (cA, a0))]) → va_S A H0 H1 locs → W p l e R s m args below meth c H1 locs (cells + 1) (slots + N') Q (F0 m (pc + 2) ls (.ref q :: rest))) : W p l e R s m args below meth c H locs cells slots Q (F0 m pc ls (.int n :: rest)) := by
  refine va_newa hx hb harr hty hK hP hD hS hA ha hn hN hbytes hcells hslots hdg (fun q cA2 H1 hK2 hP2 hD2 hS2 => ?_)
  have e1 : (tys ++ [(cA2, ty)])[tys.length]? = some (cA2, ty) := by simp
  have h1 := hra s cA2 (hK2.2 _ _ e1).2
  have h2 := hra s cA (hK.2 _ _ ht).2
  have h3 : cA2 = cA := Option.some.inj (h1.symm.trans h2)
  subst h3
  exact kk q H1 hP2 hD2 hS2
theorem vz_iret {post : Int32 → S → Prop} {w1 : S → va_W} {v : Int32} (hx : p.tables.exec = Jvm.exec) (hb : c.code = cc) (hr : meth.sig.returnType = some .int) (hlk : meth.locks = false) (hK : va_K D vwCl T s) (hP : va_P D vwCl ws H) (hD : va_D A ws) (hS : va_S A s.heap H locs) (u : S) (hp : post v u) (is : List Nat) (hi : is.map (fun i => ws[i]?) = (w1 u).map some) (hn : va_nd is = true) (h1 : cells ≤ mc) (h2 : slots ≤ ms) (hdg : decode cc pc = .ok (.ireturn, 1)) :
    W p l e R s m args below meth c H locs cells slots (MQ below (va_Qi post (fun u => vz_B D T A (w1 u)) A) args s mc ms A) (F0 m pc ls [.int v]) :=
  W.widen h1 h2 (W.iret hx hb hr (fun t ht hW => ⟨⟨v, u, rfl, hp, by rw [ht]; exact vz_pickP hP is hi, va_K.moved hW.alike hK, hD.sub is hn hi⟩, hS.F ht⟩) hS.2.2 hdg hlk)
theorem vz_zret {post : Int32 → S → Prop} {w1 : S → va_W} {v : Int32} (hx : p.tables.exec = Jvm.exec) (hb : c.code = cc) (hr : meth.sig.returnType = some .boolean) (hlk : meth.locks = false) (hK : va_K D vwCl T s) (hP : va_P D vwCl ws H) (hD : va_D A ws) (hS : va_S A s.heap H locs) (u : S) (hp : post v u) (is : List Nat) (hi : is.map (fun i => ws[i]?) = (w1 u).map some) (hn : va_nd is = true) (h1 : cells ≤ mc) (h2 : slots ≤ ms) (hnr : narrow .boolean (.int v) = .int v) (hdg : decode cc pc = .ok (.ireturn, 1)) :
    W p l e R s m args below meth c H locs cells slots (MQ below (va_Qi post (fun u => vz_B D T A (w1 u)) A) args s mc ms A) (F0 m pc ls [.int v]) :=
  W.widen h1 h2 (W.zret hx hb hr hnr (fun t ht hW => ⟨⟨v, u, rfl, hp, by rw [ht]; exact vz_pickP hP is hi, va_K.moved hW.alike hK, hD.sub is hn hi⟩, hS.F ht⟩) hS.2.2 hdg hlk)
theorem vz_vret {post : S → Prop} {w1 : S → va_W} (hx : p.tables.exec = Jvm.exec) (hb : c.code = cc) (hr : meth.sig.returnType = none) (hlk : meth.locks = false) (hK : va_K D vwCl T s) (hP : va_P D vwCl ws H) (hD : va_D A ws) (hS : va_S A s.heap H locs) (u : S) (hp : post u) (is : List Nat) (hi : is.map (fun i => ws[i]?) = (w1 u).map some) (hn : va_nd is = true) (h1 : cells ≤ mc) (h2 : slots ≤ ms) (hdg : decode cc pc = .ok (.return_, 1)) :
    W p l e R s m args below meth c H locs cells slots (MQ below (va_Qv post (fun u => vz_B D T A (w1 u)) A) args s mc ms A) (F0 m pc ls []) :=
  W.widen h1 h2 (W.vret hx hb hr (fun t ht hW => ⟨⟨u, rfl, hp, by rw [ht]; exact vz_pickP hP is hi, va_K.moved hW.alike hK, hD.sub is hn hi⟩, hS.F ht⟩) hS.2.2 hdg hlk)
theorem vz_rret {ra : S → Nat} {w1 : S → va_W} {a : Nat} {rt : FieldType} (hx : p.tables.exec = Jvm.exec) (hb : c.code = cc) (hr : meth.sig.returnType = some rt) (hlk : meth.locks = false) (hK : va_K D vwCl T s) (hP : va_P D vwCl ws H) (hD : va_D A ws) (hS : va_S A s.heap H locs) (u : S) (hp : a = ra u) (is : List Nat) (hi : is.map (fun i => ws[i]?) = (w1 u).map some) (hn : va_nd is = true) (h1 : cells ≤ mc) (h2 : slots ≤ ms) (hty : ∃ n, rt = .object n) (hdg : decode cc pc = .ok (.areturn, 1)) :
    W p l e R s m args below meth c H locs cells slots (MQ below (va_Qr (fun _ : S => True) (fun u a t => a = ra u ∧ vz_B D T A (w1 u) t) A) args s mc ms A) (F0 m pc ls [.ref a]) :=
  W.widen h1 h2 (W.aret hx hb hr (Or.inl hty) (Or.inr ⟨a, rfl⟩) (fun t ht hW => ⟨⟨u, a, rfl, trivial, hp, by rw [ht]; exact vz_pickP hP is hi, va_K.moved hW.alike hK, hD.sub is hn hi⟩, hS.F ht⟩) hS.2.2 hdg hlk)
end VZ
theorem vz_si {S : Type} {l : Launch} {D : va_G} {T : vz_T} {y : MethodName} {b : ByteArray} {n f L mc ms : Nat} {ty : FieldType} {av : List Value} {sz : Nat} {ws : va_W} {post : Int32 → S → Prop} {w1 : S → va_W} (hy : plainName y.cls = true) (hn : (lg_sl av).length ≤ n)
    (body : ∀ (p : Program) (e : Env) (s : State) (m : MethodId) (args : Array Value) (below : List Frame) (meth : Method) (c : Code), p.tables.exec = Jvm.exec → c.code = b → meth.sig.returnType = some ty → c.maxLocals = n → (∀ w ∈ wsL_law, w.before args s = true) → s.vm.findClass y.cls = some m.cls → meth.locks = false → meth.name = y.name → va_K D vwCl T s → s.heap.size = sz → ∀ A : Nat → Prop, (∀ q : Nat, s.heap.size ≤ q → A q) → ∀ (H : Heap) (locs : List Loc), va_P D vwCl ws H → va_D A ws → va_S A s.heap H locs → ∀ ls : Array Slot, lv_has ls n (lv_args 0 av) →
      W p l e { frames := f, cells := mc, slots := ms, locals := L } s m args below meth c H locs 0 0 (MQ below (va_Qi post (fun u => vz_B D T A (w1 u)) A) args s mc ms A) (F0 m 0 ls [])) : vz_Mi l D T y b n f L mc ms ty av sz ws post w1 := by
  refine Met.ofW (cc := b) (maxL := n) (ret := some ty) hy rfl ?_
  intro p e s m args below meth c s₁ B hml hv
  obtain ⟨rfl, hsz, hP, hK, hD0⟩ := hv
  have hts0 := atoms_spec (ws := .code y b n (some ty) :: wsL_law) B.pre
  have hl := lv_entry av (n := n) hn
  rw [lg_entry_eq]
  have hD := hD0.self (sz := s.heap.size)
  subst hsz
  exact body p e s m _ below meth c B.exec B.bytes B.returns hml (fun w h => hts0 w (List.mem_cons_of_mem _ h)) (findClass_of_methodNamed B.named) B.notSynchronized (name_of_methodNamed B.named B.method).1 hK rfl _ (fun q h => Or.inr h) _ _ hP hD va_S.rf _ hl
theorem vz_sv {S : Type} {l : Launch} {D : va_G} {T : vz_T} {y : MethodName} {b : ByteArray} {n f L mc ms : Nat} {av : List Value} {sz : Nat} {ws : va_W} {post : S → Prop} {w1 : S → va_W} (hy : plainName y.cls = true) (hn : (lg_sl av).length ≤ n)
    (body : ∀ (p : Program) (e : Env) (s : State) (m : MethodId) (args : Array Value) (below : List Frame) (meth : Method) (c : Code), p.tables.exec = Jvm.exec → c.code = b → meth.sig.returnType = none → c.maxLocals = n → (∀ w ∈ wsL_law, w.before args s = true) → s.vm.findClass y.cls = some m.cls → meth.locks = false → meth.name = y.name → va_K D vwCl T s → s.heap.size = sz → ∀ A : Nat → Prop, (∀ q : Nat, s.heap.size ≤ q → A q) → ∀ (H : Heap) (locs : List Loc), va_P D vwCl ws H → va_D A ws → va_S A s.heap H locs → ∀ ls : Array Slot, lv_has ls n (lv_args 0 av) →
      W p l e { frames := f, cells := mc, slots := ms, locals := L } s m args below meth c H locs 0 0 (MQ below (va_Qv post (fun u => vz_B D T A (w1 u)) A) args s mc ms A) (F0 m 0 ls [])) : vz_Mv l D T y b n f L mc ms av sz ws post w1 := by
  refine Met.ofW (cc := b) (maxL := n) (ret := none) hy rfl ?_
  intro p e s m args below meth c s₁ B hml hv
  obtain ⟨rfl, hsz, hP, hK, hD0⟩ := hv
  have hts0 := atoms_spec (ws := .code y b n none :: wsL_law) B.pre
  have hl := lv_entry av (n := n) hn
  rw [lg_entry_eq]
  have hD := hD0.self (sz := s.heap.size)
  subst hsz
  exact body p e s m _ below meth c B.exec B.bytes B.returns hml (fun w h => hts0 w (List.mem_cons_of_mem _ h)) (findClass_of_methodNamed B.named) B.notSynchronized (name_of_methodNamed B.named B.method).1 hK rfl _ (fun q h => Or.inr h) _ _ hP hD va_S.rf _ hl
theorem vz_sr {S : Type} {l : Launch} {D : va_G} {T : vz_T} {y : MethodName} {b : ByteArray} {n f L mc ms : Nat} {ty : FieldType} {av : List Value} {sz : Nat} {ws : va_W} {ra : S → Nat} {w1 : S → va_W} (hy : plainName y.cls = true) (hn : (lg_sl av).length ≤ n)
    (body : ∀ (p : Program) (e : Env) (s : State) (m : MethodId) (args : Array Value) (below : List Frame) (meth : Method) (c : Code), p.tables.exec = Jvm.exec → c.code = b → meth.sig.returnType = some ty → c.maxLocals = n → (∀ w ∈ wsL_law, w.before args s = true) → s.vm.findClass y.cls = some m.cls → meth.locks = false → meth.name = y.name → va_K D vwCl T s → s.heap.size = sz → ∀ A : Nat → Prop, (∀ q : Nat, s.heap.size ≤ q → A q) → ∀ (H : Heap) (locs : List Loc), va_P D vwCl ws H → va_D A ws → va_S A s.heap H locs → ∀ ls : Array Slot, lv_has ls n (lv_args 0 av) →
      W p l e { frames := f, cells := mc, slots := ms, locals := L } s m args below meth c H locs 0 0 (MQ below (va_Qr (fun _ : S => True) (fun u a t => a = ra u ∧ vz_B D T A (w1 u) t) A) args s mc ms A) (F0 m 0 ls [])) : vz_Mr l D T y b n f L mc ms ty av sz ws ra w1 := by
  refine Met.ofW (cc := b) (maxL := n) (ret := some ty) hy rfl ?_
  intro p e s m args below meth c s₁ B hml hv
  obtain ⟨rfl, hsz, hP, hK, hD0⟩ := hv
  have hts0 := atoms_spec (ws := .code y b n (some ty) :: wsL_law) B.pre
  have hl := lv_entry av (n := n) hn
  rw [lg_entry_eq]
  have hD := hD0.self (sz := s.heap.size)
  subst hsz
  exact body p e s m _ below meth c B.exec B.bytes B.returns hml (fun w h => hts0 w (List.mem_cons_of_mem _ h)) (findClass_of_methodNamed B.named) B.notSynchronized (name_of_methodNamed B.named B.method).1 hK rfl _ (fun q h => Or.inr h) _ _ hP hD va_S.rf _ hl
end
section
/-! Pure facts of Tables: rows of W numbers, at most M, R of them there -/
theorem vz_max0 {M : Nat} (h : M < 2 ^ 31) : (if (0 : Int32) < nI M then nI M else 0) = nI M := by
  by_cases h0 : M = 0
  · subst h0; rfl
  · rw [if_pos]
    have := nI_lt (a := 0) (b := M) (by omega) h
    exact this
theorem vz_max1 {W : Nat} (h1 : 1 ≤ W) (h : W < 2 ^ 31) : (if (1 : Int32) < nI W then nI W else 1) = nI W := by
  by_cases h0 : W = 1
  · subst h0; rfl
  · rw [if_pos]
    have := nI_lt (a := 1) (b := W) (by omega) h
    exact this
theorem vz_min {C M : Nat} (h : C ≤ M) (hM : M < 2 ^ 31) : (if nI M < nI C then nI M else nI C) = nI C := by
  rw [if_neg (nI_nlt h hM)]
theorem vz_mul (a b : Nat) : nI a * nI b = nI (a * b) := by
  simp [nI]
theorem vz_dec {a : Nat} (h : 1 ≤ a) : nI a - 1 = nI (a - 1) := by
  obtain ⟨k, rfl⟩ : ∃ k, a = k + 1 := ⟨a - 1, by omega⟩
  rw [nI_pred]; rfl
/-- the place of a row and a column -/
theorem vz_tix {i j : Int32} {W M R : Nat} (hb : M * W < 2 ^ 30) (hM : M < 2 ^ 30) (hW : W < 2 ^ 30) (hR : R ≤ M) (h1 : ¬ i < 0) (h2 : ¬ nI R ≤ i) (h3 : ¬ j < 0) (h4 : j < nI W) : ∃ k, k < M * W ∧ i * nI W + j = nI k := by
  obtain ⟨a, ha, rfl⟩ := nI_of h1
  obtain ⟨b, hb2, rfl⟩ := nI_of h3
  have h5 : a < R := by
    rcases Nat.lt_or_ge a R with q | q
    · exact q
    · exact absurd (nI_le q ha) h2
  have h6 : b < W := (nI_ltI hb2 (by omega)).mp h4
  refine ⟨a * W + b, ?_, by rw [vz_mul, nI_add]⟩
  calc a * W + b < a * W + W := by omega
    _ = (a + 1) * W := by rw [Nat.succ_mul]
    _ ≤ M * W := Nat.mul_le_mul_right W (by omega)
def tg (W R : Nat) (f : Nat → Int32) (i j : Int32) : Int32 := if i < 0 ∨ nI R ≤ i ∨ j < 0 ∨ ¬ j < nI W then -9 else f (i * nI W + j).toNatClampNeg
def ts (W R : Nat) (f : Nat → Int32) (i j v : Int32) : Nat → Int32 := if i < 0 ∨ nI R ≤ i ∨ j < 0 ∨ ¬ j < nI W then f else upd f (i * nI W + j).toNatClampNeg v
theorem tg_in {W R : Nat} {f : Nat → Int32} {i j : Int32} {k : Nat} (h1 : ¬ i < 0) (h2 : ¬ nI R ≤ i) (h3 : ¬ j < 0) (h4 : j < nI W) (hk : k < 2 ^ 31) (e : i * nI W + j = nI k) : f k = tg W R f i j := by
  unfold tg
  rw [if_neg (by intro h; rcases h with h | h | h | h <;> contradiction), e, nI_clamp hk]
theorem tg_out {W R : Nat} {f : Nat → Int32} {i j : Int32} (h : i < 0 ∨ nI R ≤ i ∨ j < 0 ∨ ¬ j < nI W) : -9 = tg W R f i j := by
  unfold tg; rw [if_pos h]
theorem ts_in {W R : Nat} {f : Nat → Int32} {i j v : Int32} {k : Nat} (h1 : ¬ i < 0) (h2 : ¬ nI R ≤ i) (h3 : ¬ j < 0) (h4 : j < nI W) (e : i * nI W + j = nI k) : upd f (nI k).toNatClampNeg v = ts W R f i j v := by
  unfold ts
  rw [if_neg (by intro h; rcases h with h | h | h | h <;> contradiction), e]
theorem ts_out {W R : Nat} {f : Nat → Int32} {i j v : Int32} (h : i < 0 ∨ nI R ≤ i ∨ j < 0 ∨ ¬ j < nI W) : f = ts W R f i j v := by
  unfold ts; rw [if_pos h]
/-- the cells from lo on, ahead of hi, hold v -/
def tf (f : Nat → Int32) (lo hi : Nat) (v : Int32) : Nat → Int32 := fun j => if lo ≤ j ∧ j < hi then v else f j
theorem tf_0 {f : Nat → Int32} {lo : Nat} {v : Int32} : f = tf f lo lo v := by
  funext j; unfold tf; rw [if_neg (by omega)]
theorem tf_s {f : Nat → Int32} {lo i : Nat} {v : Int32} (h : lo ≤ i) (hi : i < 2 ^ 31) : upd (tf f lo i v) (nI i).toNatClampNeg v = tf f lo (i + 1) v := by
  rw [nI_clamp hi]
  funext j
  unfold upd tf
  by_cases hj : j = i
  · subst hj; simp [h]
  · rw [if_neg hj]
    by_cases h2 : lo ≤ j ∧ j < i
    · rw [if_pos h2, if_pos (by omega)]
    · rw [if_neg h2, if_neg (by omega)]
/-- a Table's numbers: W columns, M rows at most, R rows now, N cells -/
abbrev tok (W M R N : Nat) : Prop := N = M * W ∧ N < 2 ^ 27 ∧ M < 2 ^ 30 ∧ W < 2 ^ 30 ∧ 1 ≤ W ∧ R ≤ M
theorem ts_c {W R : Nat} {f : Nat → Int32} {i j v : Int32} (k : Nat) (h : ¬ (i < 0 ∨ nI R ≤ i ∨ j < 0 ∨ ¬ j < nI W)) (e : (i * nI W + j).toNatClampNeg = k) : ts W R f i j v = upd f k v := by
  unfold ts; rw [if_neg h, e]
theorem tg_c {W R : Nat} {f : Nat → Int32} {i j : Int32} (k : Nat) (h : ¬ (i < 0 ∨ nI R ≤ i ∨ j < 0 ∨ ¬ j < nI W)) (e : (i * nI W + j).toNatClampNeg = k) : tg W R f i j = f k := by
  unfold tg; rw [if_neg h, e]
theorem tg_0 {W : Nat} {f : Nat → Int32} {i j : Int32} : tg W 0 f i j = -9 := by
  refine (tg_out ?_).symm
  by_cases h : i < 0
  · exact Or.inl h
  · refine Or.inr (Or.inl ?_)
    obtain ⟨a, ha, rfl⟩ := nI_of h
    exact nI_le (Nat.zero_le a) ha
end
section
theorem q63 : Cond.methodLink RX6 3 objectInit ∈ wsL_law := mT_1 (List.mem_of_getElem? (i := 31) rfl) rfl
theorem q11 : Cond.instanceMethod objectInit ∈ wsL_law := mT_1 (List.mem_of_getElem? (i := 24) rfl) rfl
theorem q12 : Cond.code objectInit ⟨#[0xb1]⟩ 1 none ∈ wsL_law := mT_1 (List.mem_of_getElem? (i := 25) rfl) rfl
theorem q64 : Cond.methodLink RX6 9 Lib.Math.max.name ∈ wsL_law := mT_1 (List.mem_of_getElem? (i := 32) rfl) rfl
theorem q65 : Cond.static Lib.Math.max.name ∈ wsL_law := mT_1 (List.mem_of_getElem? (i := 33) rfl) rfl
theorem q66 : Cond.initialized "java/lang/Math" ∈ wsL_law := mT_1 (List.mem_of_getElem? (i := 3) rfl) rfl
theorem q67 : Cond.code Lib.Math.max.name Lib.Math.max.code 2 (some .int) ∈ wsL_law := mT_1 (List.mem_of_getElem? (i := 34) rfl) rfl
theorem q68 : Cond.fieldLink RX6 15 "WaysAtlas$Table" "most" "I" ∈ wsL_law := mT_1 (List.mem_of_getElem? (i := 37) rfl) rfl
theorem q69 : Cond.fieldLink RX6 21 "WaysAtlas$Table" "width" "I" ∈ wsL_law := mT_1 (List.mem_of_getElem? (i := 36) rfl) rfl
theorem q70 : Cond.arrayClass .int ∈ wsL_law := mT_1 (List.mem_of_getElem? (i := 55) rfl) rfl
theorem q71 : Cond.fieldLink RX6 24 "WaysAtlas$Table" "cells" "[I" ∈ wsL_law := mT_1 (List.mem_of_getElem? (i := 35) rfl) rfl
theorem q72 : Cond.fieldLink RX6 28 "WaysAtlas$Table" "rows" "I" ∈ wsL_law := mT_1 (List.mem_of_getElem? (i := 38) rfl) rfl
theorem dX6_init_0 : decode cX6_init 0 = .ok (.aload_n 0, 1) := by decide +kernel
theorem dX6_init_1 : decode cX6_init 1 = .ok (.invokespecial 3, 3) := by decide +kernel
theorem dX6_init_4 : decode cX6_init 4 = .ok (.aload_n 0, 1) := by decide +kernel
theorem dX6_init_5 : decode cX6_init 5 = .ok (.iconst 0, 1) := by decide +kernel
theorem dX6_init_6 : decode cX6_init 6 = .ok (.iload_n 1, 1) := by decide +kernel
theorem dX6_init_7 : decode cX6_init 7 = .ok (.invokestatic 9, 3) := by decide +kernel
theorem dX6_init_10 : decode cX6_init 10 = .ok (.putfield 15, 3) := by decide +kernel
theorem dX6_init_13 : decode cX6_init 13 = .ok (.aload_n 0, 1) := by decide +kernel
theorem dX6_init_14 : decode cX6_init 14 = .ok (.iconst 1, 1) := by decide +kernel
theorem dX6_init_15 : decode cX6_init 15 = .ok (.iload_n 2, 1) := by decide +kernel
theorem dX6_init_16 : decode cX6_init 16 = .ok (.invokestatic 9, 3) := by decide +kernel
theorem dX6_init_19 : decode cX6_init 19 = .ok (.putfield 21, 3) := by decide +kernel
theorem dX6_init_22 : decode cX6_init 22 = .ok (.aload_n 0, 1) := by decide +kernel
theorem dX6_init_23 : decode cX6_init 23 = .ok (.iconst 0, 1) := by decide +kernel
theorem dX6_init_24 : decode cX6_init 24 = .ok (.aload_n 0, 1) := by decide +kernel
theorem dX6_init_25 : decode cX6_init 25 = .ok (.getfield 15, 3) := by decide +kernel
theorem dX6_init_28 : decode cX6_init 28 = .ok (.aload_n 0, 1) := by decide +kernel
theorem dX6_init_29 : decode cX6_init 29 = .ok (.getfield 21, 3) := by decide +kernel
theorem dX6_init_32 : decode cX6_init 32 = .ok (.imul, 1) := by decide +kernel
theorem dX6_init_33 : decode cX6_init 33 = .ok (.invokestatic 9, 3) := by decide +kernel
theorem dX6_init_36 : decode cX6_init 36 = .ok (.newarray .int, 2) := by decide +kernel
theorem dX6_init_38 : decode cX6_init 38 = .ok (.putfield 24, 3) := by decide +kernel
theorem dX6_init_41 : decode cX6_init 41 = .ok (.aload_n 0, 1) := by decide +kernel
theorem dX6_init_42 : decode cX6_init 42 = .ok (.iconst 0, 1) := by decide +kernel
theorem dX6_init_43 : decode cX6_init 43 = .ok (.putfield 28, 3) := by decide +kernel
theorem dX6_init_46 : decode cX6_init 46 = .ok (.return_, 1) := by decide +kernel
set_option maxHeartbeats 4000000 in
set_option maxRecDepth 100000 in
theorem c_T_init (l : Launch) (D : va_G) (g : Nat → ClassId) (h sz Wi M N : Nat) (ht : tok Wi M 0 N) : vz_Mv l D (tyG g) yX6_init cX6_init 3 1 14 1 N [.ref h, .int (nI M), .int (nI Wi)] sz [(h, .inr (6, [.null, .int 0, .int 0, .int 0]))] (fun _ : Nat => True) (fun q => [tT h q (nI Wi) (nI M) 0, tA g q N (fun _ => 0)]) := by
  obtain ⟨h1, h2, h3, h4, h5, h6⟩ := ht
  refine vz_sv (by decide) (Nat.le_of_ble_eq_true rfl) (fun p e s m args below meth c hx hb hr hml hts hown hlk hin hK hsz A hA H locs hP hD hS ls hl => ?_)
  have hl : lv_has ls 3 [(0, .ref h), (1, .int (nI M)), (2, .int (nI Wi))] := hl
  refine lv_aload_n hx hb dX6_init_0 rfl (lv_at hl 0 rfl) ?_
  refine W.objInit hx hb hown (hts _ q63) (hts _ q11) (hts _ q12) rfl (hl.1.trans hml.symm) rfl dX6_init_1 (Nat.le_of_ble_eq_true rfl) (Nat.le_of_ble_eq_true rfl) ?_
  refine W.eq (g2 := F0 m 4 ls []) rfl ?_
  refine lv_aload_n hx hb dX6_init_4 rfl (lv_at hl 0 rfl) ?_
  refine lv_iconst (v := 0) hx hb dX6_init_5 (by decide) ?_
  refine lv_iload_n hx hb dX6_init_6 rfl (lv_at hl 1 rfl) ?_
  refine va_mmax hx hb (hml.trans hl.1.symm) hown (hts _ q64) (hts _ q65) (hts _ q66) (hts _ q67) (Nat.le_of_ble_eq_true rfl) (Nat.le_of_ble_eq_true rfl) (Nat.le_of_ble_eq_true rfl) (Nat.le_of_ble_eq_true rfl) dX6_init_7 ?_
  refine lv_topi (nm_r (e' := nI M) (vz_max0 (by omega)) ?_)
  refine va_putF (D := D) (ci := 6) (v := .int (nI M)) (ty := .int) (C := RX6) (T := TX6) (N := 4) hx hb hts inlX6 tyX6 tyX6_ok nmX6 hown hK hP hD hS 0 rfl rfl 2 (by decide) (hts _ q68) (fun _ h => h) rfl hin rfl (by decide +kernel) rfl rfl (Nat.le_of_ble_eq_true rfl) dX6_init_10 (fun H locs hP hD hS => ?_)
  have hP : va_P D vwCl [(h, .inr (6, [.null, .int 0, .int (nI M), .int 0]))] H := hP
  have hD : va_D A [(h, .inr (6, [.null, .int 0, .int (nI M), .int 0]))] := hD
  refine lv_aload_n hx hb dX6_init_13 rfl (lv_at hl 0 rfl) ?_
  refine lv_iconst (v := 1) hx hb dX6_init_14 (by decide) ?_
  refine lv_iload_n hx hb dX6_init_15 rfl (lv_at hl 2 rfl) ?_
  refine va_mmax hx hb (hml.trans hl.1.symm) hown (hts _ q64) (hts _ q65) (hts _ q66) (hts _ q67) (Nat.le_of_ble_eq_true rfl) (Nat.le_of_ble_eq_true rfl) (Nat.le_of_ble_eq_true rfl) (Nat.le_of_ble_eq_true rfl) dX6_init_16 ?_
  refine lv_topi (nm_r (e' := nI Wi) (vz_max1 h5 (by omega)) ?_)
  refine va_putF (D := D) (ci := 6) (v := .int (nI Wi)) (ty := .int) (C := RX6) (T := TX6) (N := 4) hx hb hts inlX6 tyX6 tyX6_ok nmX6 hown hK hP hD hS 0 rfl rfl 1 (by decide) (hts _ q69) (fun _ h => h) rfl hin rfl (by decide +kernel) rfl rfl (Nat.le_of_ble_eq_true rfl) dX6_init_19 (fun H locs hP hD hS => ?_)
  have hP : va_P D vwCl [(h, .inr (6, [.null, .int (nI Wi), .int (nI M), .int 0]))] H := hP
  have hD : va_D A [(h, .inr (6, [.null, .int (nI Wi), .int (nI M), .int 0]))] := hD
  refine lv_aload_n hx hb dX6_init_22 rfl (lv_at hl 0 rfl) ?_
  refine lv_iconst (v := 0) hx hb dX6_init_23 (by decide) ?_
  refine lv_aload_n hx hb dX6_init_24 rfl (lv_at hl 0 rfl) ?_
  refine va_get (D := D) (ci := 6) (v := .int (nI M)) (C := RX6) (T := TX6) (N := 4) hx hb hts inlX6 hown hK hP 0 rfl rfl 2 (by decide) (hts _ q68) (fun _ h => h) rfl dX6_init_25 ?_
  refine lv_aload_n hx hb dX6_init_28 rfl (lv_at hl 0 rfl) ?_
  refine va_get (D := D) (ci := 6) (v := .int (nI Wi)) (C := RX6) (T := TX6) (N := 4) hx hb hts inlX6 hown hK hP 0 rfl rfl 1 (by decide) (hts _ q69) (fun _ h => h) rfl dX6_init_29 ?_
  refine lv_imul hx hb dX6_init_32 ?_
  refine lv_topi (nm_r (e' := nI N) (by rw [vz_mul, h1]) ?_)
  refine va_mmax hx hb (hml.trans hl.1.symm) hown (hts _ q64) (hts _ q65) (hts _ q66) (hts _ q67) (Nat.le_of_ble_eq_true rfl) (Nat.le_of_ble_eq_true rfl) (Nat.le_of_ble_eq_true rfl) (Nat.le_of_ble_eq_true rfl) dX6_init_33 ?_
  refine lv_topi (nm_r (e' := nI N) (vz_max0 (by omega)) ?_)
  refine vz_newa (t0 := 0) (atype := .int) (ty := .int) (a0 := (N, .inl (fun _ => 0))) hx hb (hts _ q70) rfl rfl (fun _ _ h => h) hK hP hD hS hA (fun _ => rfl) (nI_pos (by omega)) (nI_clamp (by omega)) (by show N * 4 ≤ 536870912; omega) (Nat.le_of_ble_eq_true rfl) (Nat.le_of_eq (Nat.zero_add N)) dX6_init_36 (fun qq1 H hP hD hS => ?_)
  have hP : va_P D vwCl [(h, .inr (6, [.null, .int (nI Wi), .int (nI M), .int 0])), tA g qq1 N (fun _ => 0)] H := hP
  have hD : va_D A [(h, .inr (6, [.null, .int (nI Wi), .int (nI M), .int 0])), tA g qq1 N (fun _ => 0)] := hD
  refine va_putF (D := D) (ci := 6) (v := .ref qq1) (ty := .array .int) (C := RX6) (T := TX6) (N := 4) hx hb hts inlX6 tyX6 tyX6_ok nmX6 hown hK hP hD hS 0 rfl rfl 0 (by decide) (hts _ q71) (fun _ h => h) rfl hin rfl (by decide +kernel) rfl rfl (Nat.le_of_ble_eq_true rfl) dX6_init_38 (fun H locs hP hD hS => ?_)
  have hP : va_P D vwCl [tT h qq1 (nI Wi) (nI M) 0, tA g qq1 N (fun _ => 0)] H := hP
  have hD : va_D A [tT h qq1 (nI Wi) (nI M) 0, tA g qq1 N (fun _ => 0)] := hD
  refine lv_aload_n hx hb dX6_init_41 rfl (lv_at hl 0 rfl) ?_
  refine lv_iconst (v := 0) hx hb dX6_init_42 (by decide) ?_
  refine va_put (D := D) (ci := 6) (v := .int 0) (ty := .int) (C := RX6) (T := TX6) (N := 4) hx hb hts inlX6 tyX6 tyX6_ok nmX6 hown hK hP hD hS 0 rfl rfl 3 (by decide) (hts _ q72) (fun _ h => h) rfl (by decide +kernel) rfl rfl (Nat.le_of_ble_eq_true rfl) dX6_init_43 (fun H locs hP hD hS => ?_)
  have hP : va_P D vwCl [tT h qq1 (nI Wi) (nI M) 0, tA g qq1 N (fun _ => 0)] H := hP
  have hD : va_D A [tT h qq1 (nI Wi) (nI M) 0, tA g qq1 N (fun _ => 0)] := hD
  exact vz_vret hx hb hr hlk hK hP hD hS (qq1) (trivial) [0, 1] rfl (by decide) (Nat.le_refl 1) (Nat.le_of_eq (Nat.zero_add N)) dX6_init_46
theorem dX6_get_0 : decode cX6_get 0 = .ok (.iload_n 1, 1) := by decide +kernel
theorem dX6_get_1 : decode cX6_get 1 = .ok (.ifCond .lt 23, 3) := by decide +kernel
theorem dX6_get_4 : decode cX6_get 4 = .ok (.iload_n 1, 1) := by decide +kernel
theorem dX6_get_5 : decode cX6_get 5 = .ok (.aload_n 0, 1) := by decide +kernel
theorem dX6_get_6 : decode cX6_get 6 = .ok (.getfield 28, 3) := by decide +kernel
theorem dX6_get_9 : decode cX6_get 9 = .ok (.if_icmp .ge 15, 3) := by decide +kernel
theorem dX6_get_12 : decode cX6_get 12 = .ok (.iload_n 2, 1) := by decide +kernel
theorem dX6_get_13 : decode cX6_get 13 = .ok (.ifCond .lt 11, 3) := by decide +kernel
theorem dX6_get_16 : decode cX6_get 16 = .ok (.iload_n 2, 1) := by decide +kernel
theorem dX6_get_17 : decode cX6_get 17 = .ok (.aload_n 0, 1) := by decide +kernel
theorem dX6_get_18 : decode cX6_get 18 = .ok (.getfield 21, 3) := by decide +kernel
theorem dX6_get_21 : decode cX6_get 21 = .ok (.if_icmp .lt 6, 3) := by decide +kernel
theorem dX6_get_24 : decode cX6_get 24 = .ok (.bipush (-9), 2) := by decide +kernel
theorem dX6_get_26 : decode cX6_get 26 = .ok (.ireturn, 1) := by decide +kernel
theorem dX6_get_27 : decode cX6_get 27 = .ok (.iload_n 1, 1) := by decide +kernel
theorem dX6_get_28 : decode cX6_get 28 = .ok (.aload_n 0, 1) := by decide +kernel
theorem dX6_get_29 : decode cX6_get 29 = .ok (.getfield 21, 3) := by decide +kernel
theorem dX6_get_32 : decode cX6_get 32 = .ok (.imul, 1) := by decide +kernel
theorem dX6_get_33 : decode cX6_get 33 = .ok (.iload_n 2, 1) := by decide +kernel
theorem dX6_get_34 : decode cX6_get 34 = .ok (.iadd, 1) := by decide +kernel
theorem dX6_get_35 : decode cX6_get 35 = .ok (.istore_n 3, 1) := by decide +kernel
theorem dX6_get_36 : decode cX6_get 36 = .ok (.iload_n 3, 1) := by decide +kernel
theorem dX6_get_37 : decode cX6_get 37 = .ok (.ifCond .lt 21, 3) := by decide +kernel
theorem dX6_get_40 : decode cX6_get 40 = .ok (.iload_n 3, 1) := by decide +kernel
theorem dX6_get_41 : decode cX6_get 41 = .ok (.aload_n 0, 1) := by decide +kernel
theorem dX6_get_42 : decode cX6_get 42 = .ok (.getfield 24, 3) := by decide +kernel
theorem dX6_get_45 : decode cX6_get 45 = .ok (.arraylength, 1) := by decide +kernel
theorem dX6_get_46 : decode cX6_get 46 = .ok (.if_icmp .ge 12, 3) := by decide +kernel
theorem dX6_get_49 : decode cX6_get 49 = .ok (.aload_n 0, 1) := by decide +kernel
theorem dX6_get_50 : decode cX6_get 50 = .ok (.getfield 24, 3) := by decide +kernel
theorem dX6_get_53 : decode cX6_get 53 = .ok (.iload_n 3, 1) := by decide +kernel
theorem dX6_get_54 : decode cX6_get 54 = .ok (.iaload, 1) := by decide +kernel
theorem dX6_get_55 : decode cX6_get 55 = .ok (.goto 5, 3) := by decide +kernel
theorem dX6_get_60 : decode cX6_get 60 = .ok (.ireturn, 1) := by decide +kernel
set_option maxHeartbeats 4000000 in
set_option maxRecDepth 100000 in
theorem c_T_get (l : Launch) (D : va_G) (g : Nat → ClassId) (h q sz Wi M R N : Nat) (f : Nat → Int32) (i j : Int32) (ht : tok Wi M R N) : vz_Mi l D (tyG g) yX6_get cX6_get 4 0 0 0 0 .int [.ref h, .int i, .int j] sz [tT h q (nI Wi) (nI M) (nI R), tA g q N f] (fun r (_ : Unit) => r = tg Wi R f i j) (fun _ => [tT h q (nI Wi) (nI M) (nI R), tA g q N f]) := by
  obtain ⟨h1, h2, h3, h4, h5, h6⟩ := ht
  refine vz_si (by decide) (Nat.le_of_ble_eq_true rfl) (fun p e s m args below meth c hx hb hr hml hts hown hlk hin hK hsz A hA H locs hP hD hS ls hl => ?_)
  have hl : lv_has ls 4 [(0, .ref h), (1, .int i), (2, .int j)] := hl
  refine lv_iload_n hx hb dX6_get_0 rfl (lv_at hl 1 rfl) ?_
  refine lv_if_lt (tgt := 24) hx hb dX6_get_1 (by decide) (fun k1 => ?_) (fun k1 => ?_)
  · refine lv_bipush (v := (-9)) hx hb dX6_get_24 (by decide) ?_
    exact vz_iret hx hb hr hlk hK hP hD hS (()) (tg_out (Or.inl k1)) [0, 1] rfl (by decide) (Nat.le_refl 0) (Nat.le_refl 0) dX6_get_26
  · refine lv_iload_n hx hb dX6_get_4 rfl (lv_at hl 1 rfl) ?_
    refine lv_aload_n hx hb dX6_get_5 rfl (lv_at hl 0 rfl) ?_
    refine va_get (D := D) (ci := 6) (v := .int (nI R)) (C := RX6) (T := TX6) (N := 4) hx hb hts inlX6 hown hK hP 0 rfl rfl 3 (by decide) (hts _ q72) (fun _ h => h) rfl dX6_get_6 ?_
    refine lv_icmp_ge (tgt := 24) hx hb dX6_get_9 (by decide) (fun k2 => ?_) (fun k2 => ?_)
    · refine lv_bipush (v := (-9)) hx hb dX6_get_24 (by decide) ?_
      exact vz_iret hx hb hr hlk hK hP hD hS (()) (tg_out (Or.inr (Or.inl k2))) [0, 1] rfl (by decide) (Nat.le_refl 0) (Nat.le_refl 0) dX6_get_26
    · refine lv_iload_n hx hb dX6_get_12 rfl (lv_at hl 2 rfl) ?_
      refine lv_if_lt (tgt := 24) hx hb dX6_get_13 (by decide) (fun k3 => ?_) (fun k3 => ?_)
      · refine lv_bipush (v := (-9)) hx hb dX6_get_24 (by decide) ?_
        exact vz_iret hx hb hr hlk hK hP hD hS (()) (tg_out (Or.inr (Or.inr (Or.inl k3)))) [0, 1] rfl (by decide) (Nat.le_refl 0) (Nat.le_refl 0) dX6_get_26
      · refine lv_iload_n hx hb dX6_get_16 rfl (lv_at hl 2 rfl) ?_
        refine lv_aload_n hx hb dX6_get_17 rfl (lv_at hl 0 rfl) ?_
        refine va_get (D := D) (ci := 6) (v := .int (nI Wi)) (C := RX6) (T := TX6) (N := 4) hx hb hts inlX6 hown hK hP 0 rfl rfl 1 (by decide) (hts _ q69) (fun _ h => h) rfl dX6_get_18 ?_
        refine lv_icmp_lt (tgt := 27) hx hb dX6_get_21 (by decide) (fun k4 => ?_) (fun k4 => ?_)
        · obtain ⟨k, hk, ek⟩ := vz_tix (by omega) h3 h4 h6 k1 k2 k3 k4
          refine lv_iload_n hx hb dX6_get_27 rfl (lv_at hl 1 rfl) ?_
          refine lv_aload_n hx hb dX6_get_28 rfl (lv_at hl 0 rfl) ?_
          refine va_get (D := D) (ci := 6) (v := .int (nI Wi)) (C := RX6) (T := TX6) (N := 4) hx hb hts inlX6 hown hK hP 0 rfl rfl 1 (by decide) (hts _ q69) (fun _ h => h) rfl dX6_get_29 ?_
          refine lv_imul hx hb dX6_get_32 ?_
          refine lv_topi (nm_r (e' := i * nI Wi) (rfl) ?_)
          refine lv_iload_n hx hb dX6_get_33 rfl (lv_at hl 2 rfl) ?_
          refine lv_iadd hx hb dX6_get_34 ?_
          refine lv_topi (nm_r (e' := nI k) (ek) ?_)
          refine lv_istore_n (lv' := [(3, .int (nI k)), (0, .ref h), (1, .int i), (2, .int j)]) hx hb dX6_get_35 rfl hl (by decide) rfl (fun ls hl => ?_)
          refine lv_iload_n hx hb dX6_get_36 rfl (lv_at hl 0 rfl) ?_
          refine lv_if_lt (tgt := 58) hx hb dX6_get_37 (by decide) (fun h9 => absurd h9 (nI_pos (by omega))) (fun _ => ?_)
          refine lv_iload_n hx hb dX6_get_40 rfl (lv_at hl 0 rfl) ?_
          refine lv_aload_n hx hb dX6_get_41 rfl (lv_at hl 1 rfl) ?_
          refine va_get (D := D) (ci := 6) (v := .ref q) (C := RX6) (T := TX6) (N := 4) hx hb hts inlX6 hown hK hP 0 rfl rfl 0 (by decide) (hts _ q71) (fun _ h => h) rfl dX6_get_42 ?_
          refine va_alen (v := nI N) hx hb hK hP 1 0 rfl rfl (rfl) dX6_get_45 ?_
          refine lv_icmp_ge (tgt := 58) hx hb dX6_get_46 (by decide) (fun h9 => absurd h9 (nI_ge (by omega) (by omega))) (fun _ => ?_)
          refine lv_aload_n hx hb dX6_get_49 rfl (lv_at hl 1 rfl) ?_
          refine va_get (D := D) (ci := 6) (v := .ref q) (C := RX6) (T := TX6) (N := 4) hx hb hts inlX6 hown hK hP 0 rfl rfl 0 (by decide) (hts _ q71) (fun _ h => h) rfl dX6_get_50 ?_
          refine lv_iload_n hx hb dX6_get_53 rfl (lv_at hl 0 rfl) ?_
          refine va_iald hx hb hK hP 1 0 rfl rfl (vp_in_nI (by omega) (by omega)) dX6_get_54 ?_
          refine lv_topi (nm_r (e' := f k) (by rw [nI_clamp (by omega)]) ?_)
          refine lv_goto (tgt := 60) hx hb dX6_get_55 (by decide) ?_
          exact vz_iret hx hb hr hlk hK hP hD hS (()) (tg_in k1 k2 k3 k4 (by omega) ek) [0, 1] rfl (by decide) (Nat.le_refl 0) (Nat.le_refl 0) dX6_get_60
        · refine lv_bipush (v := (-9)) hx hb dX6_get_24 (by decide) ?_
          exact vz_iret hx hb hr hlk hK hP hD hS (()) (tg_out (Or.inr (Or.inr (Or.inr k4)))) [0, 1] rfl (by decide) (Nat.le_refl 0) (Nat.le_refl 0) dX6_get_26
theorem dX6_set_0 : decode cX6_set 0 = .ok (.iload_n 1, 1) := by decide +kernel
theorem dX6_set_1 : decode cX6_set 1 = .ok (.ifCond .lt 23, 3) := by decide +kernel
theorem dX6_set_4 : decode cX6_set 4 = .ok (.iload_n 1, 1) := by decide +kernel
theorem dX6_set_5 : decode cX6_set 5 = .ok (.aload_n 0, 1) := by decide +kernel
theorem dX6_set_6 : decode cX6_set 6 = .ok (.getfield 28, 3) := by decide +kernel
theorem dX6_set_9 : decode cX6_set 9 = .ok (.if_icmp .ge 15, 3) := by decide +kernel
theorem dX6_set_12 : decode cX6_set 12 = .ok (.iload_n 2, 1) := by decide +kernel
theorem dX6_set_13 : decode cX6_set 13 = .ok (.ifCond .lt 11, 3) := by decide +kernel
theorem dX6_set_16 : decode cX6_set 16 = .ok (.iload_n 2, 1) := by decide +kernel
theorem dX6_set_17 : decode cX6_set 17 = .ok (.aload_n 0, 1) := by decide +kernel
theorem dX6_set_18 : decode cX6_set 18 = .ok (.getfield 21, 3) := by decide +kernel
theorem dX6_set_21 : decode cX6_set 21 = .ok (.if_icmp .lt 4, 3) := by decide +kernel
theorem dX6_set_24 : decode cX6_set 24 = .ok (.return_, 1) := by decide +kernel
theorem dX6_set_25 : decode cX6_set 25 = .ok (.iload_n 1, 1) := by decide +kernel
theorem dX6_set_26 : decode cX6_set 26 = .ok (.aload_n 0, 1) := by decide +kernel
theorem dX6_set_27 : decode cX6_set 27 = .ok (.getfield 21, 3) := by decide +kernel
theorem dX6_set_30 : decode cX6_set 30 = .ok (.imul, 1) := by decide +kernel
theorem dX6_set_31 : decode cX6_set 31 = .ok (.iload_n 2, 1) := by decide +kernel
theorem dX6_set_32 : decode cX6_set 32 = .ok (.iadd, 1) := by decide +kernel
theorem dX6_set_33 : decode cX6_set 33 = .ok (.istore 4, 2) := by decide +kernel
theorem dX6_set_35 : decode cX6_set 35 = .ok (.iload 4, 2) := by decide +kernel
theorem dX6_set_37 : decode cX6_set 37 = .ok (.ifCond .lt 21, 3) := by decide +kernel
theorem dX6_set_40 : decode cX6_set 40 = .ok (.iload 4, 2) := by decide +kernel
theorem dX6_set_42 : decode cX6_set 42 = .ok (.aload_n 0, 1) := by decide +kernel
theorem dX6_set_43 : decode cX6_set 43 = .ok (.getfield 24, 3) := by decide +kernel
theorem dX6_set_46 : decode cX6_set 46 = .ok (.arraylength, 1) := by decide +kernel
theorem dX6_set_47 : decode cX6_set 47 = .ok (.if_icmp .ge 11, 3) := by decide +kernel
theorem dX6_set_50 : decode cX6_set 50 = .ok (.aload_n 0, 1) := by decide +kernel
theorem dX6_set_51 : decode cX6_set 51 = .ok (.getfield 24, 3) := by decide +kernel
theorem dX6_set_54 : decode cX6_set 54 = .ok (.iload 4, 2) := by decide +kernel
theorem dX6_set_56 : decode cX6_set 56 = .ok (.iload_n 3, 1) := by decide +kernel
theorem dX6_set_57 : decode cX6_set 57 = .ok (.iastore, 1) := by decide +kernel
theorem dX6_set_58 : decode cX6_set 58 = .ok (.return_, 1) := by decide +kernel
set_option maxHeartbeats 4000000 in
set_option maxRecDepth 100000 in
theorem c_T_set (l : Launch) (D : va_G) (g : Nat → ClassId) (h q sz Wi M R N : Nat) (f : Nat → Int32) (i j v : Int32) (ht : tok Wi M R N) : vz_Mv l D (tyG g) yX6_set cX6_set 5 0 0 0 0 [.ref h, .int i, .int j, .int v] sz [tT h q (nI Wi) (nI M) (nI R), tA g q N f] (fun f1 => f1 = ts Wi R f i j v) (fun f1 => [tT h q (nI Wi) (nI M) (nI R), tA g q N f1]) := by
  obtain ⟨h1, h2, h3, h4, h5, h6⟩ := ht
  refine vz_sv (by decide) (Nat.le_of_ble_eq_true rfl) (fun p e s m args below meth c hx hb hr hml hts hown hlk hin hK hsz A hA H locs hP hD hS ls hl => ?_)
  have hl : lv_has ls 5 [(0, .ref h), (1, .int i), (2, .int j), (3, .int v)] := hl
  refine lv_iload_n hx hb dX6_set_0 rfl (lv_at hl 1 rfl) ?_
  refine lv_if_lt (tgt := 24) hx hb dX6_set_1 (by decide) (fun k1 => ?_) (fun k1 => ?_)
  · exact vz_vret hx hb hr hlk hK hP hD hS (f) (ts_out (Or.inl k1)) [0, 1] rfl (by decide) (Nat.le_refl 0) (Nat.le_refl 0) dX6_set_24
  · refine lv_iload_n hx hb dX6_set_4 rfl (lv_at hl 1 rfl) ?_
    refine lv_aload_n hx hb dX6_set_5 rfl (lv_at hl 0 rfl) ?_
    refine va_get (D := D) (ci := 6) (v := .int (nI R)) (C := RX6) (T := TX6) (N := 4) hx hb hts inlX6 hown hK hP 0 rfl rfl 3 (by decide) (hts _ q72) (fun _ h => h) rfl dX6_set_6 ?_
    refine lv_icmp_ge (tgt := 24) hx hb dX6_set_9 (by decide) (fun k2 => ?_) (fun k2 => ?_)
    · exact vz_vret hx hb hr hlk hK hP hD hS (f) (ts_out (Or.inr (Or.inl k2))) [0, 1] rfl (by decide) (Nat.le_refl 0) (Nat.le_refl 0) dX6_set_24
    · refine lv_iload_n hx hb dX6_set_12 rfl (lv_at hl 2 rfl) ?_
      refine lv_if_lt (tgt := 24) hx hb dX6_set_13 (by decide) (fun k3 => ?_) (fun k3 => ?_)
      · exact vz_vret hx hb hr hlk hK hP hD hS (f) (ts_out (Or.inr (Or.inr (Or.inl k3)))) [0, 1] rfl (by decide) (Nat.le_refl 0) (Nat.le_refl 0) dX6_set_24
      · refine lv_iload_n hx hb dX6_set_16 rfl (lv_at hl 2 rfl) ?_
        refine lv_aload_n hx hb dX6_set_17 rfl (lv_at hl 0 rfl) ?_
        refine va_get (D := D) (ci := 6) (v := .int (nI Wi)) (C := RX6) (T := TX6) (N := 4) hx hb hts inlX6 hown hK hP 0 rfl rfl 1 (by decide) (hts _ q69) (fun _ h => h) rfl dX6_set_18 ?_
        refine lv_icmp_lt (tgt := 25) hx hb dX6_set_21 (by decide) (fun k4 => ?_) (fun k4 => ?_)
        · obtain ⟨k, hk, ek⟩ := vz_tix (by omega) h3 h4 h6 k1 k2 k3 k4
          refine lv_iload_n hx hb dX6_set_25 rfl (lv_at hl 1 rfl) ?_
          refine lv_aload_n hx hb dX6_set_26 rfl (lv_at hl 0 rfl) ?_
          refine va_get (D := D) (ci := 6) (v := .int (nI Wi)) (C := RX6) (T := TX6) (N := 4) hx hb hts inlX6 hown hK hP 0 rfl rfl 1 (by decide) (hts _ q69) (fun _ h => h) rfl dX6_set_27 ?_
          refine lv_imul hx hb dX6_set_30 ?_
          refine lv_topi (nm_r (e' := i * nI Wi) (rfl) ?_)
          refine lv_iload_n hx hb dX6_set_31 rfl (lv_at hl 2 rfl) ?_
          refine lv_iadd hx hb dX6_set_32 ?_
          refine lv_topi (nm_r (e' := nI k) (ek) ?_)
          refine lv_istore (lv' := [(4, .int (nI k)), (0, .ref h), (1, .int i), (2, .int j), (3, .int v)]) hx hb dX6_set_33 hl (by decide) rfl (fun ls hl => ?_)
          refine lv_iload hx hb dX6_set_35 (lv_at hl 0 rfl) ?_
          refine lv_if_lt (tgt := 58) hx hb dX6_set_37 (by decide) (fun h9 => absurd h9 (nI_pos (by omega))) (fun _ => ?_)
          refine lv_iload hx hb dX6_set_40 (lv_at hl 0 rfl) ?_
          refine lv_aload_n hx hb dX6_set_42 rfl (lv_at hl 1 rfl) ?_
          refine va_get (D := D) (ci := 6) (v := .ref q) (C := RX6) (T := TX6) (N := 4) hx hb hts inlX6 hown hK hP 0 rfl rfl 0 (by decide) (hts _ q71) (fun _ h => h) rfl dX6_set_43 ?_
          refine va_alen (v := nI N) hx hb hK hP 1 0 rfl rfl (rfl) dX6_set_46 ?_
          refine lv_icmp_ge (tgt := 58) hx hb dX6_set_47 (by decide) (fun h9 => absurd h9 (nI_ge (by omega) (by omega))) (fun _ => ?_)
          refine lv_aload_n hx hb dX6_set_50 rfl (lv_at hl 1 rfl) ?_
          refine va_get (D := D) (ci := 6) (v := .ref q) (C := RX6) (T := TX6) (N := 4) hx hb hts inlX6 hown hK hP 0 rfl rfl 0 (by decide) (hts _ q71) (fun _ h => h) rfl dX6_set_51 ?_
          refine lv_iload hx hb dX6_set_54 (lv_at hl 0 rfl) ?_
          refine lv_iload_n hx hb dX6_set_56 rfl (lv_at hl 4 rfl) ?_
          refine va_iast hx hb hK hP hD hS 1 0 rfl rfl (vp_in_nI (by omega) (by omega)) dX6_set_57 (fun H locs hP hD hS => ?_)
          have hP : va_P D vwCl [tT h q (nI Wi) (nI M) (nI R), tA g q N (upd f (nI k).toNatClampNeg v)] H := hP
          have hD : va_D A [tT h q (nI Wi) (nI M) (nI R), tA g q N (upd f (nI k).toNatClampNeg v)] := hD
          exact vz_vret hx hb hr hlk hK hP hD hS (upd f (nI k).toNatClampNeg v) (ts_in k1 k2 k3 k4 ek) [0, 1] rfl (by decide) (Nat.le_refl 0) (Nat.le_refl 0) dX6_set_58
        · exact vz_vret hx hb hr hlk hK hP hD hS (f) (ts_out (Or.inr (Or.inr (Or.inr k4)))) [0, 1] rfl (by decide) (Nat.le_refl 0) (Nat.le_refl 0) dX6_set_24
theorem dX6_reset_0 : decode cX6_reset 0 = .ok (.aload_n 0, 1) := by decide +kernel
theorem dX6_reset_1 : decode cX6_reset 1 = .ok (.iconst 0, 1) := by decide +kernel
theorem dX6_reset_2 : decode cX6_reset 2 = .ok (.putfield 28, 3) := by decide +kernel
theorem dX6_reset_5 : decode cX6_reset 5 = .ok (.return_, 1) := by decide +kernel
set_option maxHeartbeats 4000000 in
set_option maxRecDepth 100000 in
theorem c_T_reset (l : Launch) (D : va_G) (g : Nat → ClassId) (h q sz : Nat) (w mo r : Int32) : vz_Mv l D (tyG g) yX6_reset cX6_reset 1 0 0 0 0 [.ref h] sz [tT h q w mo r] (fun _ : Unit => True) (fun _ => [tT h q w mo 0]) := by
  refine vz_sv (by decide) (Nat.le_of_ble_eq_true rfl) (fun p e s m args below meth c hx hb hr hml hts hown hlk hin hK hsz A hA H locs hP hD hS ls hl => ?_)
  have hl : lv_has ls 1 [(0, .ref h)] := hl
  refine lv_aload_n hx hb dX6_reset_0 rfl (lv_at hl 0 rfl) ?_
  refine lv_iconst (v := 0) hx hb dX6_reset_1 (by decide) ?_
  refine va_put (D := D) (ci := 6) (v := .int 0) (ty := .int) (C := RX6) (T := TX6) (N := 4) hx hb hts inlX6 tyX6 tyX6_ok nmX6 hown hK hP hD hS 0 rfl rfl 3 (by decide) (hts _ q72) (fun _ h => h) rfl (by decide +kernel) rfl rfl (Nat.le_of_ble_eq_true rfl) dX6_reset_2 (fun H locs hP hD hS => ?_)
  have hP : va_P D vwCl [tT h q w mo 0] H := hP
  have hD : va_D A [tT h q w mo 0] := hD
  exact vz_vret hx hb hr hlk hK hP hD hS (()) (trivial) [0] rfl (by decide) (Nat.le_refl 0) (Nat.le_refl 0) dX6_reset_5
theorem dX6_add_36 : decode cX6_add 36 = .ok (.iload_n 1, 1) := by decide +kernel
theorem dX6_add_37 : decode cX6_add 37 = .ok (.aload_n 0, 1) := by decide +kernel
theorem dX6_add_38 : decode cX6_add 38 = .ok (.getfield 28, 3) := by decide +kernel
theorem dX6_add_41 : decode cX6_add 41 = .ok (.aload_n 0, 1) := by decide +kernel
theorem dX6_add_42 : decode cX6_add 42 = .ok (.getfield 21, 3) := by decide +kernel
theorem dX6_add_45 : decode cX6_add 45 = .ok (.imul, 1) := by decide +kernel
theorem dX6_add_46 : decode cX6_add 46 = .ok (.if_icmp .ge 30, 3) := by decide +kernel
theorem dX6_add_49 : decode cX6_add 49 = .ok (.iload_n 1, 1) := by decide +kernel
theorem dX6_add_50 : decode cX6_add 50 = .ok (.ifCond .lt 20, 3) := by decide +kernel
theorem dX6_add_53 : decode cX6_add 53 = .ok (.iload_n 1, 1) := by decide +kernel
theorem dX6_add_54 : decode cX6_add 54 = .ok (.aload_n 0, 1) := by decide +kernel
theorem dX6_add_55 : decode cX6_add 55 = .ok (.getfield 24, 3) := by decide +kernel
theorem dX6_add_58 : decode cX6_add 58 = .ok (.arraylength, 1) := by decide +kernel
theorem dX6_add_59 : decode cX6_add 59 = .ok (.if_icmp .ge 11, 3) := by decide +kernel
theorem dX6_add_62 : decode cX6_add 62 = .ok (.aload_n 0, 1) := by decide +kernel
theorem dX6_add_63 : decode cX6_add 63 = .ok (.getfield 24, 3) := by decide +kernel
theorem dX6_add_66 : decode cX6_add 66 = .ok (.iload_n 1, 1) := by decide +kernel
theorem dX6_add_67 : decode cX6_add 67 = .ok (.bipush (-9), 2) := by decide +kernel
theorem dX6_add_69 : decode cX6_add 69 = .ok (.iastore, 1) := by decide +kernel
theorem dX6_add_70 : decode cX6_add 70 = .ok (.iinc 1 1, 3) := by decide +kernel
theorem dX6_add_73 : decode cX6_add 73 = .ok (.goto (-37), 3) := by decide +kernel
set_option maxHeartbeats 4000000 in
set_option maxRecDepth 100000 in
theorem lp_T_add {p : Program} {l : Launch} {e : Env} {Rm : Room} {s : State} {m : MethodId} {args : Array Value} {below : List Frame} {meth : Method} {c : Code} {Q : State → Prop} {A : Nat → Prop} {D : va_G} {g : Nat → ClassId} {H0 : Heap} {cells slots : Nat} (hx : p.tables.exec = Jvm.exec) (hb : c.code = cX6_add) (hown : s.vm.findClass RX6 = some m.cls) (hts : ∀ w ∈ wsL_law, w.before args s = true) (hK : va_K D vwCl (tyG g) s) {h q Wi M R N : Nat} {f : Nat → Int32} (hN : N < 2 ^ 30) (hRN : (R + 1) * Wi ≤ N)
    (kk : ∀ (H : Heap) (locs : List Loc) (ls : Array Slot), va_P D vwCl [tT h q (nI Wi) (nI M) (nI (R + 1)), tA g q N (tf f (R * Wi) ((R + 1) * Wi) (-9))] H → va_D A [tT h q (nI Wi) (nI M) (nI (R + 1)), tA g q N (tf f (R * Wi) ((R + 1) * Wi) (-9))] → va_S A H0 H locs → lv_has ls 2 [(0, .ref h), (1, .int (nI ((R + 1) * Wi)))] → W p l e Rm s m args below meth c H locs cells slots Q (F0 m 76 ls [])) :
    ∀ (n i : Nat), R * Wi ≤ i → i ≤ (R + 1) * Wi → (R + 1) * Wi - i < n → ∀ (H : Heap) (locs : List Loc) (ls : Array Slot), va_P D vwCl [tT h q (nI Wi) (nI M) (nI (R + 1)), tA g q N (tf f (R * Wi) i (-9))] H → va_D A [tT h q (nI Wi) (nI M) (nI (R + 1)), tA g q N (tf f (R * Wi) i (-9))] → va_S A H0 H locs → lv_has ls 2 [(0, .ref h), (1, .int (nI i))] → W p l e Rm s m args below meth c H locs cells slots Q (F0 m 36 ls []) := by
  intro n
  induction n with
  | zero => intro i _ _ z; omega
  | succ n ih =>
    intro i hi hi2 hm H locs ls hP hD hS hl
    refine lv_iload_n hx hb dX6_add_36 rfl (lv_at hl 1 rfl) ?_
    refine lv_aload_n hx hb dX6_add_37 rfl (lv_at hl 0 rfl) ?_
    refine va_get (D := D) (ci := 6) (v := .int (nI (R + 1))) (C := RX6) (T := TX6) (N := 4) hx hb hts inlX6 hown hK hP 0 rfl rfl 3 (by decide) (hts _ q72) (fun _ h => h) rfl dX6_add_38 ?_
    refine lv_aload_n hx hb dX6_add_41 rfl (lv_at hl 0 rfl) ?_
    refine va_get (D := D) (ci := 6) (v := .int (nI Wi)) (C := RX6) (T := TX6) (N := 4) hx hb hts inlX6 hown hK hP 0 rfl rfl 1 (by decide) (hts _ q69) (fun _ h => h) rfl dX6_add_42 ?_
    refine lv_imul hx hb dX6_add_45 ?_
    refine lv_topi (nm_r (e' := nI ((R + 1) * Wi)) (vz_mul _ _) ?_)
    refine lv_icmp_ge (tgt := 76) hx hb dX6_add_46 (by decide) (fun kc => ?_) (fun kc => ?_)
    · have hii : i = (R + 1) * Wi := by
        rcases Nat.lt_or_ge i ((R + 1) * Wi) with z | z
        · exact absurd kc (nI_ge z (by omega))
        · omega
      subst hii
      exact kk H locs ls hP hD hS hl
    · have hlt : i < (R + 1) * Wi := by
        rcases Nat.lt_or_ge i ((R + 1) * Wi) with z | z
        · exact z
        · exact absurd (nI_le z (by omega)) kc
      have hlN : i < N := by omega
      refine lv_iload_n hx hb dX6_add_49 rfl (lv_at hl 1 rfl) ?_
      refine lv_if_lt (tgt := 70) hx hb dX6_add_50 (by decide) (fun h9 => absurd h9 (nI_pos (by omega))) (fun _ => ?_)
      refine lv_iload_n hx hb dX6_add_53 rfl (lv_at hl 1 rfl) ?_
      refine lv_aload_n hx hb dX6_add_54 rfl (lv_at hl 0 rfl) ?_
      refine va_get (D := D) (ci := 6) (v := .ref q) (C := RX6) (T := TX6) (N := 4) hx hb hts inlX6 hown hK hP 0 rfl rfl 0 (by decide) (hts _ q71) (fun _ h => h) rfl dX6_add_55 ?_
      refine va_alen (v := nI N) hx hb hK hP 1 0 rfl rfl (rfl) dX6_add_58 ?_
      refine lv_icmp_ge (tgt := 70) hx hb dX6_add_59 (by decide) (fun h9 => absurd h9 (nI_ge hlN (by omega))) (fun _ => ?_)
      refine lv_aload_n hx hb dX6_add_62 rfl (lv_at hl 0 rfl) ?_
      refine va_get (D := D) (ci := 6) (v := .ref q) (C := RX6) (T := TX6) (N := 4) hx hb hts inlX6 hown hK hP 0 rfl rfl 0 (by decide) (hts _ q71) (fun _ h => h) rfl dX6_add_63 ?_
      refine lv_iload_n hx hb dX6_add_66 rfl (lv_at hl 1 rfl) ?_
      refine lv_bipush (v := (-9)) hx hb dX6_add_67 (by decide) ?_
      refine va_iast hx hb hK hP hD hS 1 0 rfl rfl (vp_in_nI hlN (by omega)) dX6_add_69 (fun H locs hP hD hS => ?_)
      have hfe : (upd (tf f (R * Wi) i (-9)) (nI i).toNatClampNeg (-9)) = (tf f (R * Wi) (i + 1) (-9)) := tf_s hi (by omega)
      rw [hfe] at hP hD
      have hP : va_P D vwCl [tT h q (nI Wi) (nI M) (nI (R + 1)), tA g q N (tf f (R * Wi) (i + 1) (-9))] H := hP
      have hD : va_D A [tT h q (nI Wi) (nI M) (nI (R + 1)), tA g q N (tf f (R * Wi) (i + 1) (-9))] := hD
      refine lv_iinc (v := (nI (i + 1))) (lv' := [(1, .int (nI (i + 1))), (0, .ref h)]) hx hb dX6_add_70 hl (k := 1) rfl (nI_1 i) (by decide) rfl (fun ls hl => ?_)
      refine lv_goto (tgt := 36) hx hb dX6_add_73 (by decide) ?_
      exact ih (i + 1) (by omega) (by omega) (by omega) H locs ls hP hD hS (lv_sub hl [1, 0] rfl)
theorem dX6_add_0 : decode cX6_add 0 = .ok (.aload_n 0, 1) := by decide +kernel
theorem dX6_add_1 : decode cX6_add 1 = .ok (.getfield 28, 3) := by decide +kernel
theorem dX6_add_4 : decode cX6_add 4 = .ok (.aload_n 0, 1) := by decide +kernel
theorem dX6_add_5 : decode cX6_add 5 = .ok (.getfield 15, 3) := by decide +kernel
theorem dX6_add_8 : decode cX6_add 8 = .ok (.if_icmp .lt 6, 3) := by decide +kernel
theorem dX6_add_11 : decode cX6_add 11 = .ok (.bipush (-9), 2) := by decide +kernel
theorem dX6_add_13 : decode cX6_add 13 = .ok (.ireturn, 1) := by decide +kernel
theorem dX6_add_14 : decode cX6_add 14 = .ok (.aload_n 0, 1) := by decide +kernel
theorem dX6_add_15 : decode cX6_add 15 = .ok (.dup, 1) := by decide +kernel
theorem dX6_add_16 : decode cX6_add 16 = .ok (.getfield 28, 3) := by decide +kernel
theorem dX6_add_19 : decode cX6_add 19 = .ok (.iconst 1, 1) := by decide +kernel
theorem dX6_add_20 : decode cX6_add 20 = .ok (.iadd, 1) := by decide +kernel
theorem dX6_add_21 : decode cX6_add 21 = .ok (.putfield 28, 3) := by decide +kernel
theorem dX6_add_24 : decode cX6_add 24 = .ok (.aload_n 0, 1) := by decide +kernel
theorem dX6_add_25 : decode cX6_add 25 = .ok (.getfield 28, 3) := by decide +kernel
theorem dX6_add_28 : decode cX6_add 28 = .ok (.iconst 1, 1) := by decide +kernel
theorem dX6_add_29 : decode cX6_add 29 = .ok (.isub, 1) := by decide +kernel
theorem dX6_add_30 : decode cX6_add 30 = .ok (.aload_n 0, 1) := by decide +kernel
theorem dX6_add_31 : decode cX6_add 31 = .ok (.getfield 21, 3) := by decide +kernel
theorem dX6_add_34 : decode cX6_add 34 = .ok (.imul, 1) := by decide +kernel
theorem dX6_add_35 : decode cX6_add 35 = .ok (.istore_n 1, 1) := by decide +kernel
theorem dX6_add_76 : decode cX6_add 76 = .ok (.aload_n 0, 1) := by decide +kernel
theorem dX6_add_77 : decode cX6_add 77 = .ok (.getfield 28, 3) := by decide +kernel
theorem dX6_add_80 : decode cX6_add 80 = .ok (.iconst 1, 1) := by decide +kernel
theorem dX6_add_81 : decode cX6_add 81 = .ok (.isub, 1) := by decide +kernel
theorem dX6_add_82 : decode cX6_add 82 = .ok (.ireturn, 1) := by decide +kernel
set_option maxHeartbeats 4000000 in
set_option maxRecDepth 100000 in
theorem c_T_add (l : Launch) (D : va_G) (g : Nat → ClassId) (h q sz Wi M R N : Nat) (f : Nat → Int32) (ht : tok Wi M R N) : vz_Mi l D (tyG g) yX6_add cX6_add 2 0 0 0 0 .int [.ref h] sz [tT h q (nI Wi) (nI M) (nI R), tA g q N f] (fun r (u : Nat × (Nat → Int32)) => (R < M ∧ r = nI R ∧ u.1 = R + 1 ∧ u.2 = tf f (R * Wi) ((R + 1) * Wi) (-9)) ∨ (M ≤ R ∧ r = -9 ∧ u.1 = R ∧ u.2 = f)) (fun u => [tT h q (nI Wi) (nI M) (nI u.1), tA g q N u.2]) := by
  obtain ⟨h1, h2, h3, h4, h5, h6⟩ := ht
  refine vz_si (by decide) (Nat.le_of_ble_eq_true rfl) (fun p e s m args below meth c hx hb hr hml hts hown hlk hin hK hsz A hA H locs hP hD hS ls hl => ?_)
  have hl : lv_has ls 2 [(0, .ref h)] := hl
  refine lv_aload_n hx hb dX6_add_0 rfl (lv_at hl 0 rfl) ?_
  refine va_get (D := D) (ci := 6) (v := .int (nI R)) (C := RX6) (T := TX6) (N := 4) hx hb hts inlX6 hown hK hP 0 rfl rfl 3 (by decide) (hts _ q72) (fun _ h => h) rfl dX6_add_1 ?_
  refine lv_aload_n hx hb dX6_add_4 rfl (lv_at hl 0 rfl) ?_
  refine va_get (D := D) (ci := 6) (v := .int (nI M)) (C := RX6) (T := TX6) (N := 4) hx hb hts inlX6 hown hK hP 0 rfl rfl 2 (by decide) (hts _ q68) (fun _ h => h) rfl dX6_add_5 ?_
  refine lv_icmp_lt (tgt := 14) hx hb dX6_add_8 (by decide) (fun kc => ?_) (fun kc => ?_)
  · have hlt : R < M := by
      rcases Nat.lt_or_ge R M with z | z
      · exact z
      · exact absurd kc (nI_nlt z (by omega))
    have hRN : (R + 1) * Wi ≤ N := by rw [h1]; exact Nat.mul_le_mul_right Wi hlt
    refine lv_aload_n hx hb dX6_add_14 rfl (lv_at hl 0 rfl) ?_
    refine lv_dup hx hb dX6_add_15 rfl ?_
    refine va_get (D := D) (ci := 6) (v := .int (nI R)) (C := RX6) (T := TX6) (N := 4) hx hb hts inlX6 hown hK hP 0 rfl rfl 3 (by decide) (hts _ q72) (fun _ h => h) rfl dX6_add_16 ?_
    refine lv_iconst (v := 1) hx hb dX6_add_19 (by decide) ?_
    refine lv_iadd hx hb dX6_add_20 ?_
    refine lv_topi (nm_r (e' := nI (R + 1)) (nI_1 R) ?_)
    refine va_put (D := D) (ci := 6) (v := .int (nI (R + 1))) (ty := .int) (C := RX6) (T := TX6) (N := 4) hx hb hts inlX6 tyX6 tyX6_ok nmX6 hown hK hP hD hS 0 rfl rfl 3 (by decide) (hts _ q72) (fun _ h => h) rfl (by decide +kernel) rfl rfl (Nat.le_of_ble_eq_true rfl) dX6_add_21 (fun H locs hP hD hS => ?_)
    have hP : va_P D vwCl [tT h q (nI Wi) (nI M) (nI (R + 1)), tA g q N f] H := hP
    have hD : va_D A [tT h q (nI Wi) (nI M) (nI (R + 1)), tA g q N f] := hD
    refine lv_aload_n hx hb dX6_add_24 rfl (lv_at hl 0 rfl) ?_
    refine va_get (D := D) (ci := 6) (v := .int (nI (R + 1))) (C := RX6) (T := TX6) (N := 4) hx hb hts inlX6 hown hK hP 0 rfl rfl 3 (by decide) (hts _ q72) (fun _ h => h) rfl dX6_add_25 ?_
    refine lv_iconst (v := 1) hx hb dX6_add_28 (by decide) ?_
    refine lv_isub hx hb dX6_add_29 ?_
    refine lv_topi (nm_r (e' := nI R) (nI_pred R) ?_)
    refine lv_aload_n hx hb dX6_add_30 rfl (lv_at hl 0 rfl) ?_
    refine va_get (D := D) (ci := 6) (v := .int (nI Wi)) (C := RX6) (T := TX6) (N := 4) hx hb hts inlX6 hown hK hP 0 rfl rfl 1 (by decide) (hts _ q69) (fun _ h => h) rfl dX6_add_31 ?_
    refine lv_imul hx hb dX6_add_34 ?_
    refine lv_topi (nm_r (e' := nI (R * Wi)) (vz_mul _ _) ?_)
    refine lv_istore_n (lv' := [(1, .int (nI (R * Wi))), (0, .ref h)]) hx hb dX6_add_35 rfl hl (by decide) rfl (fun ls hl => ?_)
    have hfe : f = tf f (R * Wi) (R * Wi) (-9) := tf_0
    rw [hfe] at hP hD
    refine lp_T_add hx hb hown hts hK (by omega) hRN ?_ (Wi + 1) (R * Wi) (Nat.le_refl _) (by rw [Nat.succ_mul]; omega) (by rw [Nat.succ_mul]; omega) H locs ls hP hD hS (lv_sub hl [1, 0] rfl)
    intro H locs ls hP hD hS hl
    refine lv_aload_n hx hb dX6_add_76 rfl (lv_at hl 0 rfl) ?_
    refine va_get (D := D) (ci := 6) (v := .int (nI (R + 1))) (C := RX6) (T := TX6) (N := 4) hx hb hts inlX6 hown hK hP 0 rfl rfl 3 (by decide) (hts _ q72) (fun _ h => h) rfl dX6_add_77 ?_
    refine lv_iconst (v := 1) hx hb dX6_add_80 (by decide) ?_
    refine lv_isub hx hb dX6_add_81 ?_
    refine lv_topi (nm_r (e' := nI R) (nI_pred R) ?_)
    exact vz_iret hx hb hr hlk hK hP hD hS ((R + 1, tf f (R * Wi) ((R + 1) * Wi) (-9))) (Or.inl ⟨hlt, rfl, rfl, rfl⟩) [0, 1] rfl (by decide) (Nat.le_refl 0) (Nat.le_refl 0) dX6_add_82
  · refine lv_bipush (v := (-9)) hx hb dX6_add_11 (by decide) ?_
    exact vz_iret hx hb hr hlk hK hP hD hS ((R, f)) (Or.inr ⟨Nat.not_lt.mp (fun z => kc (nI_lt z (by omega))), rfl, rfl, rfl⟩) [0, 1] rfl (by decide) (Nat.le_refl 0) (Nat.le_refl 0) dX6_add_13
theorem dX6_fill_18 : decode cX6_fill 18 = .ok (.iload_n 3, 1) := by decide +kernel
theorem dX6_fill_19 : decode cX6_fill 19 = .ok (.aload_n 0, 1) := by decide +kernel
theorem dX6_fill_20 : decode cX6_fill 20 = .ok (.getfield 28, 3) := by decide +kernel
theorem dX6_fill_23 : decode cX6_fill 23 = .ok (.aload_n 0, 1) := by decide +kernel
theorem dX6_fill_24 : decode cX6_fill 24 = .ok (.getfield 21, 3) := by decide +kernel
theorem dX6_fill_27 : decode cX6_fill 27 = .ok (.imul, 1) := by decide +kernel
theorem dX6_fill_28 : decode cX6_fill 28 = .ok (.if_icmp .ge 25, 3) := by decide +kernel
theorem dX6_fill_31 : decode cX6_fill 31 = .ok (.iload_n 3, 1) := by decide +kernel
theorem dX6_fill_32 : decode cX6_fill 32 = .ok (.aload_n 0, 1) := by decide +kernel
theorem dX6_fill_33 : decode cX6_fill 33 = .ok (.getfield 24, 3) := by decide +kernel
theorem dX6_fill_36 : decode cX6_fill 36 = .ok (.arraylength, 1) := by decide +kernel
theorem dX6_fill_37 : decode cX6_fill 37 = .ok (.if_icmp .ge 16, 3) := by decide +kernel
theorem dX6_fill_40 : decode cX6_fill 40 = .ok (.aload_n 0, 1) := by decide +kernel
theorem dX6_fill_41 : decode cX6_fill 41 = .ok (.getfield 24, 3) := by decide +kernel
theorem dX6_fill_44 : decode cX6_fill 44 = .ok (.iload_n 3, 1) := by decide +kernel
theorem dX6_fill_45 : decode cX6_fill 45 = .ok (.iload_n 2, 1) := by decide +kernel
theorem dX6_fill_46 : decode cX6_fill 46 = .ok (.iastore, 1) := by decide +kernel
theorem dX6_fill_47 : decode cX6_fill 47 = .ok (.iinc 3 1, 3) := by decide +kernel
theorem dX6_fill_50 : decode cX6_fill 50 = .ok (.goto (-32), 3) := by decide +kernel
set_option maxHeartbeats 4000000 in
set_option maxRecDepth 100000 in
theorem lp_T_fill {p : Program} {l : Launch} {e : Env} {Rm : Room} {s : State} {m : MethodId} {args : Array Value} {below : List Frame} {meth : Method} {c : Code} {Q : State → Prop} {A : Nat → Prop} {D : va_G} {g : Nat → ClassId} {H0 : Heap} {cells slots : Nat} (hx : p.tables.exec = Jvm.exec) (hb : c.code = cX6_fill) (hown : s.vm.findClass RX6 = some m.cls) (hts : ∀ w ∈ wsL_law, w.before args s = true) (hK : va_K D vwCl (tyG g) s) {h q Wi M C N : Nat} {f : Nat → Int32} {v : Int32} (hN : N < 2 ^ 30) (hCN : C * Wi ≤ N)
    (kk : ∀ (H : Heap) (locs : List Loc) (ls : Array Slot), va_P D vwCl [tT h q (nI Wi) (nI M) (nI C), tA g q N (tf f 0 (C * Wi) v)] H → va_D A [tT h q (nI Wi) (nI M) (nI C), tA g q N (tf f 0 (C * Wi) v)] → va_S A H0 H locs → lv_has ls 4 [(0, .ref h), (2, .int v), (3, .int (nI (C * Wi)))] → W p l e Rm s m args below meth c H locs cells slots Q (F0 m 53 ls [])) :
    ∀ (n i : Nat), i ≤ C * Wi → C * Wi - i < n → ∀ (H : Heap) (locs : List Loc) (ls : Array Slot), va_P D vwCl [tT h q (nI Wi) (nI M) (nI C), tA g q N (tf f 0 i v)] H → va_D A [tT h q (nI Wi) (nI M) (nI C), tA g q N (tf f 0 i v)] → va_S A H0 H locs → lv_has ls 4 [(0, .ref h), (2, .int v), (3, .int (nI i))] → W p l e Rm s m args below meth c H locs cells slots Q (F0 m 18 ls []) := by
  intro n
  induction n with
  | zero => intro i _ z; omega
  | succ n ih =>
    intro i hi hm H locs ls hP hD hS hl
    refine lv_iload_n hx hb dX6_fill_18 rfl (lv_at hl 2 rfl) ?_
    refine lv_aload_n hx hb dX6_fill_19 rfl (lv_at hl 0 rfl) ?_
    refine va_get (D := D) (ci := 6) (v := .int (nI C)) (C := RX6) (T := TX6) (N := 4) hx hb hts inlX6 hown hK hP 0 rfl rfl 3 (by decide) (hts _ q72) (fun _ h => h) rfl dX6_fill_20 ?_
    refine lv_aload_n hx hb dX6_fill_23 rfl (lv_at hl 0 rfl) ?_
    refine va_get (D := D) (ci := 6) (v := .int (nI Wi)) (C := RX6) (T := TX6) (N := 4) hx hb hts inlX6 hown hK hP 0 rfl rfl 1 (by decide) (hts _ q69) (fun _ h => h) rfl dX6_fill_24 ?_
    refine lv_imul hx hb dX6_fill_27 ?_
    refine lv_topi (nm_r (e' := nI (C * Wi)) (vz_mul _ _) ?_)
    refine lv_icmp_ge (tgt := 53) hx hb dX6_fill_28 (by decide) (fun kc => ?_) (fun kc => ?_)
    · have hii : i = C * Wi := by
        rcases Nat.lt_or_ge i (C * Wi) with z | z
        · exact absurd kc (nI_ge z (by omega))
        · omega
      subst hii
      exact kk H locs ls hP hD hS hl
    · have hlt : i < C * Wi := by
        rcases Nat.lt_or_ge i (C * Wi) with z | z
        · exact z
        · exact absurd (nI_le z (by omega)) kc
      have hlN : i < N := by omega
      refine lv_iload_n hx hb dX6_fill_31 rfl (lv_at hl 2 rfl) ?_
      refine lv_aload_n hx hb dX6_fill_32 rfl (lv_at hl 0 rfl) ?_
      refine va_get (D := D) (ci := 6) (v := .ref q) (C := RX6) (T := TX6) (N := 4) hx hb hts inlX6 hown hK hP 0 rfl rfl 0 (by decide) (hts _ q71) (fun _ h => h) rfl dX6_fill_33 ?_
      refine va_alen (v := nI N) hx hb hK hP 1 0 rfl rfl (rfl) dX6_fill_36 ?_
      refine lv_icmp_ge (tgt := 53) hx hb dX6_fill_37 (by decide) (fun h9 => absurd h9 (nI_ge hlN (by omega))) (fun _ => ?_)
      refine lv_aload_n hx hb dX6_fill_40 rfl (lv_at hl 0 rfl) ?_
      refine va_get (D := D) (ci := 6) (v := .ref q) (C := RX6) (T := TX6) (N := 4) hx hb hts inlX6 hown hK hP 0 rfl rfl 0 (by decide) (hts _ q71) (fun _ h => h) rfl dX6_fill_41 ?_
      refine lv_iload_n hx hb dX6_fill_44 rfl (lv_at hl 2 rfl) ?_
      refine lv_iload_n hx hb dX6_fill_45 rfl (lv_at hl 1 rfl) ?_
      refine va_iast hx hb hK hP hD hS 1 0 rfl rfl (vp_in_nI hlN (by omega)) dX6_fill_46 (fun H locs hP hD hS => ?_)
      have hfe : (upd (tf f 0 i v) (nI i).toNatClampNeg v) = (tf f 0 (i + 1) v) := tf_s (Nat.zero_le i) (by omega)
      rw [hfe] at hP hD
      have hP : va_P D vwCl [tT h q (nI Wi) (nI M) (nI C), tA g q N (tf f 0 (i + 1) v)] H := hP
      have hD : va_D A [tT h q (nI Wi) (nI M) (nI C), tA g q N (tf f 0 (i + 1) v)] := hD
      refine lv_iinc (v := (nI (i + 1))) (lv' := [(3, .int (nI (i + 1))), (0, .ref h), (2, .int v)]) hx hb dX6_fill_47 hl (k := 2) rfl (nI_1 i) (by decide) rfl (fun ls hl => ?_)
      refine lv_goto (tgt := 18) hx hb dX6_fill_50 (by decide) ?_
      exact ih (i + 1) (by omega) (by omega) H locs ls hP hD hS (lv_sub hl [1, 2, 0] rfl)
theorem q145 : Cond.methodLink RX6 34 Lib.Math.min.name ∈ wsL_law := mT_2 (List.mem_of_getElem? (i := 35) rfl) rfl
theorem q146 : Cond.static Lib.Math.min.name ∈ wsL_law := mT_2 (List.mem_of_getElem? (i := 36) rfl) rfl
theorem q147 : Cond.code Lib.Math.min.name Lib.Math.min.code 2 (some .int) ∈ wsL_law := mT_2 (List.mem_of_getElem? (i := 37) rfl) rfl
theorem dX6_fill_0 : decode cX6_fill 0 = .ok (.aload_n 0, 1) := by decide +kernel
theorem dX6_fill_1 : decode cX6_fill 1 = .ok (.iconst 0, 1) := by decide +kernel
theorem dX6_fill_2 : decode cX6_fill 2 = .ok (.iload_n 1, 1) := by decide +kernel
theorem dX6_fill_3 : decode cX6_fill 3 = .ok (.aload_n 0, 1) := by decide +kernel
theorem dX6_fill_4 : decode cX6_fill 4 = .ok (.getfield 15, 3) := by decide +kernel
theorem dX6_fill_7 : decode cX6_fill 7 = .ok (.invokestatic 34, 3) := by decide +kernel
theorem dX6_fill_10 : decode cX6_fill 10 = .ok (.invokestatic 9, 3) := by decide +kernel
theorem dX6_fill_13 : decode cX6_fill 13 = .ok (.putfield 28, 3) := by decide +kernel
theorem dX6_fill_16 : decode cX6_fill 16 = .ok (.iconst 0, 1) := by decide +kernel
theorem dX6_fill_17 : decode cX6_fill 17 = .ok (.istore_n 3, 1) := by decide +kernel
theorem dX6_fill_53 : decode cX6_fill 53 = .ok (.return_, 1) := by decide +kernel
set_option maxHeartbeats 4000000 in
set_option maxRecDepth 100000 in
theorem c_T_fill (l : Launch) (D : va_G) (g : Nat → ClassId) (h q sz Wi M R N : Nat) (f : Nat → Int32) (C : Nat) (v : Int32) (hC : C ≤ M) (ht : tok Wi M R N) : vz_Mv l D (tyG g) yX6_fill cX6_fill 4 1 15 0 0 [.ref h, .int (nI C), .int v] sz [tT h q (nI Wi) (nI M) (nI R), tA g q N f] (fun f1 => f1 = tf f 0 (C * Wi) v) (fun f1 => [tT h q (nI Wi) (nI M) (nI C), tA g q N f1]) := by
  obtain ⟨h1, h2, h3, h4, h5, h6⟩ := ht
  refine vz_sv (by decide) (Nat.le_of_ble_eq_true rfl) (fun p e s m args below meth c hx hb hr hml hts hown hlk hin hK hsz A hA H locs hP hD hS ls hl => ?_)
  have hl : lv_has ls 4 [(0, .ref h), (1, .int (nI C)), (2, .int v)] := hl
  have hCN : C * Wi ≤ N := by rw [h1]; exact Nat.mul_le_mul_right Wi hC
  refine lv_aload_n hx hb dX6_fill_0 rfl (lv_at hl 0 rfl) ?_
  refine lv_iconst (v := 0) hx hb dX6_fill_1 (by decide) ?_
  refine lv_iload_n hx hb dX6_fill_2 rfl (lv_at hl 1 rfl) ?_
  refine lv_aload_n hx hb dX6_fill_3 rfl (lv_at hl 0 rfl) ?_
  refine va_get (D := D) (ci := 6) (v := .int (nI M)) (C := RX6) (T := TX6) (N := 4) hx hb hts inlX6 hown hK hP 0 rfl rfl 2 (by decide) (hts _ q68) (fun _ h => h) rfl dX6_fill_4 ?_
  refine va_mmin hx hb (hml.trans hl.1.symm) hown (hts _ q145) (hts _ q146) (hts _ q66) (hts _ q147) (Nat.le_of_ble_eq_true rfl) (Nat.le_of_ble_eq_true rfl) (Nat.le_of_ble_eq_true rfl) (Nat.le_of_ble_eq_true rfl) dX6_fill_7 ?_
  refine lv_topi (nm_r (e' := nI C) (vz_min hC (by omega)) ?_)
  refine va_mmax hx hb (hml.trans hl.1.symm) hown (hts _ q64) (hts _ q65) (hts _ q66) (hts _ q67) (Nat.le_of_ble_eq_true rfl) (Nat.le_of_ble_eq_true rfl) (Nat.le_of_ble_eq_true rfl) (Nat.le_of_ble_eq_true rfl) dX6_fill_10 ?_
  refine lv_topi (nm_r (e' := nI C) (vz_max0 (by omega)) ?_)
  refine va_put (D := D) (ci := 6) (v := .int (nI C)) (ty := .int) (C := RX6) (T := TX6) (N := 4) hx hb hts inlX6 tyX6 tyX6_ok nmX6 hown hK hP hD hS 0 rfl rfl 3 (by decide) (hts _ q72) (fun _ h => h) rfl (by decide +kernel) rfl rfl (Nat.le_of_ble_eq_true rfl) dX6_fill_13 (fun H locs hP hD hS => ?_)
  have hP : va_P D vwCl [tT h q (nI Wi) (nI M) (nI C), tA g q N f] H := hP
  have hD : va_D A [tT h q (nI Wi) (nI M) (nI C), tA g q N f] := hD
  refine lv_iconst (v := 0) hx hb dX6_fill_16 (by decide) ?_
  refine lv_istore_n (lv' := [(3, .int 0), (0, .ref h), (1, .int (nI C)), (2, .int v)]) hx hb dX6_fill_17 rfl hl (by decide) rfl (fun ls hl => ?_)
  have hfe : f = tf f 0 0 v := tf_0
  rw [hfe] at hP hD
  refine lp_T_fill hx hb hown hts hK (by omega) hCN ?_ (C * Wi + 1) 0 (Nat.zero_le _) (by omega) H locs ls hP hD hS (lv_sub hl [1, 3, 0] rfl)
  intro H locs ls hP hD hS hl
  exact vz_vret hx hb hr hlk hK hP hD hS (tf f 0 (C * Wi) v) (rfl) [0, 1] rfl (by decide) (Nat.le_refl 0) (Nat.le_refl 0) dX6_fill_53
end
section
theorem q84 : Cond.methodLink RX2 3 objectInit ∈ wsL_law := mT_1 (List.mem_of_getElem? (i := 77) rfl) rfl
theorem q85 : Cond.classLink RX2 9 RX6 ∈ wsL_law := mT_1 (List.mem_of_getElem? (i := 78) rfl) rfl
theorem q14 : Cond.instantiable RX6 4 ∈ wsL_law := mT_1 (List.mem_of_getElem? (i := 27) rfl) rfl
theorem q15 : Cond.initialized RX6 ∈ wsL_law := mT_1 (List.mem_of_getElem? (i := 2) rfl) rfl
theorem q91 : Cond.methodLink RX2 11 yX6_init ∈ wsL_law := mT_1 (List.mem_of_getElem? (i := 79) rfl) rfl
theorem q61 : Cond.instanceMethod yX6_init ∈ wsL_law := mT_1 (List.mem_of_getElem? (i := 29) rfl) rfl
theorem q62 : Cond.code yX6_init cX6_init 3 none ∈ wsL_law := mT_1 (List.mem_of_getElem? (i := 30) rfl) rfl
theorem ki_X2_11 : vz_ci RX2 11 yX6_init cX6_init 3 2 := ⟨q91, q61, q15, q62, by decide +kernel⟩
theorem q86 : Cond.fieldLink RX2 14 "WaysAtlas$Program" "statements" "LWaysAtlas$Table;" ∈ wsL_law := mT_1 (List.mem_of_getElem? (i := 80) rfl) rfl
theorem q87 : Cond.fieldLink RX2 20 "WaysAtlas$Program" "nodes" "LWaysAtlas$Table;" ∈ wsL_law := mT_1 (List.mem_of_getElem? (i := 87) rfl) rfl
theorem q88 : Cond.fieldLink RX2 23 "WaysAtlas$Program" "catches" "LWaysAtlas$Table;" ∈ wsL_law := mT_1 (List.mem_of_getElem? (i := 91) rfl) rfl
theorem q89 : Cond.fieldLink RX2 26 "WaysAtlas$Program" "kinds" "LWaysAtlas$Table;" ∈ wsL_law := mT_1 (List.mem_of_getElem? (i := 96) rfl) rfl
theorem q90 : Cond.fieldLink RX2 29 "WaysAtlas$Program" "methods" "LWaysAtlas$Table;" ∈ wsL_law := mT_1 (List.mem_of_getElem? (i := 99) rfl) rfl
theorem dX2_init_0 : decode cX2_init 0 = .ok (.aload_n 0, 1) := by decide +kernel
theorem dX2_init_1 : decode cX2_init 1 = .ok (.invokespecial 3, 3) := by decide +kernel
theorem dX2_init_4 : decode cX2_init 4 = .ok (.aload_n 0, 1) := by decide +kernel
theorem dX2_init_5 : decode cX2_init 5 = .ok (.new 9, 3) := by decide +kernel
theorem dX2_init_8 : decode cX2_init 8 = .ok (.dup, 1) := by decide +kernel
theorem dX2_init_9 : decode cX2_init 9 = .ok (.bipush 80, 2) := by decide +kernel
theorem dX2_init_11 : decode cX2_init 11 = .ok (.bipush 12, 2) := by decide +kernel
theorem dX2_init_13 : decode cX2_init 13 = .ok (.invokespecial 11, 3) := by decide +kernel
theorem dX2_init_16 : decode cX2_init 16 = .ok (.putfield 14, 3) := by decide +kernel
theorem dX2_init_19 : decode cX2_init 19 = .ok (.aload_n 0, 1) := by decide +kernel
theorem dX2_init_20 : decode cX2_init 20 = .ok (.new 9, 3) := by decide +kernel
theorem dX2_init_23 : decode cX2_init 23 = .ok (.dup, 1) := by decide +kernel
theorem dX2_init_24 : decode cX2_init 24 = .ok (.sipush 1000, 3) := by decide +kernel
theorem dX2_init_27 : decode cX2_init 27 = .ok (.iconst 5, 1) := by decide +kernel
theorem dX2_init_28 : decode cX2_init 28 = .ok (.invokespecial 11, 3) := by decide +kernel
theorem dX2_init_31 : decode cX2_init 31 = .ok (.putfield 20, 3) := by decide +kernel
theorem dX2_init_34 : decode cX2_init 34 = .ok (.aload_n 0, 1) := by decide +kernel
theorem dX2_init_35 : decode cX2_init 35 = .ok (.new 9, 3) := by decide +kernel
theorem dX2_init_38 : decode cX2_init 38 = .ok (.dup, 1) := by decide +kernel
theorem dX2_init_39 : decode cX2_init 39 = .ok (.bipush 112, 2) := by decide +kernel
theorem dX2_init_41 : decode cX2_init 41 = .ok (.iconst 5, 1) := by decide +kernel
theorem dX2_init_42 : decode cX2_init 42 = .ok (.invokespecial 11, 3) := by decide +kernel
theorem dX2_init_45 : decode cX2_init 45 = .ok (.putfield 23, 3) := by decide +kernel
theorem dX2_init_48 : decode cX2_init 48 = .ok (.aload_n 0, 1) := by decide +kernel
theorem dX2_init_49 : decode cX2_init 49 = .ok (.new 9, 3) := by decide +kernel
theorem dX2_init_52 : decode cX2_init 52 = .ok (.dup, 1) := by decide +kernel
theorem dX2_init_53 : decode cX2_init 53 = .ok (.bipush 16, 2) := by decide +kernel
theorem dX2_init_55 : decode cX2_init 55 = .ok (.iconst 1, 1) := by decide +kernel
theorem dX2_init_56 : decode cX2_init 56 = .ok (.invokespecial 11, 3) := by decide +kernel
theorem dX2_init_59 : decode cX2_init 59 = .ok (.putfield 26, 3) := by decide +kernel
theorem dX2_init_62 : decode cX2_init 62 = .ok (.aload_n 0, 1) := by decide +kernel
theorem dX2_init_63 : decode cX2_init 63 = .ok (.new 9, 3) := by decide +kernel
theorem dX2_init_66 : decode cX2_init 66 = .ok (.dup, 1) := by decide +kernel
theorem dX2_init_67 : decode cX2_init 67 = .ok (.bipush 8, 2) := by decide +kernel
theorem dX2_init_69 : decode cX2_init 69 = .ok (.iconst 2, 1) := by decide +kernel
theorem dX2_init_70 : decode cX2_init 70 = .ok (.invokespecial 11, 3) := by decide +kernel
theorem dX2_init_73 : decode cX2_init 73 = .ok (.putfield 29, 3) := by decide +kernel
theorem dX2_init_76 : decode cX2_init 76 = .ok (.return_, 1) := by decide +kernel
set_option maxHeartbeats 4000000 in
set_option maxRecDepth 100000 in
theorem c_P_init (l : Launch) (D : va_G) (g : Nat → ClassId) (h sz : Nat) : vz_Mv l D (tyG g) yX2_init cX2_init 1 2 40 10 6572 [.ref h] sz [(h, .inr (2, [.null, .null, .null, .null, .null]))] (fun _ : Nat → Nat => True) (fun a => [(h, .inr (2, [.ref (a 0), .ref (a 2), .ref (a 4), .ref (a 6), .ref (a 8)])), tT (a 0) (a 1) (nI 12) (nI 80) 0, tA g (a 1) 960 (fun _ => 0), tT (a 2) (a 3) (nI 5) (nI 1000) 0, tA g (a 3) 5000 (fun _ => 0), tT (a 4) (a 5) (nI 5) (nI 112) 0, tA g (a 5) 560 (fun _ => 0), tT (a 6) (a 7) (nI 1) (nI 16) 0, tA g (a 7) 16 (fun _ => 0), tT (a 8) (a 9) (nI 2) (nI 8) 0, tA g (a 9) 16 (fun _ => 0)]) := by
  refine vz_sv (by decide) (Nat.le_of_ble_eq_true rfl) (fun p e s m args below meth c hx hb hr hml hts hown hlk hin hK hsz A hA H locs hP hD hS ls hl => ?_)
  have hl : lv_has ls 1 [(0, .ref h)] := hl
  refine lv_aload_n hx hb dX2_init_0 rfl (lv_at hl 0 rfl) ?_
  refine W.objInit hx hb hown (hts _ q84) (hts _ q11) (hts _ q12) rfl (hl.1.trans hml.symm) rfl dX2_init_1 (Nat.le_of_ble_eq_true rfl) (Nat.le_of_ble_eq_true rfl) ?_
  refine W.eq (g2 := F0 m 4 ls []) rfl ?_
  refine lv_aload_n hx hb dX2_init_4 rfl (lv_at hl 0 rfl) ?_
  refine va_new (ci := 6) (fs := [.null, .int 0, .int 0, .int 0]) (C := RX6) (T := TX6) (N := 4) hx hb hts inlX6 tyX6 tyX6_ok hown (hts _ q85) (hts _ q14) (hts _ q15) hK hP hD hS hA rfl (lt_s (lt_s (lt_s (lt_s (lt_0) rfl) rfl) rfl) rfl) (Nat.le_of_ble_eq_true rfl) (Nat.le_of_ble_eq_true rfl) dX2_init_5 (fun qq1 H hP hD hS => ?_)
  refine W.cs (cells' := 1) (slots' := 4) rfl rfl ?_
  have hP : va_P D vwCl [(h, .inr (2, [.null, .null, .null, .null, .null])), (qq1, .inr (6, [.null, .int 0, .int 0, .int 0]))] H := hP
  have hD : va_D A [(h, .inr (2, [.null, .null, .null, .null, .null])), (qq1, .inr (6, [.null, .int 0, .int 0, .int 0]))] := hD
  refine lv_dup hx hb dX2_init_8 rfl ?_
  refine lv_bipush (v := 80) hx hb dX2_init_9 (by decide) ?_
  refine lv_bipush (v := 12) hx hb dX2_init_11 (by decide) ?_
  refine vz_Iv (wr := [(h, .inr (2, [.null, .null, .null, .null, .null]))]) (As := [.int 80, .int 12]) (rest := [.ref qq1, .ref h]) hx hb hml hown hts hK hA hP hD hS (c_T_init l D g qq1 H.size 12 80 960 (by decide +kernel)) ki_X2_11 (⟨Nat.le_of_ble_eq_true rfl, Nat.le_of_ble_eq_true rfl⟩) [1] [0] rfl rfl (by decide) hl.1 (Nat.le_of_ble_eq_true rfl) dX2_init_13 (⟨Nat.le_of_ble_eq_true rfl, Nat.le_of_ble_eq_true rfl⟩) rfl (fun aq2 H locs _ _ hP hD hS => ?_)
  refine W.cs (cells' := 2) (slots' := 964) rfl rfl ?_
  have hP : va_P D vwCl [(h, .inr (2, [.null, .null, .null, .null, .null])), tT qq1 aq2 (nI 12) (nI 80) 0, tA g aq2 960 (fun _ => 0)] H := hP
  have hD : va_D A [(h, .inr (2, [.null, .null, .null, .null, .null])), tT qq1 aq2 (nI 12) (nI 80) 0, tA g aq2 960 (fun _ => 0)] := hD
  refine va_putF (D := D) (ci := 2) (v := .ref qq1) (ty := .object "WaysAtlas$Table") (C := RX2) (T := TX2) (N := 5) hx hb hts inlX2 tyX2 tyX2_ok nmX2 hown hK hP hD hS 0 rfl rfl 0 (by decide) (hts _ q86) (fun _ h => h) rfl hin rfl (by decide +kernel) rfl rfl (Nat.le_of_ble_eq_true rfl) dX2_init_16 (fun H locs hP hD hS => ?_)
  have hP : va_P D vwCl [(h, .inr (2, [.ref qq1, .null, .null, .null, .null])), tT qq1 aq2 (nI 12) (nI 80) 0, tA g aq2 960 (fun _ => 0)] H := hP
  have hD : va_D A [(h, .inr (2, [.ref qq1, .null, .null, .null, .null])), tT qq1 aq2 (nI 12) (nI 80) 0, tA g aq2 960 (fun _ => 0)] := hD
  refine lv_aload_n hx hb dX2_init_19 rfl (lv_at hl 0 rfl) ?_
  refine va_new (ci := 6) (fs := [.null, .int 0, .int 0, .int 0]) (C := RX6) (T := TX6) (N := 4) hx hb hts inlX6 tyX6 tyX6_ok hown (hts _ q85) (hts _ q14) (hts _ q15) hK hP hD hS hA rfl (lt_s (lt_s (lt_s (lt_s (lt_0) rfl) rfl) rfl) rfl) (Nat.le_of_ble_eq_true rfl) (Nat.le_of_ble_eq_true rfl) dX2_init_20 (fun qq3 H hP hD hS => ?_)
  refine W.cs (cells' := 3) (slots' := 968) rfl rfl ?_
  have hP : va_P D vwCl [(h, .inr (2, [.ref qq1, .null, .null, .null, .null])), tT qq1 aq2 (nI 12) (nI 80) 0, tA g aq2 960 (fun _ => 0), (qq3, .inr (6, [.null, .int 0, .int 0, .int 0]))] H := hP
  have hD : va_D A [(h, .inr (2, [.ref qq1, .null, .null, .null, .null])), tT qq1 aq2 (nI 12) (nI 80) 0, tA g aq2 960 (fun _ => 0), (qq3, .inr (6, [.null, .int 0, .int 0, .int 0]))] := hD
  refine lv_dup hx hb dX2_init_23 rfl ?_
  refine lv_sipush (v := 1000) hx hb dX2_init_24 (by decide) ?_
  refine lv_iconst (v := 5) hx hb dX2_init_27 (by decide) ?_
  refine vz_Iv (wr := [(h, .inr (2, [.ref qq1, .null, .null, .null, .null])), tT qq1 aq2 (nI 12) (nI 80) 0, tA g aq2 960 (fun _ => 0)]) (As := [.int 1000, .int 5]) (rest := [.ref qq3, .ref h]) hx hb hml hown hts hK hA hP hD hS (c_T_init l D g qq3 H.size 5 1000 5000 (by decide +kernel)) ki_X2_11 (⟨Nat.le_of_ble_eq_true rfl, Nat.le_of_ble_eq_true rfl⟩) [3] [0, 1, 2] rfl rfl (by decide) hl.1 (Nat.le_of_ble_eq_true rfl) dX2_init_28 (⟨Nat.le_of_ble_eq_true rfl, Nat.le_of_ble_eq_true rfl⟩) rfl (fun aq4 H locs _ _ hP hD hS => ?_)
  refine W.cs (cells' := 4) (slots' := 5968) rfl rfl ?_
  have hP : va_P D vwCl [(h, .inr (2, [.ref qq1, .null, .null, .null, .null])), tT qq1 aq2 (nI 12) (nI 80) 0, tA g aq2 960 (fun _ => 0), tT qq3 aq4 (nI 5) (nI 1000) 0, tA g aq4 5000 (fun _ => 0)] H := hP
  have hD : va_D A [(h, .inr (2, [.ref qq1, .null, .null, .null, .null])), tT qq1 aq2 (nI 12) (nI 80) 0, tA g aq2 960 (fun _ => 0), tT qq3 aq4 (nI 5) (nI 1000) 0, tA g aq4 5000 (fun _ => 0)] := hD
  refine va_putF (D := D) (ci := 2) (v := .ref qq3) (ty := .object "WaysAtlas$Table") (C := RX2) (T := TX2) (N := 5) hx hb hts inlX2 tyX2 tyX2_ok nmX2 hown hK hP hD hS 0 rfl rfl 1 (by decide) (hts _ q87) (fun _ h => h) rfl hin rfl (by decide +kernel) rfl rfl (Nat.le_of_ble_eq_true rfl) dX2_init_31 (fun H locs hP hD hS => ?_)
  have hP : va_P D vwCl [(h, .inr (2, [.ref qq1, .ref qq3, .null, .null, .null])), tT qq1 aq2 (nI 12) (nI 80) 0, tA g aq2 960 (fun _ => 0), tT qq3 aq4 (nI 5) (nI 1000) 0, tA g aq4 5000 (fun _ => 0)] H := hP
  have hD : va_D A [(h, .inr (2, [.ref qq1, .ref qq3, .null, .null, .null])), tT qq1 aq2 (nI 12) (nI 80) 0, tA g aq2 960 (fun _ => 0), tT qq3 aq4 (nI 5) (nI 1000) 0, tA g aq4 5000 (fun _ => 0)] := hD
  refine lv_aload_n hx hb dX2_init_34 rfl (lv_at hl 0 rfl) ?_
  refine va_new (ci := 6) (fs := [.null, .int 0, .int 0, .int 0]) (C := RX6) (T := TX6) (N := 4) hx hb hts inlX6 tyX6 tyX6_ok hown (hts _ q85) (hts _ q14) (hts _ q15) hK hP hD hS hA rfl (lt_s (lt_s (lt_s (lt_s (lt_0) rfl) rfl) rfl) rfl) (Nat.le_of_ble_eq_true rfl) (Nat.le_of_ble_eq_true rfl) dX2_init_35 (fun qq5 H hP hD hS => ?_)
  refine W.cs (cells' := 5) (slots' := 5972) rfl rfl ?_
  have hP : va_P D vwCl [(h, .inr (2, [.ref qq1, .ref qq3, .null, .null, .null])), tT qq1 aq2 (nI 12) (nI 80) 0, tA g aq2 960 (fun _ => 0), tT qq3 aq4 (nI 5) (nI 1000) 0, tA g aq4 5000 (fun _ => 0), (qq5, .inr (6, [.null, .int 0, .int 0, .int 0]))] H := hP
  have hD : va_D A [(h, .inr (2, [.ref qq1, .ref qq3, .null, .null, .null])), tT qq1 aq2 (nI 12) (nI 80) 0, tA g aq2 960 (fun _ => 0), tT qq3 aq4 (nI 5) (nI 1000) 0, tA g aq4 5000 (fun _ => 0), (qq5, .inr (6, [.null, .int 0, .int 0, .int 0]))] := hD
  refine lv_dup hx hb dX2_init_38 rfl ?_
  refine lv_bipush (v := 112) hx hb dX2_init_39 (by decide) ?_
  refine lv_iconst (v := 5) hx hb dX2_init_41 (by decide) ?_
  refine vz_Iv (wr := [(h, .inr (2, [.ref qq1, .ref qq3, .null, .null, .null])), tT qq1 aq2 (nI 12) (nI 80) 0, tA g aq2 960 (fun _ => 0), tT qq3 aq4 (nI 5) (nI 1000) 0, tA g aq4 5000 (fun _ => 0)]) (As := [.int 112, .int 5]) (rest := [.ref qq5, .ref h]) hx hb hml hown hts hK hA hP hD hS (c_T_init l D g qq5 H.size 5 112 560 (by decide +kernel)) ki_X2_11 (⟨Nat.le_of_ble_eq_true rfl, Nat.le_of_ble_eq_true rfl⟩) [5] [0, 1, 2, 3, 4] rfl rfl (by decide) hl.1 (Nat.le_of_ble_eq_true rfl) dX2_init_42 (⟨Nat.le_of_ble_eq_true rfl, Nat.le_of_ble_eq_true rfl⟩) rfl (fun aq6 H locs _ _ hP hD hS => ?_)
  refine W.cs (cells' := 6) (slots' := 6532) rfl rfl ?_
  have hP : va_P D vwCl [(h, .inr (2, [.ref qq1, .ref qq3, .null, .null, .null])), tT qq1 aq2 (nI 12) (nI 80) 0, tA g aq2 960 (fun _ => 0), tT qq3 aq4 (nI 5) (nI 1000) 0, tA g aq4 5000 (fun _ => 0), tT qq5 aq6 (nI 5) (nI 112) 0, tA g aq6 560 (fun _ => 0)] H := hP
  have hD : va_D A [(h, .inr (2, [.ref qq1, .ref qq3, .null, .null, .null])), tT qq1 aq2 (nI 12) (nI 80) 0, tA g aq2 960 (fun _ => 0), tT qq3 aq4 (nI 5) (nI 1000) 0, tA g aq4 5000 (fun _ => 0), tT qq5 aq6 (nI 5) (nI 112) 0, tA g aq6 560 (fun _ => 0)] := hD
  refine va_putF (D := D) (ci := 2) (v := .ref qq5) (ty := .object "WaysAtlas$Table") (C := RX2) (T := TX2) (N := 5) hx hb hts inlX2 tyX2 tyX2_ok nmX2 hown hK hP hD hS 0 rfl rfl 2 (by decide) (hts _ q88) (fun _ h => h) rfl hin rfl (by decide +kernel) rfl rfl (Nat.le_of_ble_eq_true rfl) dX2_init_45 (fun H locs hP hD hS => ?_)
  have hP : va_P D vwCl [(h, .inr (2, [.ref qq1, .ref qq3, .ref qq5, .null, .null])), tT qq1 aq2 (nI 12) (nI 80) 0, tA g aq2 960 (fun _ => 0), tT qq3 aq4 (nI 5) (nI 1000) 0, tA g aq4 5000 (fun _ => 0), tT qq5 aq6 (nI 5) (nI 112) 0, tA g aq6 560 (fun _ => 0)] H := hP
  have hD : va_D A [(h, .inr (2, [.ref qq1, .ref qq3, .ref qq5, .null, .null])), tT qq1 aq2 (nI 12) (nI 80) 0, tA g aq2 960 (fun _ => 0), tT qq3 aq4 (nI 5) (nI 1000) 0, tA g aq4 5000 (fun _ => 0), tT qq5 aq6 (nI 5) (nI 112) 0, tA g aq6 560 (fun _ => 0)] := hD
  refine lv_aload_n hx hb dX2_init_48 rfl (lv_at hl 0 rfl) ?_
  refine va_new (ci := 6) (fs := [.null, .int 0, .int 0, .int 0]) (C := RX6) (T := TX6) (N := 4) hx hb hts inlX6 tyX6 tyX6_ok hown (hts _ q85) (hts _ q14) (hts _ q15) hK hP hD hS hA rfl (lt_s (lt_s (lt_s (lt_s (lt_0) rfl) rfl) rfl) rfl) (Nat.le_of_ble_eq_true rfl) (Nat.le_of_ble_eq_true rfl) dX2_init_49 (fun qq7 H hP hD hS => ?_)
  refine W.cs (cells' := 7) (slots' := 6536) rfl rfl ?_
  have hP : va_P D vwCl [(h, .inr (2, [.ref qq1, .ref qq3, .ref qq5, .null, .null])), tT qq1 aq2 (nI 12) (nI 80) 0, tA g aq2 960 (fun _ => 0), tT qq3 aq4 (nI 5) (nI 1000) 0, tA g aq4 5000 (fun _ => 0), tT qq5 aq6 (nI 5) (nI 112) 0, tA g aq6 560 (fun _ => 0), (qq7, .inr (6, [.null, .int 0, .int 0, .int 0]))] H := hP
  have hD : va_D A [(h, .inr (2, [.ref qq1, .ref qq3, .ref qq5, .null, .null])), tT qq1 aq2 (nI 12) (nI 80) 0, tA g aq2 960 (fun _ => 0), tT qq3 aq4 (nI 5) (nI 1000) 0, tA g aq4 5000 (fun _ => 0), tT qq5 aq6 (nI 5) (nI 112) 0, tA g aq6 560 (fun _ => 0), (qq7, .inr (6, [.null, .int 0, .int 0, .int 0]))] := hD
  refine lv_dup hx hb dX2_init_52 rfl ?_
  refine lv_bipush (v := 16) hx hb dX2_init_53 (by decide) ?_
  refine lv_iconst (v := 1) hx hb dX2_init_55 (by decide) ?_
  refine vz_Iv (wr := [(h, .inr (2, [.ref qq1, .ref qq3, .ref qq5, .null, .null])), tT qq1 aq2 (nI 12) (nI 80) 0, tA g aq2 960 (fun _ => 0), tT qq3 aq4 (nI 5) (nI 1000) 0, tA g aq4 5000 (fun _ => 0), tT qq5 aq6 (nI 5) (nI 112) 0, tA g aq6 560 (fun _ => 0)]) (As := [.int 16, .int 1]) (rest := [.ref qq7, .ref h]) hx hb hml hown hts hK hA hP hD hS (c_T_init l D g qq7 H.size 1 16 16 (by decide +kernel)) ki_X2_11 (⟨Nat.le_of_ble_eq_true rfl, Nat.le_of_ble_eq_true rfl⟩) [7] [0, 1, 2, 3, 4, 5, 6] rfl rfl (by decide) hl.1 (Nat.le_of_ble_eq_true rfl) dX2_init_56 (⟨Nat.le_of_ble_eq_true rfl, Nat.le_of_ble_eq_true rfl⟩) rfl (fun aq8 H locs _ _ hP hD hS => ?_)
  refine W.cs (cells' := 8) (slots' := 6552) rfl rfl ?_
  have hP : va_P D vwCl [(h, .inr (2, [.ref qq1, .ref qq3, .ref qq5, .null, .null])), tT qq1 aq2 (nI 12) (nI 80) 0, tA g aq2 960 (fun _ => 0), tT qq3 aq4 (nI 5) (nI 1000) 0, tA g aq4 5000 (fun _ => 0), tT qq5 aq6 (nI 5) (nI 112) 0, tA g aq6 560 (fun _ => 0), tT qq7 aq8 (nI 1) (nI 16) 0, tA g aq8 16 (fun _ => 0)] H := hP
  have hD : va_D A [(h, .inr (2, [.ref qq1, .ref qq3, .ref qq5, .null, .null])), tT qq1 aq2 (nI 12) (nI 80) 0, tA g aq2 960 (fun _ => 0), tT qq3 aq4 (nI 5) (nI 1000) 0, tA g aq4 5000 (fun _ => 0), tT qq5 aq6 (nI 5) (nI 112) 0, tA g aq6 560 (fun _ => 0), tT qq7 aq8 (nI 1) (nI 16) 0, tA g aq8 16 (fun _ => 0)] := hD
  refine va_putF (D := D) (ci := 2) (v := .ref qq7) (ty := .object "WaysAtlas$Table") (C := RX2) (T := TX2) (N := 5) hx hb hts inlX2 tyX2 tyX2_ok nmX2 hown hK hP hD hS 0 rfl rfl 3 (by decide) (hts _ q89) (fun _ h => h) rfl hin rfl (by decide +kernel) rfl rfl (Nat.le_of_ble_eq_true rfl) dX2_init_59 (fun H locs hP hD hS => ?_)
  have hP : va_P D vwCl [(h, .inr (2, [.ref qq1, .ref qq3, .ref qq5, .ref qq7, .null])), tT qq1 aq2 (nI 12) (nI 80) 0, tA g aq2 960 (fun _ => 0), tT qq3 aq4 (nI 5) (nI 1000) 0, tA g aq4 5000 (fun _ => 0), tT qq5 aq6 (nI 5) (nI 112) 0, tA g aq6 560 (fun _ => 0), tT qq7 aq8 (nI 1) (nI 16) 0, tA g aq8 16 (fun _ => 0)] H := hP
  have hD : va_D A [(h, .inr (2, [.ref qq1, .ref qq3, .ref qq5, .ref qq7, .null])), tT qq1 aq2 (nI 12) (nI 80) 0, tA g aq2 960 (fun _ => 0), tT qq3 aq4 (nI 5) (nI 1000) 0, tA g aq4 5000 (fun _ => 0), tT qq5 aq6 (nI 5) (nI 112) 0, tA g aq6 560 (fun _ => 0), tT qq7 aq8 (nI 1) (nI 16) 0, tA g aq8 16 (fun _ => 0)] := hD
  refine lv_aload_n hx hb dX2_init_62 rfl (lv_at hl 0 rfl) ?_
  refine va_new (ci := 6) (fs := [.null, .int 0, .int 0, .int 0]) (C := RX6) (T := TX6) (N := 4) hx hb hts inlX6 tyX6 tyX6_ok hown (hts _ q85) (hts _ q14) (hts _ q15) hK hP hD hS hA rfl (lt_s (lt_s (lt_s (lt_s (lt_0) rfl) rfl) rfl) rfl) (Nat.le_of_ble_eq_true rfl) (Nat.le_of_ble_eq_true rfl) dX2_init_63 (fun qq9 H hP hD hS => ?_)
  refine W.cs (cells' := 9) (slots' := 6556) rfl rfl ?_
  have hP : va_P D vwCl [(h, .inr (2, [.ref qq1, .ref qq3, .ref qq5, .ref qq7, .null])), tT qq1 aq2 (nI 12) (nI 80) 0, tA g aq2 960 (fun _ => 0), tT qq3 aq4 (nI 5) (nI 1000) 0, tA g aq4 5000 (fun _ => 0), tT qq5 aq6 (nI 5) (nI 112) 0, tA g aq6 560 (fun _ => 0), tT qq7 aq8 (nI 1) (nI 16) 0, tA g aq8 16 (fun _ => 0), (qq9, .inr (6, [.null, .int 0, .int 0, .int 0]))] H := hP
  have hD : va_D A [(h, .inr (2, [.ref qq1, .ref qq3, .ref qq5, .ref qq7, .null])), tT qq1 aq2 (nI 12) (nI 80) 0, tA g aq2 960 (fun _ => 0), tT qq3 aq4 (nI 5) (nI 1000) 0, tA g aq4 5000 (fun _ => 0), tT qq5 aq6 (nI 5) (nI 112) 0, tA g aq6 560 (fun _ => 0), tT qq7 aq8 (nI 1) (nI 16) 0, tA g aq8 16 (fun _ => 0), (qq9, .inr (6, [.null, .int 0, .int 0, .int 0]))] := hD
  refine lv_dup hx hb dX2_init_66 rfl ?_
  refine lv_bipush (v := 8) hx hb dX2_init_67 (by decide) ?_
  refine lv_iconst (v := 2) hx hb dX2_init_69 (by decide) ?_
  refine vz_Iv (wr := [(h, .inr (2, [.ref qq1, .ref qq3, .ref qq5, .ref qq7, .null])), tT qq1 aq2 (nI 12) (nI 80) 0, tA g aq2 960 (fun _ => 0), tT qq3 aq4 (nI 5) (nI 1000) 0, tA g aq4 5000 (fun _ => 0), tT qq5 aq6 (nI 5) (nI 112) 0, tA g aq6 560 (fun _ => 0), tT qq7 aq8 (nI 1) (nI 16) 0, tA g aq8 16 (fun _ => 0)]) (As := [.int 8, .int 2]) (rest := [.ref qq9, .ref h]) hx hb hml hown hts hK hA hP hD hS (c_T_init l D g qq9 H.size 2 8 16 (by decide +kernel)) ki_X2_11 (⟨Nat.le_of_ble_eq_true rfl, Nat.le_of_ble_eq_true rfl⟩) [9] [0, 1, 2, 3, 4, 5, 6, 7, 8] rfl rfl (by decide) hl.1 (Nat.le_of_ble_eq_true rfl) dX2_init_70 (⟨Nat.le_of_ble_eq_true rfl, Nat.le_of_ble_eq_true rfl⟩) rfl (fun aq10 H locs _ _ hP hD hS => ?_)
  refine W.cs (cells' := 10) (slots' := 6572) rfl rfl ?_
  have hP : va_P D vwCl [(h, .inr (2, [.ref qq1, .ref qq3, .ref qq5, .ref qq7, .null])), tT qq1 aq2 (nI 12) (nI 80) 0, tA g aq2 960 (fun _ => 0), tT qq3 aq4 (nI 5) (nI 1000) 0, tA g aq4 5000 (fun _ => 0), tT qq5 aq6 (nI 5) (nI 112) 0, tA g aq6 560 (fun _ => 0), tT qq7 aq8 (nI 1) (nI 16) 0, tA g aq8 16 (fun _ => 0), tT qq9 aq10 (nI 2) (nI 8) 0, tA g aq10 16 (fun _ => 0)] H := hP
  have hD : va_D A [(h, .inr (2, [.ref qq1, .ref qq3, .ref qq5, .ref qq7, .null])), tT qq1 aq2 (nI 12) (nI 80) 0, tA g aq2 960 (fun _ => 0), tT qq3 aq4 (nI 5) (nI 1000) 0, tA g aq4 5000 (fun _ => 0), tT qq5 aq6 (nI 5) (nI 112) 0, tA g aq6 560 (fun _ => 0), tT qq7 aq8 (nI 1) (nI 16) 0, tA g aq8 16 (fun _ => 0), tT qq9 aq10 (nI 2) (nI 8) 0, tA g aq10 16 (fun _ => 0)] := hD
  refine va_putF (D := D) (ci := 2) (v := .ref qq9) (ty := .object "WaysAtlas$Table") (C := RX2) (T := TX2) (N := 5) hx hb hts inlX2 tyX2 tyX2_ok nmX2 hown hK hP hD hS 0 rfl rfl 4 (by decide) (hts _ q90) (fun _ h => h) rfl hin rfl (by decide +kernel) rfl rfl (Nat.le_of_ble_eq_true rfl) dX2_init_73 (fun H locs hP hD hS => ?_)
  have hP : va_P D vwCl [(h, .inr (2, [.ref qq1, .ref qq3, .ref qq5, .ref qq7, .ref qq9])), tT qq1 aq2 (nI 12) (nI 80) 0, tA g aq2 960 (fun _ => 0), tT qq3 aq4 (nI 5) (nI 1000) 0, tA g aq4 5000 (fun _ => 0), tT qq5 aq6 (nI 5) (nI 112) 0, tA g aq6 560 (fun _ => 0), tT qq7 aq8 (nI 1) (nI 16) 0, tA g aq8 16 (fun _ => 0), tT qq9 aq10 (nI 2) (nI 8) 0, tA g aq10 16 (fun _ => 0)] H := hP
  have hD : va_D A [(h, .inr (2, [.ref qq1, .ref qq3, .ref qq5, .ref qq7, .ref qq9])), tT qq1 aq2 (nI 12) (nI 80) 0, tA g aq2 960 (fun _ => 0), tT qq3 aq4 (nI 5) (nI 1000) 0, tA g aq4 5000 (fun _ => 0), tT qq5 aq6 (nI 5) (nI 112) 0, tA g aq6 560 (fun _ => 0), tT qq7 aq8 (nI 1) (nI 16) 0, tA g aq8 16 (fun _ => 0), tT qq9 aq10 (nI 2) (nI 8) 0, tA g aq10 16 (fun _ => 0)] := hD
  exact vz_vret hx hb hr hlk hK hP hD hS (fun k => [qq1, aq2, qq3, aq4, qq5, aq6, qq7, aq8, qq9, aq10].getD k 0) (trivial) [0, 1, 2, 3, 4, 5, 6, 7, 8, 9, 10] rfl (by decide) (Nat.le_of_ble_eq_true rfl) (Nat.le_of_ble_eq_true rfl) dX2_init_76
theorem q117 : Cond.methodLink RX4 3 objectInit ∈ wsL_law := mT_1 (List.mem_of_getElem? (i := 203) rfl) rfl
theorem q118 : Cond.classLink RX4 9 RX6 ∈ wsL_law := mT_1 (List.mem_of_getElem? (i := 204) rfl) rfl
theorem q125 : Cond.methodLink RX4 11 yX6_init ∈ wsL_law := mT_1 (List.mem_of_getElem? (i := 205) rfl) rfl
theorem ki_X4_11 : vz_ci RX4 11 yX6_init cX6_init 3 2 := ⟨q125, q61, q15, q62, by decide +kernel⟩
theorem q119 : Cond.fieldLink RX4 14 "WaysAtlas$RunRecord" "tape" "LWaysAtlas$Table;" ∈ wsL_law := mT_1 (List.mem_of_getElem? (i := 206) rfl) rfl
theorem q120 : Cond.fieldLink RX4 20 "WaysAtlas$RunRecord" "failures" "LWaysAtlas$Table;" ∈ wsL_law := mT_1 (List.mem_of_getElem? (i := 209) rfl) rfl
theorem q121 : Cond.fieldLink RX4 23 "WaysAtlas$RunRecord" "activations" "LWaysAtlas$Table;" ∈ wsL_law := mT_1 (List.mem_of_getElem? (i := 212) rfl) rfl
theorem q122 : Cond.fieldLink RX4 26 "WaysAtlas$RunRecord" "closings" "LWaysAtlas$Table;" ∈ wsL_law := mT_1 (List.mem_of_getElem? (i := 214) rfl) rfl
theorem q123 : Cond.fieldLink RX4 29 "WaysAtlas$RunRecord" "entries" "LWaysAtlas$Table;" ∈ wsL_law := mT_1 (List.mem_of_getElem? (i := 217) rfl) rfl
theorem q124 : Cond.fieldLink RX4 32 "WaysAtlas$RunRecord" "ended" "I" ∈ wsL_law := mT_1 (List.mem_of_getElem? (i := 220) rfl) rfl
theorem dX4_init_0 : decode cX4_init 0 = .ok (.aload_n 0, 1) := by decide +kernel
theorem dX4_init_1 : decode cX4_init 1 = .ok (.invokespecial 3, 3) := by decide +kernel
theorem dX4_init_4 : decode cX4_init 4 = .ok (.aload_n 0, 1) := by decide +kernel
theorem dX4_init_5 : decode cX4_init 5 = .ok (.new 9, 3) := by decide +kernel
theorem dX4_init_8 : decode cX4_init 8 = .ok (.dup, 1) := by decide +kernel
theorem dX4_init_9 : decode cX4_init 9 = .ok (.sipush 400, 3) := by decide +kernel
theorem dX4_init_12 : decode cX4_init 12 = .ok (.iconst 1, 1) := by decide +kernel
theorem dX4_init_13 : decode cX4_init 13 = .ok (.invokespecial 11, 3) := by decide +kernel
theorem dX4_init_16 : decode cX4_init 16 = .ok (.putfield 14, 3) := by decide +kernel
theorem dX4_init_19 : decode cX4_init 19 = .ok (.aload_n 0, 1) := by decide +kernel
theorem dX4_init_20 : decode cX4_init 20 = .ok (.new 9, 3) := by decide +kernel
theorem dX4_init_23 : decode cX4_init 23 = .ok (.dup, 1) := by decide +kernel
theorem dX4_init_24 : decode cX4_init 24 = .ok (.sipush 400, 3) := by decide +kernel
theorem dX4_init_27 : decode cX4_init 27 = .ok (.bipush 7, 2) := by decide +kernel
theorem dX4_init_29 : decode cX4_init 29 = .ok (.invokespecial 11, 3) := by decide +kernel
theorem dX4_init_32 : decode cX4_init 32 = .ok (.putfield 20, 3) := by decide +kernel
theorem dX4_init_35 : decode cX4_init 35 = .ok (.aload_n 0, 1) := by decide +kernel
theorem dX4_init_36 : decode cX4_init 36 = .ok (.new 9, 3) := by decide +kernel
theorem dX4_init_39 : decode cX4_init 39 = .ok (.dup, 1) := by decide +kernel
theorem dX4_init_40 : decode cX4_init 40 = .ok (.sipush 401, 3) := by decide +kernel
theorem dX4_init_43 : decode cX4_init 43 = .ok (.iconst 3, 1) := by decide +kernel
theorem dX4_init_44 : decode cX4_init 44 = .ok (.invokespecial 11, 3) := by decide +kernel
theorem dX4_init_47 : decode cX4_init 47 = .ok (.putfield 23, 3) := by decide +kernel
theorem dX4_init_50 : decode cX4_init 50 = .ok (.aload_n 0, 1) := by decide +kernel
theorem dX4_init_51 : decode cX4_init 51 = .ok (.new 9, 3) := by decide +kernel
theorem dX4_init_54 : decode cX4_init 54 = .ok (.dup, 1) := by decide +kernel
theorem dX4_init_55 : decode cX4_init 55 = .ok (.sipush 400, 3) := by decide +kernel
theorem dX4_init_58 : decode cX4_init 58 = .ok (.iconst 1, 1) := by decide +kernel
theorem dX4_init_59 : decode cX4_init 59 = .ok (.invokespecial 11, 3) := by decide +kernel
theorem dX4_init_62 : decode cX4_init 62 = .ok (.putfield 26, 3) := by decide +kernel
theorem dX4_init_65 : decode cX4_init 65 = .ok (.aload_n 0, 1) := by decide +kernel
theorem dX4_init_66 : decode cX4_init 66 = .ok (.new 9, 3) := by decide +kernel
theorem dX4_init_69 : decode cX4_init 69 = .ok (.dup, 1) := by decide +kernel
theorem dX4_init_70 : decode cX4_init 70 = .ok (.bipush 80, 2) := by decide +kernel
theorem dX4_init_72 : decode cX4_init 72 = .ok (.iconst 1, 1) := by decide +kernel
theorem dX4_init_73 : decode cX4_init 73 = .ok (.invokespecial 11, 3) := by decide +kernel
theorem dX4_init_76 : decode cX4_init 76 = .ok (.putfield 29, 3) := by decide +kernel
theorem dX4_init_79 : decode cX4_init 79 = .ok (.aload_n 0, 1) := by decide +kernel
theorem dX4_init_80 : decode cX4_init 80 = .ok (.bipush (-9), 2) := by decide +kernel
theorem dX4_init_82 : decode cX4_init 82 = .ok (.putfield 32, 3) := by decide +kernel
theorem dX4_init_85 : decode cX4_init 85 = .ok (.return_, 1) := by decide +kernel
set_option maxHeartbeats 4000000 in
set_option maxRecDepth 100000 in
theorem c_C_rec (l : Launch) (D : va_G) (g : Nat → ClassId) (h sz : Nat) : vz_Mv l D (tyG g) yX4_init cX4_init 1 2 40 10 4903 [.ref h] sz [(h, .inr (4, [.null, .null, .null, .null, .null, .int 0, .int 0, .int 0, .int 0, .int 0, .int 0, .int 0]))] (fun _ : Nat → Nat => True) (fun a => [(h, .inr (4, [.ref (a 0), .ref (a 2), .ref (a 4), .ref (a 6), .ref (a 8), .int (-9), .int 0, .int 0, .int 0, .int 0, .int 0, .int 0])), tT (a 0) (a 1) (nI 1) (nI 400) 0, tA g (a 1) 400 (fun _ => 0), tT (a 2) (a 3) (nI 7) (nI 400) 0, tA g (a 3) 2800 (fun _ => 0), tT (a 4) (a 5) (nI 3) (nI 401) 0, tA g (a 5) 1203 (fun _ => 0), tT (a 6) (a 7) (nI 1) (nI 400) 0, tA g (a 7) 400 (fun _ => 0), tT (a 8) (a 9) (nI 1) (nI 80) 0, tA g (a 9) 80 (fun _ => 0)]) := by
  refine vz_sv (by decide) (Nat.le_of_ble_eq_true rfl) (fun p e s m args below meth c hx hb hr hml hts hown hlk hin hK hsz A hA H locs hP hD hS ls hl => ?_)
  have hl : lv_has ls 1 [(0, .ref h)] := hl
  refine lv_aload_n hx hb dX4_init_0 rfl (lv_at hl 0 rfl) ?_
  refine W.objInit hx hb hown (hts _ q117) (hts _ q11) (hts _ q12) rfl (hl.1.trans hml.symm) rfl dX4_init_1 (Nat.le_of_ble_eq_true rfl) (Nat.le_of_ble_eq_true rfl) ?_
  refine W.eq (g2 := F0 m 4 ls []) rfl ?_
  refine lv_aload_n hx hb dX4_init_4 rfl (lv_at hl 0 rfl) ?_
  refine va_new (ci := 6) (fs := [.null, .int 0, .int 0, .int 0]) (C := RX6) (T := TX6) (N := 4) hx hb hts inlX6 tyX6 tyX6_ok hown (hts _ q118) (hts _ q14) (hts _ q15) hK hP hD hS hA rfl (lt_s (lt_s (lt_s (lt_s (lt_0) rfl) rfl) rfl) rfl) (Nat.le_of_ble_eq_true rfl) (Nat.le_of_ble_eq_true rfl) dX4_init_5 (fun qq1 H hP hD hS => ?_)
  refine W.cs (cells' := 1) (slots' := 4) rfl rfl ?_
  have hP : va_P D vwCl [(h, .inr (4, [.null, .null, .null, .null, .null, .int 0, .int 0, .int 0, .int 0, .int 0, .int 0, .int 0])), (qq1, .inr (6, [.null, .int 0, .int 0, .int 0]))] H := hP
  have hD : va_D A [(h, .inr (4, [.null, .null, .null, .null, .null, .int 0, .int 0, .int 0, .int 0, .int 0, .int 0, .int 0])), (qq1, .inr (6, [.null, .int 0, .int 0, .int 0]))] := hD
  refine lv_dup hx hb dX4_init_8 rfl ?_
  refine lv_sipush (v := 400) hx hb dX4_init_9 (by decide) ?_
  refine lv_iconst (v := 1) hx hb dX4_init_12 (by decide) ?_
  refine vz_Iv (wr := [(h, .inr (4, [.null, .null, .null, .null, .null, .int 0, .int 0, .int 0, .int 0, .int 0, .int 0, .int 0]))]) (As := [.int 400, .int 1]) (rest := [.ref qq1, .ref h]) hx hb hml hown hts hK hA hP hD hS (c_T_init l D g qq1 H.size 1 400 400 (by decide +kernel)) ki_X4_11 (⟨Nat.le_of_ble_eq_true rfl, Nat.le_of_ble_eq_true rfl⟩) [1] [0] rfl rfl (by decide) hl.1 (Nat.le_of_ble_eq_true rfl) dX4_init_13 (⟨Nat.le_of_ble_eq_true rfl, Nat.le_of_ble_eq_true rfl⟩) rfl (fun aq2 H locs _ _ hP hD hS => ?_)
  refine W.cs (cells' := 2) (slots' := 404) rfl rfl ?_
  have hP : va_P D vwCl [(h, .inr (4, [.null, .null, .null, .null, .null, .int 0, .int 0, .int 0, .int 0, .int 0, .int 0, .int 0])), tT qq1 aq2 (nI 1) (nI 400) 0, tA g aq2 400 (fun _ => 0)] H := hP
  have hD : va_D A [(h, .inr (4, [.null, .null, .null, .null, .null, .int 0, .int 0, .int 0, .int 0, .int 0, .int 0, .int 0])), tT qq1 aq2 (nI 1) (nI 400) 0, tA g aq2 400 (fun _ => 0)] := hD
  refine va_putF (D := D) (ci := 4) (v := .ref qq1) (ty := .object "WaysAtlas$Table") (C := RX4) (T := TX4) (N := 12) hx hb hts inlX4 tyX4 tyX4_ok nmX4 hown hK hP hD hS 0 rfl rfl 0 (by decide) (hts _ q119) (fun _ h => h) rfl hin rfl (by decide +kernel) rfl rfl (Nat.le_of_ble_eq_true rfl) dX4_init_16 (fun H locs hP hD hS => ?_)
  have hP : va_P D vwCl [(h, .inr (4, [.ref qq1, .null, .null, .null, .null, .int 0, .int 0, .int 0, .int 0, .int 0, .int 0, .int 0])), tT qq1 aq2 (nI 1) (nI 400) 0, tA g aq2 400 (fun _ => 0)] H := hP
  have hD : va_D A [(h, .inr (4, [.ref qq1, .null, .null, .null, .null, .int 0, .int 0, .int 0, .int 0, .int 0, .int 0, .int 0])), tT qq1 aq2 (nI 1) (nI 400) 0, tA g aq2 400 (fun _ => 0)] := hD
  refine lv_aload_n hx hb dX4_init_19 rfl (lv_at hl 0 rfl) ?_
  refine va_new (ci := 6) (fs := [.null, .int 0, .int 0, .int 0]) (C := RX6) (T := TX6) (N := 4) hx hb hts inlX6 tyX6 tyX6_ok hown (hts _ q118) (hts _ q14) (hts _ q15) hK hP hD hS hA rfl (lt_s (lt_s (lt_s (lt_s (lt_0) rfl) rfl) rfl) rfl) (Nat.le_of_ble_eq_true rfl) (Nat.le_of_ble_eq_true rfl) dX4_init_20 (fun qq3 H hP hD hS => ?_)
  refine W.cs (cells' := 3) (slots' := 408) rfl rfl ?_
  have hP : va_P D vwCl [(h, .inr (4, [.ref qq1, .null, .null, .null, .null, .int 0, .int 0, .int 0, .int 0, .int 0, .int 0, .int 0])), tT qq1 aq2 (nI 1) (nI 400) 0, tA g aq2 400 (fun _ => 0), (qq3, .inr (6, [.null, .int 0, .int 0, .int 0]))] H := hP
  have hD : va_D A [(h, .inr (4, [.ref qq1, .null, .null, .null, .null, .int 0, .int 0, .int 0, .int 0, .int 0, .int 0, .int 0])), tT qq1 aq2 (nI 1) (nI 400) 0, tA g aq2 400 (fun _ => 0), (qq3, .inr (6, [.null, .int 0, .int 0, .int 0]))] := hD
  refine lv_dup hx hb dX4_init_23 rfl ?_
  refine lv_sipush (v := 400) hx hb dX4_init_24 (by decide) ?_
  refine lv_bipush (v := 7) hx hb dX4_init_27 (by decide) ?_
  refine vz_Iv (wr := [(h, .inr (4, [.ref qq1, .null, .null, .null, .null, .int 0, .int 0, .int 0, .int 0, .int 0, .int 0, .int 0])), tT qq1 aq2 (nI 1) (nI 400) 0, tA g aq2 400 (fun _ => 0)]) (As := [.int 400, .int 7]) (rest := [.ref qq3, .ref h]) hx hb hml hown hts hK hA hP hD hS (c_T_init l D g qq3 H.size 7 400 2800 (by decide +kernel)) ki_X4_11 (⟨Nat.le_of_ble_eq_true rfl, Nat.le_of_ble_eq_true rfl⟩) [3] [0, 1, 2] rfl rfl (by decide) hl.1 (Nat.le_of_ble_eq_true rfl) dX4_init_29 (⟨Nat.le_of_ble_eq_true rfl, Nat.le_of_ble_eq_true rfl⟩) rfl (fun aq4 H locs _ _ hP hD hS => ?_)
  refine W.cs (cells' := 4) (slots' := 3208) rfl rfl ?_
  have hP : va_P D vwCl [(h, .inr (4, [.ref qq1, .null, .null, .null, .null, .int 0, .int 0, .int 0, .int 0, .int 0, .int 0, .int 0])), tT qq1 aq2 (nI 1) (nI 400) 0, tA g aq2 400 (fun _ => 0), tT qq3 aq4 (nI 7) (nI 400) 0, tA g aq4 2800 (fun _ => 0)] H := hP
  have hD : va_D A [(h, .inr (4, [.ref qq1, .null, .null, .null, .null, .int 0, .int 0, .int 0, .int 0, .int 0, .int 0, .int 0])), tT qq1 aq2 (nI 1) (nI 400) 0, tA g aq2 400 (fun _ => 0), tT qq3 aq4 (nI 7) (nI 400) 0, tA g aq4 2800 (fun _ => 0)] := hD
  refine va_putF (D := D) (ci := 4) (v := .ref qq3) (ty := .object "WaysAtlas$Table") (C := RX4) (T := TX4) (N := 12) hx hb hts inlX4 tyX4 tyX4_ok nmX4 hown hK hP hD hS 0 rfl rfl 1 (by decide) (hts _ q120) (fun _ h => h) rfl hin rfl (by decide +kernel) rfl rfl (Nat.le_of_ble_eq_true rfl) dX4_init_32 (fun H locs hP hD hS => ?_)
  have hP : va_P D vwCl [(h, .inr (4, [.ref qq1, .ref qq3, .null, .null, .null, .int 0, .int 0, .int 0, .int 0, .int 0, .int 0, .int 0])), tT qq1 aq2 (nI 1) (nI 400) 0, tA g aq2 400 (fun _ => 0), tT qq3 aq4 (nI 7) (nI 400) 0, tA g aq4 2800 (fun _ => 0)] H := hP
  have hD : va_D A [(h, .inr (4, [.ref qq1, .ref qq3, .null, .null, .null, .int 0, .int 0, .int 0, .int 0, .int 0, .int 0, .int 0])), tT qq1 aq2 (nI 1) (nI 400) 0, tA g aq2 400 (fun _ => 0), tT qq3 aq4 (nI 7) (nI 400) 0, tA g aq4 2800 (fun _ => 0)] := hD
  refine lv_aload_n hx hb dX4_init_35 rfl (lv_at hl 0 rfl) ?_
  refine va_new (ci := 6) (fs := [.null, .int 0, .int 0, .int 0]) (C := RX6) (T := TX6) (N := 4) hx hb hts inlX6 tyX6 tyX6_ok hown (hts _ q118) (hts _ q14) (hts _ q15) hK hP hD hS hA rfl (lt_s (lt_s (lt_s (lt_s (lt_0) rfl) rfl) rfl) rfl) (Nat.le_of_ble_eq_true rfl) (Nat.le_of_ble_eq_true rfl) dX4_init_36 (fun qq5 H hP hD hS => ?_)
  refine W.cs (cells' := 5) (slots' := 3212) rfl rfl ?_
  have hP : va_P D vwCl [(h, .inr (4, [.ref qq1, .ref qq3, .null, .null, .null, .int 0, .int 0, .int 0, .int 0, .int 0, .int 0, .int 0])), tT qq1 aq2 (nI 1) (nI 400) 0, tA g aq2 400 (fun _ => 0), tT qq3 aq4 (nI 7) (nI 400) 0, tA g aq4 2800 (fun _ => 0), (qq5, .inr (6, [.null, .int 0, .int 0, .int 0]))] H := hP
  have hD : va_D A [(h, .inr (4, [.ref qq1, .ref qq3, .null, .null, .null, .int 0, .int 0, .int 0, .int 0, .int 0, .int 0, .int 0])), tT qq1 aq2 (nI 1) (nI 400) 0, tA g aq2 400 (fun _ => 0), tT qq3 aq4 (nI 7) (nI 400) 0, tA g aq4 2800 (fun _ => 0), (qq5, .inr (6, [.null, .int 0, .int 0, .int 0]))] := hD
  refine lv_dup hx hb dX4_init_39 rfl ?_
  refine lv_sipush (v := 401) hx hb dX4_init_40 (by decide) ?_
  refine lv_iconst (v := 3) hx hb dX4_init_43 (by decide) ?_
  refine vz_Iv (wr := [(h, .inr (4, [.ref qq1, .ref qq3, .null, .null, .null, .int 0, .int 0, .int 0, .int 0, .int 0, .int 0, .int 0])), tT qq1 aq2 (nI 1) (nI 400) 0, tA g aq2 400 (fun _ => 0), tT qq3 aq4 (nI 7) (nI 400) 0, tA g aq4 2800 (fun _ => 0)]) (As := [.int 401, .int 3]) (rest := [.ref qq5, .ref h]) hx hb hml hown hts hK hA hP hD hS (c_T_init l D g qq5 H.size 3 401 1203 (by decide +kernel)) ki_X4_11 (⟨Nat.le_of_ble_eq_true rfl, Nat.le_of_ble_eq_true rfl⟩) [5] [0, 1, 2, 3, 4] rfl rfl (by decide) hl.1 (Nat.le_of_ble_eq_true rfl) dX4_init_44 (⟨Nat.le_of_ble_eq_true rfl, Nat.le_of_ble_eq_true rfl⟩) rfl (fun aq6 H locs _ _ hP hD hS => ?_)
  refine W.cs (cells' := 6) (slots' := 4415) rfl rfl ?_
  have hP : va_P D vwCl [(h, .inr (4, [.ref qq1, .ref qq3, .null, .null, .null, .int 0, .int 0, .int 0, .int 0, .int 0, .int 0, .int 0])), tT qq1 aq2 (nI 1) (nI 400) 0, tA g aq2 400 (fun _ => 0), tT qq3 aq4 (nI 7) (nI 400) 0, tA g aq4 2800 (fun _ => 0), tT qq5 aq6 (nI 3) (nI 401) 0, tA g aq6 1203 (fun _ => 0)] H := hP
  have hD : va_D A [(h, .inr (4, [.ref qq1, .ref qq3, .null, .null, .null, .int 0, .int 0, .int 0, .int 0, .int 0, .int 0, .int 0])), tT qq1 aq2 (nI 1) (nI 400) 0, tA g aq2 400 (fun _ => 0), tT qq3 aq4 (nI 7) (nI 400) 0, tA g aq4 2800 (fun _ => 0), tT qq5 aq6 (nI 3) (nI 401) 0, tA g aq6 1203 (fun _ => 0)] := hD
  refine va_putF (D := D) (ci := 4) (v := .ref qq5) (ty := .object "WaysAtlas$Table") (C := RX4) (T := TX4) (N := 12) hx hb hts inlX4 tyX4 tyX4_ok nmX4 hown hK hP hD hS 0 rfl rfl 2 (by decide) (hts _ q121) (fun _ h => h) rfl hin rfl (by decide +kernel) rfl rfl (Nat.le_of_ble_eq_true rfl) dX4_init_47 (fun H locs hP hD hS => ?_)
  have hP : va_P D vwCl [(h, .inr (4, [.ref qq1, .ref qq3, .ref qq5, .null, .null, .int 0, .int 0, .int 0, .int 0, .int 0, .int 0, .int 0])), tT qq1 aq2 (nI 1) (nI 400) 0, tA g aq2 400 (fun _ => 0), tT qq3 aq4 (nI 7) (nI 400) 0, tA g aq4 2800 (fun _ => 0), tT qq5 aq6 (nI 3) (nI 401) 0, tA g aq6 1203 (fun _ => 0)] H := hP
  have hD : va_D A [(h, .inr (4, [.ref qq1, .ref qq3, .ref qq5, .null, .null, .int 0, .int 0, .int 0, .int 0, .int 0, .int 0, .int 0])), tT qq1 aq2 (nI 1) (nI 400) 0, tA g aq2 400 (fun _ => 0), tT qq3 aq4 (nI 7) (nI 400) 0, tA g aq4 2800 (fun _ => 0), tT qq5 aq6 (nI 3) (nI 401) 0, tA g aq6 1203 (fun _ => 0)] := hD
  refine lv_aload_n hx hb dX4_init_50 rfl (lv_at hl 0 rfl) ?_
  refine va_new (ci := 6) (fs := [.null, .int 0, .int 0, .int 0]) (C := RX6) (T := TX6) (N := 4) hx hb hts inlX6 tyX6 tyX6_ok hown (hts _ q118) (hts _ q14) (hts _ q15) hK hP hD hS hA rfl (lt_s (lt_s (lt_s (lt_s (lt_0) rfl) rfl) rfl) rfl) (Nat.le_of_ble_eq_true rfl) (Nat.le_of_ble_eq_true rfl) dX4_init_51 (fun qq7 H hP hD hS => ?_)
  refine W.cs (cells' := 7) (slots' := 4419) rfl rfl ?_
  have hP : va_P D vwCl [(h, .inr (4, [.ref qq1, .ref qq3, .ref qq5, .null, .null, .int 0, .int 0, .int 0, .int 0, .int 0, .int 0, .int 0])), tT qq1 aq2 (nI 1) (nI 400) 0, tA g aq2 400 (fun _ => 0), tT qq3 aq4 (nI 7) (nI 400) 0, tA g aq4 2800 (fun _ => 0), tT qq5 aq6 (nI 3) (nI 401) 0, tA g aq6 1203 (fun _ => 0), (qq7, .inr (6, [.null, .int 0, .int 0, .int 0]))] H := hP
  have hD : va_D A [(h, .inr (4, [.ref qq1, .ref qq3, .ref qq5, .null, .null, .int 0, .int 0, .int 0, .int 0, .int 0, .int 0, .int 0])), tT qq1 aq2 (nI 1) (nI 400) 0, tA g aq2 400 (fun _ => 0), tT qq3 aq4 (nI 7) (nI 400) 0, tA g aq4 2800 (fun _ => 0), tT qq5 aq6 (nI 3) (nI 401) 0, tA g aq6 1203 (fun _ => 0), (qq7, .inr (6, [.null, .int 0, .int 0, .int 0]))] := hD
  refine lv_dup hx hb dX4_init_54 rfl ?_
  refine lv_sipush (v := 400) hx hb dX4_init_55 (by decide) ?_
  refine lv_iconst (v := 1) hx hb dX4_init_58 (by decide) ?_
  refine vz_Iv (wr := [(h, .inr (4, [.ref qq1, .ref qq3, .ref qq5, .null, .null, .int 0, .int 0, .int 0, .int 0, .int 0, .int 0, .int 0])), tT qq1 aq2 (nI 1) (nI 400) 0, tA g aq2 400 (fun _ => 0), tT qq3 aq4 (nI 7) (nI 400) 0, tA g aq4 2800 (fun _ => 0), tT qq5 aq6 (nI 3) (nI 401) 0, tA g aq6 1203 (fun _ => 0)]) (As := [.int 400, .int 1]) (rest := [.ref qq7, .ref h]) hx hb hml hown hts hK hA hP hD hS (c_T_init l D g qq7 H.size 1 400 400 (by decide +kernel)) ki_X4_11 (⟨Nat.le_of_ble_eq_true rfl, Nat.le_of_ble_eq_true rfl⟩) [7] [0, 1, 2, 3, 4, 5, 6] rfl rfl (by decide) hl.1 (Nat.le_of_ble_eq_true rfl) dX4_init_59 (⟨Nat.le_of_ble_eq_true rfl, Nat.le_of_ble_eq_true rfl⟩) rfl (fun aq8 H locs _ _ hP hD hS => ?_)
  refine W.cs (cells' := 8) (slots' := 4819) rfl rfl ?_
  have hP : va_P D vwCl [(h, .inr (4, [.ref qq1, .ref qq3, .ref qq5, .null, .null, .int 0, .int 0, .int 0, .int 0, .int 0, .int 0, .int 0])), tT qq1 aq2 (nI 1) (nI 400) 0, tA g aq2 400 (fun _ => 0), tT qq3 aq4 (nI 7) (nI 400) 0, tA g aq4 2800 (fun _ => 0), tT qq5 aq6 (nI 3) (nI 401) 0, tA g aq6 1203 (fun _ => 0), tT qq7 aq8 (nI 1) (nI 400) 0, tA g aq8 400 (fun _ => 0)] H := hP
  have hD : va_D A [(h, .inr (4, [.ref qq1, .ref qq3, .ref qq5, .null, .null, .int 0, .int 0, .int 0, .int 0, .int 0, .int 0, .int 0])), tT qq1 aq2 (nI 1) (nI 400) 0, tA g aq2 400 (fun _ => 0), tT qq3 aq4 (nI 7) (nI 400) 0, tA g aq4 2800 (fun _ => 0), tT qq5 aq6 (nI 3) (nI 401) 0, tA g aq6 1203 (fun _ => 0), tT qq7 aq8 (nI 1) (nI 400) 0, tA g aq8 400 (fun _ => 0)] := hD
  refine va_putF (D := D) (ci := 4) (v := .ref qq7) (ty := .object "WaysAtlas$Table") (C := RX4) (T := TX4) (N := 12) hx hb hts inlX4 tyX4 tyX4_ok nmX4 hown hK hP hD hS 0 rfl rfl 3 (by decide) (hts _ q122) (fun _ h => h) rfl hin rfl (by decide +kernel) rfl rfl (Nat.le_of_ble_eq_true rfl) dX4_init_62 (fun H locs hP hD hS => ?_)
  have hP : va_P D vwCl [(h, .inr (4, [.ref qq1, .ref qq3, .ref qq5, .ref qq7, .null, .int 0, .int 0, .int 0, .int 0, .int 0, .int 0, .int 0])), tT qq1 aq2 (nI 1) (nI 400) 0, tA g aq2 400 (fun _ => 0), tT qq3 aq4 (nI 7) (nI 400) 0, tA g aq4 2800 (fun _ => 0), tT qq5 aq6 (nI 3) (nI 401) 0, tA g aq6 1203 (fun _ => 0), tT qq7 aq8 (nI 1) (nI 400) 0, tA g aq8 400 (fun _ => 0)] H := hP
  have hD : va_D A [(h, .inr (4, [.ref qq1, .ref qq3, .ref qq5, .ref qq7, .null, .int 0, .int 0, .int 0, .int 0, .int 0, .int 0, .int 0])), tT qq1 aq2 (nI 1) (nI 400) 0, tA g aq2 400 (fun _ => 0), tT qq3 aq4 (nI 7) (nI 400) 0, tA g aq4 2800 (fun _ => 0), tT qq5 aq6 (nI 3) (nI 401) 0, tA g aq6 1203 (fun _ => 0), tT qq7 aq8 (nI 1) (nI 400) 0, tA g aq8 400 (fun _ => 0)] := hD
  refine lv_aload_n hx hb dX4_init_65 rfl (lv_at hl 0 rfl) ?_
  refine va_new (ci := 6) (fs := [.null, .int 0, .int 0, .int 0]) (C := RX6) (T := TX6) (N := 4) hx hb hts inlX6 tyX6 tyX6_ok hown (hts _ q118) (hts _ q14) (hts _ q15) hK hP hD hS hA rfl (lt_s (lt_s (lt_s (lt_s (lt_0) rfl) rfl) rfl) rfl) (Nat.le_of_ble_eq_true rfl) (Nat.le_of_ble_eq_true rfl) dX4_init_66 (fun qq9 H hP hD hS => ?_)
  refine W.cs (cells' := 9) (slots' := 4823) rfl rfl ?_
  have hP : va_P D vwCl [(h, .inr (4, [.ref qq1, .ref qq3, .ref qq5, .ref qq7, .null, .int 0, .int 0, .int 0, .int 0, .int 0, .int 0, .int 0])), tT qq1 aq2 (nI 1) (nI 400) 0, tA g aq2 400 (fun _ => 0), tT qq3 aq4 (nI 7) (nI 400) 0, tA g aq4 2800 (fun _ => 0), tT qq5 aq6 (nI 3) (nI 401) 0, tA g aq6 1203 (fun _ => 0), tT qq7 aq8 (nI 1) (nI 400) 0, tA g aq8 400 (fun _ => 0), (qq9, .inr (6, [.null, .int 0, .int 0, .int 0]))] H := hP
  have hD : va_D A [(h, .inr (4, [.ref qq1, .ref qq3, .ref qq5, .ref qq7, .null, .int 0, .int 0, .int 0, .int 0, .int 0, .int 0, .int 0])), tT qq1 aq2 (nI 1) (nI 400) 0, tA g aq2 400 (fun _ => 0), tT qq3 aq4 (nI 7) (nI 400) 0, tA g aq4 2800 (fun _ => 0), tT qq5 aq6 (nI 3) (nI 401) 0, tA g aq6 1203 (fun _ => 0), tT qq7 aq8 (nI 1) (nI 400) 0, tA g aq8 400 (fun _ => 0), (qq9, .inr (6, [.null, .int 0, .int 0, .int 0]))] := hD
  refine lv_dup hx hb dX4_init_69 rfl ?_
  refine lv_bipush (v := 80) hx hb dX4_init_70 (by decide) ?_
  refine lv_iconst (v := 1) hx hb dX4_init_72 (by decide) ?_
  refine vz_Iv (wr := [(h, .inr (4, [.ref qq1, .ref qq3, .ref qq5, .ref qq7, .null, .int 0, .int 0, .int 0, .int 0, .int 0, .int 0, .int 0])), tT qq1 aq2 (nI 1) (nI 400) 0, tA g aq2 400 (fun _ => 0), tT qq3 aq4 (nI 7) (nI 400) 0, tA g aq4 2800 (fun _ => 0), tT qq5 aq6 (nI 3) (nI 401) 0, tA g aq6 1203 (fun _ => 0), tT qq7 aq8 (nI 1) (nI 400) 0, tA g aq8 400 (fun _ => 0)]) (As := [.int 80, .int 1]) (rest := [.ref qq9, .ref h]) hx hb hml hown hts hK hA hP hD hS (c_T_init l D g qq9 H.size 1 80 80 (by decide +kernel)) ki_X4_11 (⟨Nat.le_of_ble_eq_true rfl, Nat.le_of_ble_eq_true rfl⟩) [9] [0, 1, 2, 3, 4, 5, 6, 7, 8] rfl rfl (by decide) hl.1 (Nat.le_of_ble_eq_true rfl) dX4_init_73 (⟨Nat.le_of_ble_eq_true rfl, Nat.le_of_ble_eq_true rfl⟩) rfl (fun aq10 H locs _ _ hP hD hS => ?_)
  refine W.cs (cells' := 10) (slots' := 4903) rfl rfl ?_
  have hP : va_P D vwCl [(h, .inr (4, [.ref qq1, .ref qq3, .ref qq5, .ref qq7, .null, .int 0, .int 0, .int 0, .int 0, .int 0, .int 0, .int 0])), tT qq1 aq2 (nI 1) (nI 400) 0, tA g aq2 400 (fun _ => 0), tT qq3 aq4 (nI 7) (nI 400) 0, tA g aq4 2800 (fun _ => 0), tT qq5 aq6 (nI 3) (nI 401) 0, tA g aq6 1203 (fun _ => 0), tT qq7 aq8 (nI 1) (nI 400) 0, tA g aq8 400 (fun _ => 0), tT qq9 aq10 (nI 1) (nI 80) 0, tA g aq10 80 (fun _ => 0)] H := hP
  have hD : va_D A [(h, .inr (4, [.ref qq1, .ref qq3, .ref qq5, .ref qq7, .null, .int 0, .int 0, .int 0, .int 0, .int 0, .int 0, .int 0])), tT qq1 aq2 (nI 1) (nI 400) 0, tA g aq2 400 (fun _ => 0), tT qq3 aq4 (nI 7) (nI 400) 0, tA g aq4 2800 (fun _ => 0), tT qq5 aq6 (nI 3) (nI 401) 0, tA g aq6 1203 (fun _ => 0), tT qq7 aq8 (nI 1) (nI 400) 0, tA g aq8 400 (fun _ => 0), tT qq9 aq10 (nI 1) (nI 80) 0, tA g aq10 80 (fun _ => 0)] := hD
  refine va_putF (D := D) (ci := 4) (v := .ref qq9) (ty := .object "WaysAtlas$Table") (C := RX4) (T := TX4) (N := 12) hx hb hts inlX4 tyX4 tyX4_ok nmX4 hown hK hP hD hS 0 rfl rfl 4 (by decide) (hts _ q123) (fun _ h => h) rfl hin rfl (by decide +kernel) rfl rfl (Nat.le_of_ble_eq_true rfl) dX4_init_76 (fun H locs hP hD hS => ?_)
  have hP : va_P D vwCl [(h, .inr (4, [.ref qq1, .ref qq3, .ref qq5, .ref qq7, .ref qq9, .int 0, .int 0, .int 0, .int 0, .int 0, .int 0, .int 0])), tT qq1 aq2 (nI 1) (nI 400) 0, tA g aq2 400 (fun _ => 0), tT qq3 aq4 (nI 7) (nI 400) 0, tA g aq4 2800 (fun _ => 0), tT qq5 aq6 (nI 3) (nI 401) 0, tA g aq6 1203 (fun _ => 0), tT qq7 aq8 (nI 1) (nI 400) 0, tA g aq8 400 (fun _ => 0), tT qq9 aq10 (nI 1) (nI 80) 0, tA g aq10 80 (fun _ => 0)] H := hP
  have hD : va_D A [(h, .inr (4, [.ref qq1, .ref qq3, .ref qq5, .ref qq7, .ref qq9, .int 0, .int 0, .int 0, .int 0, .int 0, .int 0, .int 0])), tT qq1 aq2 (nI 1) (nI 400) 0, tA g aq2 400 (fun _ => 0), tT qq3 aq4 (nI 7) (nI 400) 0, tA g aq4 2800 (fun _ => 0), tT qq5 aq6 (nI 3) (nI 401) 0, tA g aq6 1203 (fun _ => 0), tT qq7 aq8 (nI 1) (nI 400) 0, tA g aq8 400 (fun _ => 0), tT qq9 aq10 (nI 1) (nI 80) 0, tA g aq10 80 (fun _ => 0)] := hD
  refine lv_aload_n hx hb dX4_init_79 rfl (lv_at hl 0 rfl) ?_
  refine lv_bipush (v := (-9)) hx hb dX4_init_80 (by decide) ?_
  refine va_put (D := D) (ci := 4) (v := .int (-9)) (ty := .int) (C := RX4) (T := TX4) (N := 12) hx hb hts inlX4 tyX4 tyX4_ok nmX4 hown hK hP hD hS 0 rfl rfl 5 (by decide) (hts _ q124) (fun _ h => h) rfl (by decide +kernel) rfl rfl (Nat.le_of_ble_eq_true rfl) dX4_init_82 (fun H locs hP hD hS => ?_)
  have hP : va_P D vwCl [(h, .inr (4, [.ref qq1, .ref qq3, .ref qq5, .ref qq7, .ref qq9, .int (-9), .int 0, .int 0, .int 0, .int 0, .int 0, .int 0])), tT qq1 aq2 (nI 1) (nI 400) 0, tA g aq2 400 (fun _ => 0), tT qq3 aq4 (nI 7) (nI 400) 0, tA g aq4 2800 (fun _ => 0), tT qq5 aq6 (nI 3) (nI 401) 0, tA g aq6 1203 (fun _ => 0), tT qq7 aq8 (nI 1) (nI 400) 0, tA g aq8 400 (fun _ => 0), tT qq9 aq10 (nI 1) (nI 80) 0, tA g aq10 80 (fun _ => 0)] H := hP
  have hD : va_D A [(h, .inr (4, [.ref qq1, .ref qq3, .ref qq5, .ref qq7, .ref qq9, .int (-9), .int 0, .int 0, .int 0, .int 0, .int 0, .int 0])), tT qq1 aq2 (nI 1) (nI 400) 0, tA g aq2 400 (fun _ => 0), tT qq3 aq4 (nI 7) (nI 400) 0, tA g aq4 2800 (fun _ => 0), tT qq5 aq6 (nI 3) (nI 401) 0, tA g aq6 1203 (fun _ => 0), tT qq7 aq8 (nI 1) (nI 400) 0, tA g aq8 400 (fun _ => 0), tT qq9 aq10 (nI 1) (nI 80) 0, tA g aq10 80 (fun _ => 0)] := hD
  exact vz_vret hx hb hr hlk hK hP hD hS (fun k => [qq1, aq2, qq3, aq4, qq5, aq6, qq7, aq8, qq9, aq10].getD k 0) (trivial) [0, 1, 2, 3, 4, 5, 6, 7, 8, 9, 10] rfl (by decide) (Nat.le_of_ble_eq_true rfl) (Nat.le_of_ble_eq_true rfl) dX4_init_85
theorem q76 : Cond.methodLink RX5 3 objectInit ∈ wsL_law := mT_1 (List.mem_of_getElem? (i := 61) rfl) rfl
theorem q77 : Cond.classLink RX5 9 RX6 ∈ wsL_law := mT_1 (List.mem_of_getElem? (i := 62) rfl) rfl
theorem q80 : Cond.methodLink RX5 11 yX6_init ∈ wsL_law := mT_1 (List.mem_of_getElem? (i := 63) rfl) rfl
theorem ki_X5_11 : vz_ci RX5 11 yX6_init cX6_init 3 2 := ⟨q80, q61, q15, q62, by decide +kernel⟩
theorem q78 : Cond.fieldLink RX5 14 "WaysAtlas$Scanner" "tokens" "LWaysAtlas$Table;" ∈ wsL_law := mT_1 (List.mem_of_getElem? (i := 64) rfl) rfl
theorem q79 : Cond.fieldLink RX5 20 "WaysAtlas$Scanner" "at" "I" ∈ wsL_law := mT_1 (List.mem_of_getElem? (i := 66) rfl) rfl
theorem dX5_init_0 : decode cX5_init 0 = .ok (.aload_n 0, 1) := by decide +kernel
theorem dX5_init_1 : decode cX5_init 1 = .ok (.invokespecial 3, 3) := by decide +kernel
theorem dX5_init_4 : decode cX5_init 4 = .ok (.aload_n 0, 1) := by decide +kernel
theorem dX5_init_5 : decode cX5_init 5 = .ok (.new 9, 3) := by decide +kernel
theorem dX5_init_8 : decode cX5_init 8 = .ok (.dup, 1) := by decide +kernel
theorem dX5_init_9 : decode cX5_init 9 = .ok (.sipush 1001, 3) := by decide +kernel
theorem dX5_init_12 : decode cX5_init 12 = .ok (.iconst 3, 1) := by decide +kernel
theorem dX5_init_13 : decode cX5_init 13 = .ok (.invokespecial 11, 3) := by decide +kernel
theorem dX5_init_16 : decode cX5_init 16 = .ok (.putfield 14, 3) := by decide +kernel
theorem dX5_init_19 : decode cX5_init 19 = .ok (.aload_n 0, 1) := by decide +kernel
theorem dX5_init_20 : decode cX5_init 20 = .ok (.iconst 0, 1) := by decide +kernel
theorem dX5_init_21 : decode cX5_init 21 = .ok (.putfield 20, 3) := by decide +kernel
theorem dX5_init_24 : decode cX5_init 24 = .ok (.return_, 1) := by decide +kernel
set_option maxHeartbeats 4000000 in
set_option maxRecDepth 100000 in
theorem c_S_init (l : Launch) (D : va_G) (g : Nat → ClassId) (h sz : Nat) : vz_Mv l D (tyG g) yX5_init cX5_init 1 2 40 2 3007 [.ref h] sz [(h, .inr (5, [.null, .int 0]))] (fun _ : Nat → Nat => True) (fun a => [(h, .inr (5, [.ref (a 0), .int 0])), tT (a 0) (a 1) (nI 3) (nI 1001) 0, tA g (a 1) 3003 (fun _ => 0)]) := by
  refine vz_sv (by decide) (Nat.le_of_ble_eq_true rfl) (fun p e s m args below meth c hx hb hr hml hts hown hlk hin hK hsz A hA H locs hP hD hS ls hl => ?_)
  have hl : lv_has ls 1 [(0, .ref h)] := hl
  refine lv_aload_n hx hb dX5_init_0 rfl (lv_at hl 0 rfl) ?_
  refine W.objInit hx hb hown (hts _ q76) (hts _ q11) (hts _ q12) rfl (hl.1.trans hml.symm) rfl dX5_init_1 (Nat.le_of_ble_eq_true rfl) (Nat.le_of_ble_eq_true rfl) ?_
  refine W.eq (g2 := F0 m 4 ls []) rfl ?_
  refine lv_aload_n hx hb dX5_init_4 rfl (lv_at hl 0 rfl) ?_
  refine va_new (ci := 6) (fs := [.null, .int 0, .int 0, .int 0]) (C := RX6) (T := TX6) (N := 4) hx hb hts inlX6 tyX6 tyX6_ok hown (hts _ q77) (hts _ q14) (hts _ q15) hK hP hD hS hA rfl (lt_s (lt_s (lt_s (lt_s (lt_0) rfl) rfl) rfl) rfl) (Nat.le_of_ble_eq_true rfl) (Nat.le_of_ble_eq_true rfl) dX5_init_5 (fun qq1 H hP hD hS => ?_)
  refine W.cs (cells' := 1) (slots' := 4) rfl rfl ?_
  have hP : va_P D vwCl [(h, .inr (5, [.null, .int 0])), (qq1, .inr (6, [.null, .int 0, .int 0, .int 0]))] H := hP
  have hD : va_D A [(h, .inr (5, [.null, .int 0])), (qq1, .inr (6, [.null, .int 0, .int 0, .int 0]))] := hD
  refine lv_dup hx hb dX5_init_8 rfl ?_
  refine lv_sipush (v := 1001) hx hb dX5_init_9 (by decide) ?_
  refine lv_iconst (v := 3) hx hb dX5_init_12 (by decide) ?_
  refine vz_Iv (wr := [(h, .inr (5, [.null, .int 0]))]) (As := [.int 1001, .int 3]) (rest := [.ref qq1, .ref h]) hx hb hml hown hts hK hA hP hD hS (c_T_init l D g qq1 H.size 3 1001 3003 (by decide +kernel)) ki_X5_11 (⟨Nat.le_of_ble_eq_true rfl, Nat.le_of_ble_eq_true rfl⟩) [1] [0] rfl rfl (by decide) hl.1 (Nat.le_of_ble_eq_true rfl) dX5_init_13 (⟨Nat.le_of_ble_eq_true rfl, Nat.le_of_ble_eq_true rfl⟩) rfl (fun aq2 H locs _ _ hP hD hS => ?_)
  refine W.cs (cells' := 2) (slots' := 3007) rfl rfl ?_
  have hP : va_P D vwCl [(h, .inr (5, [.null, .int 0])), tT qq1 aq2 (nI 3) (nI 1001) 0, tA g aq2 3003 (fun _ => 0)] H := hP
  have hD : va_D A [(h, .inr (5, [.null, .int 0])), tT qq1 aq2 (nI 3) (nI 1001) 0, tA g aq2 3003 (fun _ => 0)] := hD
  refine va_putF (D := D) (ci := 5) (v := .ref qq1) (ty := .object "WaysAtlas$Table") (C := RX5) (T := TX5) (N := 2) hx hb hts inlX5 tyX5 tyX5_ok nmX5 hown hK hP hD hS 0 rfl rfl 0 (by decide) (hts _ q78) (fun _ h => h) rfl hin rfl (by decide +kernel) rfl rfl (Nat.le_of_ble_eq_true rfl) dX5_init_16 (fun H locs hP hD hS => ?_)
  have hP : va_P D vwCl [(h, .inr (5, [.ref qq1, .int 0])), tT qq1 aq2 (nI 3) (nI 1001) 0, tA g aq2 3003 (fun _ => 0)] H := hP
  have hD : va_D A [(h, .inr (5, [.ref qq1, .int 0])), tT qq1 aq2 (nI 3) (nI 1001) 0, tA g aq2 3003 (fun _ => 0)] := hD
  refine lv_aload_n hx hb dX5_init_19 rfl (lv_at hl 0 rfl) ?_
  refine lv_iconst (v := 0) hx hb dX5_init_20 (by decide) ?_
  refine va_put (D := D) (ci := 5) (v := .int 0) (ty := .int) (C := RX5) (T := TX5) (N := 2) hx hb hts inlX5 tyX5 tyX5_ok nmX5 hown hK hP hD hS 0 rfl rfl 1 (by decide) (hts _ q79) (fun _ h => h) rfl (by decide +kernel) rfl rfl (Nat.le_of_ble_eq_true rfl) dX5_init_21 (fun H locs hP hD hS => ?_)
  have hP : va_P D vwCl [(h, .inr (5, [.ref qq1, .int 0])), tT qq1 aq2 (nI 3) (nI 1001) 0, tA g aq2 3003 (fun _ => 0)] H := hP
  have hD : va_D A [(h, .inr (5, [.ref qq1, .int 0])), tT qq1 aq2 (nI 3) (nI 1001) 0, tA g aq2 3003 (fun _ => 0)] := hD
  exact vz_vret hx hb hr hlk hK hP hD hS (fun k => [qq1, aq2].getD k 0) (trivial) [0, 1, 2] rfl (by decide) (Nat.le_of_ble_eq_true rfl) (Nat.le_of_ble_eq_true rfl) dX5_init_24
theorem q95 : Cond.methodLink RX3 3 objectInit ∈ wsL_law := mT_1 (List.mem_of_getElem? (i := 121) rfl) rfl
theorem q96 : Cond.fieldLink RX3 9 "WaysAtlas$Reader" "tokens" "LWaysAtlas$Table;" ∈ wsL_law := mT_1 (List.mem_of_getElem? (i := 124) rfl) rfl
theorem q97 : Cond.fieldLink RX3 15 "WaysAtlas$Reader" "program" "LWaysAtlas$Program;" ∈ wsL_law := mT_1 (List.mem_of_getElem? (i := 128) rfl) rfl
theorem q98 : Cond.classLink RX3 19 RX6 ∈ wsL_law := mT_1 (List.mem_of_getElem? (i := 122) rfl) rfl
theorem q103 : Cond.methodLink RX3 21 yX6_init ∈ wsL_law := mT_1 (List.mem_of_getElem? (i := 123) rfl) rfl
theorem ki_X3_21 : vz_ci RX3 21 yX6_init cX6_init 3 2 := ⟨q103, q61, q15, q62, by decide +kernel⟩
theorem q99 : Cond.fieldLink RX3 24 "WaysAtlas$Reader" "loops" "LWaysAtlas$Table;" ∈ wsL_law := mT_1 (List.mem_of_getElem? (i := 125) rfl) rfl
theorem q100 : Cond.fieldLink RX3 27 "WaysAtlas$Reader" "caughtLevels" "LWaysAtlas$Table;" ∈ wsL_law := mT_1 (List.mem_of_getElem? (i := 126) rfl) rfl
theorem q101 : Cond.fieldLink RX3 30 "WaysAtlas$Reader" "callPlaces" "LWaysAtlas$Table;" ∈ wsL_law := mT_1 (List.mem_of_getElem? (i := 127) rfl) rfl
theorem q102 : Cond.fieldLink RX3 33 "WaysAtlas$Reader" "lesserPlace" "I" ∈ wsL_law := mT_1 (List.mem_of_getElem? (i := 133) rfl) rfl
theorem dX3_init_0 : decode cX3_init 0 = .ok (.aload_n 0, 1) := by decide +kernel
theorem dX3_init_1 : decode cX3_init 1 = .ok (.invokespecial 3, 3) := by decide +kernel
theorem dX3_init_4 : decode cX3_init 4 = .ok (.aload_n 0, 1) := by decide +kernel
theorem dX3_init_5 : decode cX3_init 5 = .ok (.aload_n 1, 1) := by decide +kernel
theorem dX3_init_6 : decode cX3_init 6 = .ok (.putfield 9, 3) := by decide +kernel
theorem dX3_init_9 : decode cX3_init 9 = .ok (.aload_n 0, 1) := by decide +kernel
theorem dX3_init_10 : decode cX3_init 10 = .ok (.aload_n 2, 1) := by decide +kernel
theorem dX3_init_11 : decode cX3_init 11 = .ok (.putfield 15, 3) := by decide +kernel
theorem dX3_init_14 : decode cX3_init 14 = .ok (.aload_n 0, 1) := by decide +kernel
theorem dX3_init_15 : decode cX3_init 15 = .ok (.new 19, 3) := by decide +kernel
theorem dX3_init_18 : decode cX3_init 18 = .ok (.dup, 1) := by decide +kernel
theorem dX3_init_19 : decode cX3_init 19 = .ok (.bipush 6, 2) := by decide +kernel
theorem dX3_init_21 : decode cX3_init 21 = .ok (.iconst 1, 1) := by decide +kernel
theorem dX3_init_22 : decode cX3_init 22 = .ok (.invokespecial 21, 3) := by decide +kernel
theorem dX3_init_25 : decode cX3_init 25 = .ok (.putfield 24, 3) := by decide +kernel
theorem dX3_init_28 : decode cX3_init 28 = .ok (.aload_n 0, 1) := by decide +kernel
theorem dX3_init_29 : decode cX3_init 29 = .ok (.new 19, 3) := by decide +kernel
theorem dX3_init_32 : decode cX3_init 32 = .ok (.dup, 1) := by decide +kernel
theorem dX3_init_33 : decode cX3_init 33 = .ok (.bipush 6, 2) := by decide +kernel
theorem dX3_init_35 : decode cX3_init 35 = .ok (.iconst 1, 1) := by decide +kernel
theorem dX3_init_36 : decode cX3_init 36 = .ok (.invokespecial 21, 3) := by decide +kernel
theorem dX3_init_39 : decode cX3_init 39 = .ok (.putfield 27, 3) := by decide +kernel
theorem dX3_init_42 : decode cX3_init 42 = .ok (.aload_n 0, 1) := by decide +kernel
theorem dX3_init_43 : decode cX3_init 43 = .ok (.new 19, 3) := by decide +kernel
theorem dX3_init_46 : decode cX3_init 46 = .ok (.dup, 1) := by decide +kernel
theorem dX3_init_47 : decode cX3_init 47 = .ok (.bipush 80, 2) := by decide +kernel
theorem dX3_init_49 : decode cX3_init 49 = .ok (.iconst 1, 1) := by decide +kernel
theorem dX3_init_50 : decode cX3_init 50 = .ok (.invokespecial 21, 3) := by decide +kernel
theorem dX3_init_53 : decode cX3_init 53 = .ok (.putfield 30, 3) := by decide +kernel
theorem dX3_init_56 : decode cX3_init 56 = .ok (.aload_n 0, 1) := by decide +kernel
theorem dX3_init_57 : decode cX3_init 57 = .ok (.bipush (-9), 2) := by decide +kernel
theorem dX3_init_59 : decode cX3_init 59 = .ok (.putfield 33, 3) := by decide +kernel
theorem dX3_init_62 : decode cX3_init 62 = .ok (.return_, 1) := by decide +kernel
set_option maxHeartbeats 4000000 in
set_option maxRecDepth 100000 in
theorem c_R_init (l : Launch) (D : va_G) (g : Nat → ClassId) (h sz : Nat) (tk pg : Nat) : vz_Mv l D (tyG g) yX3_init cX3_init 3 2 40 6 104 [.ref h, .ref tk, .ref pg] sz [(h, .inr (3, [.null, .null, .null, .null, .null, .int 0, .int 0, .int 0, .int 0, .int 0, .int 0, .int 0]))] (fun _ : Nat → Nat => True) (fun a => [(h, .inr (3, [.ref tk, .ref (a 0), .ref (a 2), .ref (a 4), .ref pg, .int 0, .int 0, .int 0, .int 0, .int (-9), .int 0, .int 0])), tT (a 0) (a 1) (nI 1) (nI 6) 0, tA g (a 1) 6 (fun _ => 0), tT (a 2) (a 3) (nI 1) (nI 6) 0, tA g (a 3) 6 (fun _ => 0), tT (a 4) (a 5) (nI 1) (nI 80) 0, tA g (a 5) 80 (fun _ => 0)]) := by
  refine vz_sv (by decide) (Nat.le_of_ble_eq_true rfl) (fun p e s m args below meth c hx hb hr hml hts hown hlk hin hK hsz A hA H locs hP hD hS ls hl => ?_)
  have hl : lv_has ls 3 [(0, .ref h), (1, .ref tk), (2, .ref pg)] := hl
  refine lv_aload_n hx hb dX3_init_0 rfl (lv_at hl 0 rfl) ?_
  refine W.objInit hx hb hown (hts _ q95) (hts _ q11) (hts _ q12) rfl (hl.1.trans hml.symm) rfl dX3_init_1 (Nat.le_of_ble_eq_true rfl) (Nat.le_of_ble_eq_true rfl) ?_
  refine W.eq (g2 := F0 m 4 ls []) rfl ?_
  refine lv_aload_n hx hb dX3_init_4 rfl (lv_at hl 0 rfl) ?_
  refine lv_aload_n hx hb dX3_init_5 rfl (lv_at hl 1 rfl) ?_
  refine va_putF (D := D) (ci := 3) (v := .ref tk) (ty := .object "WaysAtlas$Table") (C := RX3) (T := TX3) (N := 12) hx hb hts inlX3 tyX3 tyX3_ok nmX3 hown hK hP hD hS 0 rfl rfl 0 (by decide) (hts _ q96) (fun _ h => h) rfl hin rfl (by decide +kernel) rfl rfl (Nat.le_of_ble_eq_true rfl) dX3_init_6 (fun H locs hP hD hS => ?_)
  have hP : va_P D vwCl [(h, .inr (3, [.ref tk, .null, .null, .null, .null, .int 0, .int 0, .int 0, .int 0, .int 0, .int 0, .int 0]))] H := hP
  have hD : va_D A [(h, .inr (3, [.ref tk, .null, .null, .null, .null, .int 0, .int 0, .int 0, .int 0, .int 0, .int 0, .int 0]))] := hD
  refine lv_aload_n hx hb dX3_init_9 rfl (lv_at hl 0 rfl) ?_
  refine lv_aload_n hx hb dX3_init_10 rfl (lv_at hl 2 rfl) ?_
  refine va_put (D := D) (ci := 3) (v := .ref pg) (ty := .object "WaysAtlas$Program") (C := RX3) (T := TX3) (N := 12) hx hb hts inlX3 tyX3 tyX3_ok nmX3 hown hK hP hD hS 0 rfl rfl 4 (by decide) (hts _ q97) (fun _ h => h) rfl (by decide +kernel) rfl rfl (Nat.le_of_ble_eq_true rfl) dX3_init_11 (fun H locs hP hD hS => ?_)
  have hP : va_P D vwCl [(h, .inr (3, [.ref tk, .null, .null, .null, .ref pg, .int 0, .int 0, .int 0, .int 0, .int 0, .int 0, .int 0]))] H := hP
  have hD : va_D A [(h, .inr (3, [.ref tk, .null, .null, .null, .ref pg, .int 0, .int 0, .int 0, .int 0, .int 0, .int 0, .int 0]))] := hD
  refine lv_aload_n hx hb dX3_init_14 rfl (lv_at hl 0 rfl) ?_
  refine va_new (ci := 6) (fs := [.null, .int 0, .int 0, .int 0]) (C := RX6) (T := TX6) (N := 4) hx hb hts inlX6 tyX6 tyX6_ok hown (hts _ q98) (hts _ q14) (hts _ q15) hK hP hD hS hA rfl (lt_s (lt_s (lt_s (lt_s (lt_0) rfl) rfl) rfl) rfl) (Nat.le_of_ble_eq_true rfl) (Nat.le_of_ble_eq_true rfl) dX3_init_15 (fun qq1 H hP hD hS => ?_)
  refine W.cs (cells' := 1) (slots' := 4) rfl rfl ?_
  have hP : va_P D vwCl [(h, .inr (3, [.ref tk, .null, .null, .null, .ref pg, .int 0, .int 0, .int 0, .int 0, .int 0, .int 0, .int 0])), (qq1, .inr (6, [.null, .int 0, .int 0, .int 0]))] H := hP
  have hD : va_D A [(h, .inr (3, [.ref tk, .null, .null, .null, .ref pg, .int 0, .int 0, .int 0, .int 0, .int 0, .int 0, .int 0])), (qq1, .inr (6, [.null, .int 0, .int 0, .int 0]))] := hD
  refine lv_dup hx hb dX3_init_18 rfl ?_
  refine lv_bipush (v := 6) hx hb dX3_init_19 (by decide) ?_
  refine lv_iconst (v := 1) hx hb dX3_init_21 (by decide) ?_
  refine vz_Iv (wr := [(h, .inr (3, [.ref tk, .null, .null, .null, .ref pg, .int 0, .int 0, .int 0, .int 0, .int 0, .int 0, .int 0]))]) (As := [.int 6, .int 1]) (rest := [.ref qq1, .ref h]) hx hb hml hown hts hK hA hP hD hS (c_T_init l D g qq1 H.size 1 6 6 (by decide +kernel)) ki_X3_21 (⟨Nat.le_of_ble_eq_true rfl, Nat.le_of_ble_eq_true rfl⟩) [1] [0] rfl rfl (by decide) hl.1 (Nat.le_of_ble_eq_true rfl) dX3_init_22 (⟨Nat.le_of_ble_eq_true rfl, Nat.le_of_ble_eq_true rfl⟩) rfl (fun aq2 H locs _ _ hP hD hS => ?_)
  refine W.cs (cells' := 2) (slots' := 10) rfl rfl ?_
  have hP : va_P D vwCl [(h, .inr (3, [.ref tk, .null, .null, .null, .ref pg, .int 0, .int 0, .int 0, .int 0, .int 0, .int 0, .int 0])), tT qq1 aq2 (nI 1) (nI 6) 0, tA g aq2 6 (fun _ => 0)] H := hP
  have hD : va_D A [(h, .inr (3, [.ref tk, .null, .null, .null, .ref pg, .int 0, .int 0, .int 0, .int 0, .int 0, .int 0, .int 0])), tT qq1 aq2 (nI 1) (nI 6) 0, tA g aq2 6 (fun _ => 0)] := hD
  refine va_putF (D := D) (ci := 3) (v := .ref qq1) (ty := .object "WaysAtlas$Table") (C := RX3) (T := TX3) (N := 12) hx hb hts inlX3 tyX3 tyX3_ok nmX3 hown hK hP hD hS 0 rfl rfl 1 (by decide) (hts _ q99) (fun _ h => h) rfl hin rfl (by decide +kernel) rfl rfl (Nat.le_of_ble_eq_true rfl) dX3_init_25 (fun H locs hP hD hS => ?_)
  have hP : va_P D vwCl [(h, .inr (3, [.ref tk, .ref qq1, .null, .null, .ref pg, .int 0, .int 0, .int 0, .int 0, .int 0, .int 0, .int 0])), tT qq1 aq2 (nI 1) (nI 6) 0, tA g aq2 6 (fun _ => 0)] H := hP
  have hD : va_D A [(h, .inr (3, [.ref tk, .ref qq1, .null, .null, .ref pg, .int 0, .int 0, .int 0, .int 0, .int 0, .int 0, .int 0])), tT qq1 aq2 (nI 1) (nI 6) 0, tA g aq2 6 (fun _ => 0)] := hD
  refine lv_aload_n hx hb dX3_init_28 rfl (lv_at hl 0 rfl) ?_
  refine va_new (ci := 6) (fs := [.null, .int 0, .int 0, .int 0]) (C := RX6) (T := TX6) (N := 4) hx hb hts inlX6 tyX6 tyX6_ok hown (hts _ q98) (hts _ q14) (hts _ q15) hK hP hD hS hA rfl (lt_s (lt_s (lt_s (lt_s (lt_0) rfl) rfl) rfl) rfl) (Nat.le_of_ble_eq_true rfl) (Nat.le_of_ble_eq_true rfl) dX3_init_29 (fun qq3 H hP hD hS => ?_)
  refine W.cs (cells' := 3) (slots' := 14) rfl rfl ?_
  have hP : va_P D vwCl [(h, .inr (3, [.ref tk, .ref qq1, .null, .null, .ref pg, .int 0, .int 0, .int 0, .int 0, .int 0, .int 0, .int 0])), tT qq1 aq2 (nI 1) (nI 6) 0, tA g aq2 6 (fun _ => 0), (qq3, .inr (6, [.null, .int 0, .int 0, .int 0]))] H := hP
  have hD : va_D A [(h, .inr (3, [.ref tk, .ref qq1, .null, .null, .ref pg, .int 0, .int 0, .int 0, .int 0, .int 0, .int 0, .int 0])), tT qq1 aq2 (nI 1) (nI 6) 0, tA g aq2 6 (fun _ => 0), (qq3, .inr (6, [.null, .int 0, .int 0, .int 0]))] := hD
  refine lv_dup hx hb dX3_init_32 rfl ?_
  refine lv_bipush (v := 6) hx hb dX3_init_33 (by decide) ?_
  refine lv_iconst (v := 1) hx hb dX3_init_35 (by decide) ?_
  refine vz_Iv (wr := [(h, .inr (3, [.ref tk, .ref qq1, .null, .null, .ref pg, .int 0, .int 0, .int 0, .int 0, .int 0, .int 0, .int 0])), tT qq1 aq2 (nI 1) (nI 6) 0, tA g aq2 6 (fun _ => 0)]) (As := [.int 6, .int 1]) (rest := [.ref qq3, .ref h]) hx hb hml hown hts hK hA hP hD hS (c_T_init l D g qq3 H.size 1 6 6 (by decide +kernel)) ki_X3_21 (⟨Nat.le_of_ble_eq_true rfl, Nat.le_of_ble_eq_true rfl⟩) [3] [0, 1, 2] rfl rfl (by decide) hl.1 (Nat.le_of_ble_eq_true rfl) dX3_init_36 (⟨Nat.le_of_ble_eq_true rfl, Nat.le_of_ble_eq_true rfl⟩) rfl (fun aq4 H locs _ _ hP hD hS => ?_)
  refine W.cs (cells' := 4) (slots' := 20) rfl rfl ?_
  have hP : va_P D vwCl [(h, .inr (3, [.ref tk, .ref qq1, .null, .null, .ref pg, .int 0, .int 0, .int 0, .int 0, .int 0, .int 0, .int 0])), tT qq1 aq2 (nI 1) (nI 6) 0, tA g aq2 6 (fun _ => 0), tT qq3 aq4 (nI 1) (nI 6) 0, tA g aq4 6 (fun _ => 0)] H := hP
  have hD : va_D A [(h, .inr (3, [.ref tk, .ref qq1, .null, .null, .ref pg, .int 0, .int 0, .int 0, .int 0, .int 0, .int 0, .int 0])), tT qq1 aq2 (nI 1) (nI 6) 0, tA g aq2 6 (fun _ => 0), tT qq3 aq4 (nI 1) (nI 6) 0, tA g aq4 6 (fun _ => 0)] := hD
  refine va_putF (D := D) (ci := 3) (v := .ref qq3) (ty := .object "WaysAtlas$Table") (C := RX3) (T := TX3) (N := 12) hx hb hts inlX3 tyX3 tyX3_ok nmX3 hown hK hP hD hS 0 rfl rfl 2 (by decide) (hts _ q100) (fun _ h => h) rfl hin rfl (by decide +kernel) rfl rfl (Nat.le_of_ble_eq_true rfl) dX3_init_39 (fun H locs hP hD hS => ?_)
  have hP : va_P D vwCl [(h, .inr (3, [.ref tk, .ref qq1, .ref qq3, .null, .ref pg, .int 0, .int 0, .int 0, .int 0, .int 0, .int 0, .int 0])), tT qq1 aq2 (nI 1) (nI 6) 0, tA g aq2 6 (fun _ => 0), tT qq3 aq4 (nI 1) (nI 6) 0, tA g aq4 6 (fun _ => 0)] H := hP
  have hD : va_D A [(h, .inr (3, [.ref tk, .ref qq1, .ref qq3, .null, .ref pg, .int 0, .int 0, .int 0, .int 0, .int 0, .int 0, .int 0])), tT qq1 aq2 (nI 1) (nI 6) 0, tA g aq2 6 (fun _ => 0), tT qq3 aq4 (nI 1) (nI 6) 0, tA g aq4 6 (fun _ => 0)] := hD
  refine lv_aload_n hx hb dX3_init_42 rfl (lv_at hl 0 rfl) ?_
  refine va_new (ci := 6) (fs := [.null, .int 0, .int 0, .int 0]) (C := RX6) (T := TX6) (N := 4) hx hb hts inlX6 tyX6 tyX6_ok hown (hts _ q98) (hts _ q14) (hts _ q15) hK hP hD hS hA rfl (lt_s (lt_s (lt_s (lt_s (lt_0) rfl) rfl) rfl) rfl) (Nat.le_of_ble_eq_true rfl) (Nat.le_of_ble_eq_true rfl) dX3_init_43 (fun qq5 H hP hD hS => ?_)
  refine W.cs (cells' := 5) (slots' := 24) rfl rfl ?_
  have hP : va_P D vwCl [(h, .inr (3, [.ref tk, .ref qq1, .ref qq3, .null, .ref pg, .int 0, .int 0, .int 0, .int 0, .int 0, .int 0, .int 0])), tT qq1 aq2 (nI 1) (nI 6) 0, tA g aq2 6 (fun _ => 0), tT qq3 aq4 (nI 1) (nI 6) 0, tA g aq4 6 (fun _ => 0), (qq5, .inr (6, [.null, .int 0, .int 0, .int 0]))] H := hP
  have hD : va_D A [(h, .inr (3, [.ref tk, .ref qq1, .ref qq3, .null, .ref pg, .int 0, .int 0, .int 0, .int 0, .int 0, .int 0, .int 0])), tT qq1 aq2 (nI 1) (nI 6) 0, tA g aq2 6 (fun _ => 0), tT qq3 aq4 (nI 1) (nI 6) 0, tA g aq4 6 (fun _ => 0), (qq5, .inr (6, [.null, .int 0, .int 0, .int 0]))] := hD
  refine lv_dup hx hb dX3_init_46 rfl ?_
  refine lv_bipush (v := 80) hx hb dX3_init_47 (by decide) ?_
  refine lv_iconst (v := 1) hx hb dX3_init_49 (by decide) ?_
  refine vz_Iv (wr := [(h, .inr (3, [.ref tk, .ref qq1, .ref qq3, .null, .ref pg, .int 0, .int 0, .int 0, .int 0, .int 0, .int 0, .int 0])), tT qq1 aq2 (nI 1) (nI 6) 0, tA g aq2 6 (fun _ => 0), tT qq3 aq4 (nI 1) (nI 6) 0, tA g aq4 6 (fun _ => 0)]) (As := [.int 80, .int 1]) (rest := [.ref qq5, .ref h]) hx hb hml hown hts hK hA hP hD hS (c_T_init l D g qq5 H.size 1 80 80 (by decide +kernel)) ki_X3_21 (⟨Nat.le_of_ble_eq_true rfl, Nat.le_of_ble_eq_true rfl⟩) [5] [0, 1, 2, 3, 4] rfl rfl (by decide) hl.1 (Nat.le_of_ble_eq_true rfl) dX3_init_50 (⟨Nat.le_of_ble_eq_true rfl, Nat.le_of_ble_eq_true rfl⟩) rfl (fun aq6 H locs _ _ hP hD hS => ?_)
  refine W.cs (cells' := 6) (slots' := 104) rfl rfl ?_
  have hP : va_P D vwCl [(h, .inr (3, [.ref tk, .ref qq1, .ref qq3, .null, .ref pg, .int 0, .int 0, .int 0, .int 0, .int 0, .int 0, .int 0])), tT qq1 aq2 (nI 1) (nI 6) 0, tA g aq2 6 (fun _ => 0), tT qq3 aq4 (nI 1) (nI 6) 0, tA g aq4 6 (fun _ => 0), tT qq5 aq6 (nI 1) (nI 80) 0, tA g aq6 80 (fun _ => 0)] H := hP
  have hD : va_D A [(h, .inr (3, [.ref tk, .ref qq1, .ref qq3, .null, .ref pg, .int 0, .int 0, .int 0, .int 0, .int 0, .int 0, .int 0])), tT qq1 aq2 (nI 1) (nI 6) 0, tA g aq2 6 (fun _ => 0), tT qq3 aq4 (nI 1) (nI 6) 0, tA g aq4 6 (fun _ => 0), tT qq5 aq6 (nI 1) (nI 80) 0, tA g aq6 80 (fun _ => 0)] := hD
  refine va_putF (D := D) (ci := 3) (v := .ref qq5) (ty := .object "WaysAtlas$Table") (C := RX3) (T := TX3) (N := 12) hx hb hts inlX3 tyX3 tyX3_ok nmX3 hown hK hP hD hS 0 rfl rfl 3 (by decide) (hts _ q101) (fun _ h => h) rfl hin rfl (by decide +kernel) rfl rfl (Nat.le_of_ble_eq_true rfl) dX3_init_53 (fun H locs hP hD hS => ?_)
  have hP : va_P D vwCl [(h, .inr (3, [.ref tk, .ref qq1, .ref qq3, .ref qq5, .ref pg, .int 0, .int 0, .int 0, .int 0, .int 0, .int 0, .int 0])), tT qq1 aq2 (nI 1) (nI 6) 0, tA g aq2 6 (fun _ => 0), tT qq3 aq4 (nI 1) (nI 6) 0, tA g aq4 6 (fun _ => 0), tT qq5 aq6 (nI 1) (nI 80) 0, tA g aq6 80 (fun _ => 0)] H := hP
  have hD : va_D A [(h, .inr (3, [.ref tk, .ref qq1, .ref qq3, .ref qq5, .ref pg, .int 0, .int 0, .int 0, .int 0, .int 0, .int 0, .int 0])), tT qq1 aq2 (nI 1) (nI 6) 0, tA g aq2 6 (fun _ => 0), tT qq3 aq4 (nI 1) (nI 6) 0, tA g aq4 6 (fun _ => 0), tT qq5 aq6 (nI 1) (nI 80) 0, tA g aq6 80 (fun _ => 0)] := hD
  refine lv_aload_n hx hb dX3_init_56 rfl (lv_at hl 0 rfl) ?_
  refine lv_bipush (v := (-9)) hx hb dX3_init_57 (by decide) ?_
  refine va_put (D := D) (ci := 3) (v := .int (-9)) (ty := .int) (C := RX3) (T := TX3) (N := 12) hx hb hts inlX3 tyX3 tyX3_ok nmX3 hown hK hP hD hS 0 rfl rfl 9 (by decide) (hts _ q102) (fun _ h => h) rfl (by decide +kernel) rfl rfl (Nat.le_of_ble_eq_true rfl) dX3_init_59 (fun H locs hP hD hS => ?_)
  have hP : va_P D vwCl [(h, .inr (3, [.ref tk, .ref qq1, .ref qq3, .ref qq5, .ref pg, .int 0, .int 0, .int 0, .int 0, .int (-9), .int 0, .int 0])), tT qq1 aq2 (nI 1) (nI 6) 0, tA g aq2 6 (fun _ => 0), tT qq3 aq4 (nI 1) (nI 6) 0, tA g aq4 6 (fun _ => 0), tT qq5 aq6 (nI 1) (nI 80) 0, tA g aq6 80 (fun _ => 0)] H := hP
  have hD : va_D A [(h, .inr (3, [.ref tk, .ref qq1, .ref qq3, .ref qq5, .ref pg, .int 0, .int 0, .int 0, .int 0, .int (-9), .int 0, .int 0])), tT qq1 aq2 (nI 1) (nI 6) 0, tA g aq2 6 (fun _ => 0), tT qq3 aq4 (nI 1) (nI 6) 0, tA g aq4 6 (fun _ => 0), tT qq5 aq6 (nI 1) (nI 80) 0, tA g aq6 80 (fun _ => 0)] := hD
  exact vz_vret hx hb hr hlk hK hP hD hS (fun k => [qq1, aq2, qq3, aq4, qq5, aq6].getD k 0) (trivial) [0, 1, 2, 3, 4, 5, 6] rfl (by decide) (Nat.le_of_ble_eq_true rfl) (Nat.le_of_ble_eq_true rfl) dX3_init_62
theorem q107 : Cond.methodLink RX0 3 objectInit ∈ wsL_law := mT_1 (List.mem_of_getElem? (i := 168) rfl) rfl
theorem q108 : Cond.fieldLink RX0 9 "WaysAtlas$Coder" "program" "LWaysAtlas$Program;" ∈ wsL_law := mT_1 (List.mem_of_getElem? (i := 176) rfl) rfl
theorem q109 : Cond.classLink RX0 15 RX6 ∈ wsL_law := mT_1 (List.mem_of_getElem? (i := 169) rfl) rfl
theorem q113 : Cond.methodLink RX0 17 yX6_init ∈ wsL_law := mT_1 (List.mem_of_getElem? (i := 170) rfl) rfl
theorem ki_X0_17 : vz_ci RX0 17 yX6_init cX6_init 3 2 := ⟨q113, q61, q15, q62, by decide +kernel⟩
theorem q110 : Cond.fieldLink RX0 20 "WaysAtlas$Coder" "code" "LWaysAtlas$Table;" ∈ wsL_law := mT_1 (List.mem_of_getElem? (i := 171) rfl) rfl
theorem q111 : Cond.fieldLink RX0 24 "WaysAtlas$Coder" "handlers" "LWaysAtlas$Table;" ∈ wsL_law := mT_1 (List.mem_of_getElem? (i := 173) rfl) rfl
theorem q112 : Cond.fieldLink RX0 27 "WaysAtlas$Coder" "contexts" "LWaysAtlas$Table;" ∈ wsL_law := mT_1 (List.mem_of_getElem? (i := 175) rfl) rfl
theorem dX0_init_0 : decode cX0_init 0 = .ok (.aload_n 0, 1) := by decide +kernel
theorem dX0_init_1 : decode cX0_init 1 = .ok (.invokespecial 3, 3) := by decide +kernel
theorem dX0_init_4 : decode cX0_init 4 = .ok (.aload_n 0, 1) := by decide +kernel
theorem dX0_init_5 : decode cX0_init 5 = .ok (.aload_n 1, 1) := by decide +kernel
theorem dX0_init_6 : decode cX0_init 6 = .ok (.putfield 9, 3) := by decide +kernel
theorem dX0_init_9 : decode cX0_init 9 = .ok (.aload_n 0, 1) := by decide +kernel
theorem dX0_init_10 : decode cX0_init 10 = .ok (.new 15, 3) := by decide +kernel
theorem dX0_init_13 : decode cX0_init 13 = .ok (.dup, 1) := by decide +kernel
theorem dX0_init_14 : decode cX0_init 14 = .ok (.sipush 4500, 3) := by decide +kernel
theorem dX0_init_17 : decode cX0_init 17 = .ok (.iconst 4, 1) := by decide +kernel
theorem dX0_init_18 : decode cX0_init 18 = .ok (.invokespecial 17, 3) := by decide +kernel
theorem dX0_init_21 : decode cX0_init 21 = .ok (.putfield 20, 3) := by decide +kernel
theorem dX0_init_24 : decode cX0_init 24 = .ok (.aload_n 0, 1) := by decide +kernel
theorem dX0_init_25 : decode cX0_init 25 = .ok (.new 15, 3) := by decide +kernel
theorem dX0_init_28 : decode cX0_init 28 = .ok (.dup, 1) := by decide +kernel
theorem dX0_init_29 : decode cX0_init 29 = .ok (.sipush 500, 3) := by decide +kernel
theorem dX0_init_32 : decode cX0_init 32 = .ok (.iconst 3, 1) := by decide +kernel
theorem dX0_init_33 : decode cX0_init 33 = .ok (.invokespecial 17, 3) := by decide +kernel
theorem dX0_init_36 : decode cX0_init 36 = .ok (.putfield 24, 3) := by decide +kernel
theorem dX0_init_39 : decode cX0_init 39 = .ok (.aload_n 0, 1) := by decide +kernel
theorem dX0_init_40 : decode cX0_init 40 = .ok (.new 15, 3) := by decide +kernel
theorem dX0_init_43 : decode cX0_init 43 = .ok (.dup, 1) := by decide +kernel
theorem dX0_init_44 : decode cX0_init 44 = .ok (.bipush 64, 2) := by decide +kernel
theorem dX0_init_46 : decode cX0_init 46 = .ok (.bipush 6, 2) := by decide +kernel
theorem dX0_init_48 : decode cX0_init 48 = .ok (.invokespecial 17, 3) := by decide +kernel
theorem dX0_init_51 : decode cX0_init 51 = .ok (.putfield 27, 3) := by decide +kernel
theorem dX0_init_54 : decode cX0_init 54 = .ok (.return_, 1) := by decide +kernel
set_option maxHeartbeats 4000000 in
set_option maxRecDepth 100000 in
theorem c_D_init (l : Launch) (D : va_G) (g : Nat → ClassId) (h sz : Nat) (pg : Nat) : vz_Mv l D (tyG g) yX0_init cX0_init 2 2 40 6 19896 [.ref h, .ref pg] sz [(h, .inr (0, [.null, .null, .null, .null, .int 0, .int 0, .int 0, .int 0]))] (fun _ : Nat → Nat => True) (fun a => [(h, .inr (0, [.ref (a 0), .ref (a 2), .ref (a 4), .ref pg, .int 0, .int 0, .int 0, .int 0])), tT (a 0) (a 1) (nI 4) (nI 4500) 0, tA g (a 1) 18000 (fun _ => 0), tT (a 2) (a 3) (nI 3) (nI 500) 0, tA g (a 3) 1500 (fun _ => 0), tT (a 4) (a 5) (nI 6) (nI 64) 0, tA g (a 5) 384 (fun _ => 0)]) := by
  refine vz_sv (by decide) (Nat.le_of_ble_eq_true rfl) (fun p e s m args below meth c hx hb hr hml hts hown hlk hin hK hsz A hA H locs hP hD hS ls hl => ?_)
  have hl : lv_has ls 2 [(0, .ref h), (1, .ref pg)] := hl
  refine lv_aload_n hx hb dX0_init_0 rfl (lv_at hl 0 rfl) ?_
  refine W.objInit hx hb hown (hts _ q107) (hts _ q11) (hts _ q12) rfl (hl.1.trans hml.symm) rfl dX0_init_1 (Nat.le_of_ble_eq_true rfl) (Nat.le_of_ble_eq_true rfl) ?_
  refine W.eq (g2 := F0 m 4 ls []) rfl ?_
  refine lv_aload_n hx hb dX0_init_4 rfl (lv_at hl 0 rfl) ?_
  refine lv_aload_n hx hb dX0_init_5 rfl (lv_at hl 1 rfl) ?_
  refine va_put (D := D) (ci := 0) (v := .ref pg) (ty := .object "WaysAtlas$Program") (C := RX0) (T := TX0) (N := 8) hx hb hts inlX0 tyX0 tyX0_ok nmX0 hown hK hP hD hS 0 rfl rfl 3 (by decide) (hts _ q108) (fun _ h => h) rfl (by decide +kernel) rfl rfl (Nat.le_of_ble_eq_true rfl) dX0_init_6 (fun H locs hP hD hS => ?_)
  have hP : va_P D vwCl [(h, .inr (0, [.null, .null, .null, .ref pg, .int 0, .int 0, .int 0, .int 0]))] H := hP
  have hD : va_D A [(h, .inr (0, [.null, .null, .null, .ref pg, .int 0, .int 0, .int 0, .int 0]))] := hD
  refine lv_aload_n hx hb dX0_init_9 rfl (lv_at hl 0 rfl) ?_
  refine va_new (ci := 6) (fs := [.null, .int 0, .int 0, .int 0]) (C := RX6) (T := TX6) (N := 4) hx hb hts inlX6 tyX6 tyX6_ok hown (hts _ q109) (hts _ q14) (hts _ q15) hK hP hD hS hA rfl (lt_s (lt_s (lt_s (lt_s (lt_0) rfl) rfl) rfl) rfl) (Nat.le_of_ble_eq_true rfl) (Nat.le_of_ble_eq_true rfl) dX0_init_10 (fun qq1 H hP hD hS => ?_)
  refine W.cs (cells' := 1) (slots' := 4) rfl rfl ?_
  have hP : va_P D vwCl [(h, .inr (0, [.null, .null, .null, .ref pg, .int 0, .int 0, .int 0, .int 0])), (qq1, .inr (6, [.null, .int 0, .int 0, .int 0]))] H := hP
  have hD : va_D A [(h, .inr (0, [.null, .null, .null, .ref pg, .int 0, .int 0, .int 0, .int 0])), (qq1, .inr (6, [.null, .int 0, .int 0, .int 0]))] := hD
  refine lv_dup hx hb dX0_init_13 rfl ?_
  refine lv_sipush (v := 4500) hx hb dX0_init_14 (by decide) ?_
  refine lv_iconst (v := 4) hx hb dX0_init_17 (by decide) ?_
  refine vz_Iv (wr := [(h, .inr (0, [.null, .null, .null, .ref pg, .int 0, .int 0, .int 0, .int 0]))]) (As := [.int 4500, .int 4]) (rest := [.ref qq1, .ref h]) hx hb hml hown hts hK hA hP hD hS (c_T_init l D g qq1 H.size 4 4500 18000 (by decide +kernel)) ki_X0_17 (⟨Nat.le_of_ble_eq_true rfl, Nat.le_of_ble_eq_true rfl⟩) [1] [0] rfl rfl (by decide) hl.1 (Nat.le_of_ble_eq_true rfl) dX0_init_18 (⟨Nat.le_of_ble_eq_true rfl, Nat.le_of_ble_eq_true rfl⟩) rfl (fun aq2 H locs _ _ hP hD hS => ?_)
  refine W.cs (cells' := 2) (slots' := 18004) rfl rfl ?_
  have hP : va_P D vwCl [(h, .inr (0, [.null, .null, .null, .ref pg, .int 0, .int 0, .int 0, .int 0])), tT qq1 aq2 (nI 4) (nI 4500) 0, tA g aq2 18000 (fun _ => 0)] H := hP
  have hD : va_D A [(h, .inr (0, [.null, .null, .null, .ref pg, .int 0, .int 0, .int 0, .int 0])), tT qq1 aq2 (nI 4) (nI 4500) 0, tA g aq2 18000 (fun _ => 0)] := hD
  refine va_putF (D := D) (ci := 0) (v := .ref qq1) (ty := .object "WaysAtlas$Table") (C := RX0) (T := TX0) (N := 8) hx hb hts inlX0 tyX0 tyX0_ok nmX0 hown hK hP hD hS 0 rfl rfl 0 (by decide) (hts _ q110) (fun _ h => h) rfl hin rfl (by decide +kernel) rfl rfl (Nat.le_of_ble_eq_true rfl) dX0_init_21 (fun H locs hP hD hS => ?_)
  have hP : va_P D vwCl [(h, .inr (0, [.ref qq1, .null, .null, .ref pg, .int 0, .int 0, .int 0, .int 0])), tT qq1 aq2 (nI 4) (nI 4500) 0, tA g aq2 18000 (fun _ => 0)] H := hP
  have hD : va_D A [(h, .inr (0, [.ref qq1, .null, .null, .ref pg, .int 0, .int 0, .int 0, .int 0])), tT qq1 aq2 (nI 4) (nI 4500) 0, tA g aq2 18000 (fun _ => 0)] := hD
  refine lv_aload_n hx hb dX0_init_24 rfl (lv_at hl 0 rfl) ?_
  refine va_new (ci := 6) (fs := [.null, .int 0, .int 0, .int 0]) (C := RX6) (T := TX6) (N := 4) hx hb hts inlX6 tyX6 tyX6_ok hown (hts _ q109) (hts _ q14) (hts _ q15) hK hP hD hS hA rfl (lt_s (lt_s (lt_s (lt_s (lt_0) rfl) rfl) rfl) rfl) (Nat.le_of_ble_eq_true rfl) (Nat.le_of_ble_eq_true rfl) dX0_init_25 (fun qq3 H hP hD hS => ?_)
  refine W.cs (cells' := 3) (slots' := 18008) rfl rfl ?_
  have hP : va_P D vwCl [(h, .inr (0, [.ref qq1, .null, .null, .ref pg, .int 0, .int 0, .int 0, .int 0])), tT qq1 aq2 (nI 4) (nI 4500) 0, tA g aq2 18000 (fun _ => 0), (qq3, .inr (6, [.null, .int 0, .int 0, .int 0]))] H := hP
  have hD : va_D A [(h, .inr (0, [.ref qq1, .null, .null, .ref pg, .int 0, .int 0, .int 0, .int 0])), tT qq1 aq2 (nI 4) (nI 4500) 0, tA g aq2 18000 (fun _ => 0), (qq3, .inr (6, [.null, .int 0, .int 0, .int 0]))] := hD
  refine lv_dup hx hb dX0_init_28 rfl ?_
  refine lv_sipush (v := 500) hx hb dX0_init_29 (by decide) ?_
  refine lv_iconst (v := 3) hx hb dX0_init_32 (by decide) ?_
  refine vz_Iv (wr := [(h, .inr (0, [.ref qq1, .null, .null, .ref pg, .int 0, .int 0, .int 0, .int 0])), tT qq1 aq2 (nI 4) (nI 4500) 0, tA g aq2 18000 (fun _ => 0)]) (As := [.int 500, .int 3]) (rest := [.ref qq3, .ref h]) hx hb hml hown hts hK hA hP hD hS (c_T_init l D g qq3 H.size 3 500 1500 (by decide +kernel)) ki_X0_17 (⟨Nat.le_of_ble_eq_true rfl, Nat.le_of_ble_eq_true rfl⟩) [3] [0, 1, 2] rfl rfl (by decide) hl.1 (Nat.le_of_ble_eq_true rfl) dX0_init_33 (⟨Nat.le_of_ble_eq_true rfl, Nat.le_of_ble_eq_true rfl⟩) rfl (fun aq4 H locs _ _ hP hD hS => ?_)
  refine W.cs (cells' := 4) (slots' := 19508) rfl rfl ?_
  have hP : va_P D vwCl [(h, .inr (0, [.ref qq1, .null, .null, .ref pg, .int 0, .int 0, .int 0, .int 0])), tT qq1 aq2 (nI 4) (nI 4500) 0, tA g aq2 18000 (fun _ => 0), tT qq3 aq4 (nI 3) (nI 500) 0, tA g aq4 1500 (fun _ => 0)] H := hP
  have hD : va_D A [(h, .inr (0, [.ref qq1, .null, .null, .ref pg, .int 0, .int 0, .int 0, .int 0])), tT qq1 aq2 (nI 4) (nI 4500) 0, tA g aq2 18000 (fun _ => 0), tT qq3 aq4 (nI 3) (nI 500) 0, tA g aq4 1500 (fun _ => 0)] := hD
  refine va_putF (D := D) (ci := 0) (v := .ref qq3) (ty := .object "WaysAtlas$Table") (C := RX0) (T := TX0) (N := 8) hx hb hts inlX0 tyX0 tyX0_ok nmX0 hown hK hP hD hS 0 rfl rfl 1 (by decide) (hts _ q111) (fun _ h => h) rfl hin rfl (by decide +kernel) rfl rfl (Nat.le_of_ble_eq_true rfl) dX0_init_36 (fun H locs hP hD hS => ?_)
  have hP : va_P D vwCl [(h, .inr (0, [.ref qq1, .ref qq3, .null, .ref pg, .int 0, .int 0, .int 0, .int 0])), tT qq1 aq2 (nI 4) (nI 4500) 0, tA g aq2 18000 (fun _ => 0), tT qq3 aq4 (nI 3) (nI 500) 0, tA g aq4 1500 (fun _ => 0)] H := hP
  have hD : va_D A [(h, .inr (0, [.ref qq1, .ref qq3, .null, .ref pg, .int 0, .int 0, .int 0, .int 0])), tT qq1 aq2 (nI 4) (nI 4500) 0, tA g aq2 18000 (fun _ => 0), tT qq3 aq4 (nI 3) (nI 500) 0, tA g aq4 1500 (fun _ => 0)] := hD
  refine lv_aload_n hx hb dX0_init_39 rfl (lv_at hl 0 rfl) ?_
  refine va_new (ci := 6) (fs := [.null, .int 0, .int 0, .int 0]) (C := RX6) (T := TX6) (N := 4) hx hb hts inlX6 tyX6 tyX6_ok hown (hts _ q109) (hts _ q14) (hts _ q15) hK hP hD hS hA rfl (lt_s (lt_s (lt_s (lt_s (lt_0) rfl) rfl) rfl) rfl) (Nat.le_of_ble_eq_true rfl) (Nat.le_of_ble_eq_true rfl) dX0_init_40 (fun qq5 H hP hD hS => ?_)
  refine W.cs (cells' := 5) (slots' := 19512) rfl rfl ?_
  have hP : va_P D vwCl [(h, .inr (0, [.ref qq1, .ref qq3, .null, .ref pg, .int 0, .int 0, .int 0, .int 0])), tT qq1 aq2 (nI 4) (nI 4500) 0, tA g aq2 18000 (fun _ => 0), tT qq3 aq4 (nI 3) (nI 500) 0, tA g aq4 1500 (fun _ => 0), (qq5, .inr (6, [.null, .int 0, .int 0, .int 0]))] H := hP
  have hD : va_D A [(h, .inr (0, [.ref qq1, .ref qq3, .null, .ref pg, .int 0, .int 0, .int 0, .int 0])), tT qq1 aq2 (nI 4) (nI 4500) 0, tA g aq2 18000 (fun _ => 0), tT qq3 aq4 (nI 3) (nI 500) 0, tA g aq4 1500 (fun _ => 0), (qq5, .inr (6, [.null, .int 0, .int 0, .int 0]))] := hD
  refine lv_dup hx hb dX0_init_43 rfl ?_
  refine lv_bipush (v := 64) hx hb dX0_init_44 (by decide) ?_
  refine lv_bipush (v := 6) hx hb dX0_init_46 (by decide) ?_
  refine vz_Iv (wr := [(h, .inr (0, [.ref qq1, .ref qq3, .null, .ref pg, .int 0, .int 0, .int 0, .int 0])), tT qq1 aq2 (nI 4) (nI 4500) 0, tA g aq2 18000 (fun _ => 0), tT qq3 aq4 (nI 3) (nI 500) 0, tA g aq4 1500 (fun _ => 0)]) (As := [.int 64, .int 6]) (rest := [.ref qq5, .ref h]) hx hb hml hown hts hK hA hP hD hS (c_T_init l D g qq5 H.size 6 64 384 (by decide +kernel)) ki_X0_17 (⟨Nat.le_of_ble_eq_true rfl, Nat.le_of_ble_eq_true rfl⟩) [5] [0, 1, 2, 3, 4] rfl rfl (by decide) hl.1 (Nat.le_of_ble_eq_true rfl) dX0_init_48 (⟨Nat.le_of_ble_eq_true rfl, Nat.le_of_ble_eq_true rfl⟩) rfl (fun aq6 H locs _ _ hP hD hS => ?_)
  refine W.cs (cells' := 6) (slots' := 19896) rfl rfl ?_
  have hP : va_P D vwCl [(h, .inr (0, [.ref qq1, .ref qq3, .null, .ref pg, .int 0, .int 0, .int 0, .int 0])), tT qq1 aq2 (nI 4) (nI 4500) 0, tA g aq2 18000 (fun _ => 0), tT qq3 aq4 (nI 3) (nI 500) 0, tA g aq4 1500 (fun _ => 0), tT qq5 aq6 (nI 6) (nI 64) 0, tA g aq6 384 (fun _ => 0)] H := hP
  have hD : va_D A [(h, .inr (0, [.ref qq1, .ref qq3, .null, .ref pg, .int 0, .int 0, .int 0, .int 0])), tT qq1 aq2 (nI 4) (nI 4500) 0, tA g aq2 18000 (fun _ => 0), tT qq3 aq4 (nI 3) (nI 500) 0, tA g aq4 1500 (fun _ => 0), tT qq5 aq6 (nI 6) (nI 64) 0, tA g aq6 384 (fun _ => 0)] := hD
  refine va_putF (D := D) (ci := 0) (v := .ref qq5) (ty := .object "WaysAtlas$Table") (C := RX0) (T := TX0) (N := 8) hx hb hts inlX0 tyX0 tyX0_ok nmX0 hown hK hP hD hS 0 rfl rfl 2 (by decide) (hts _ q112) (fun _ h => h) rfl hin rfl (by decide +kernel) rfl rfl (Nat.le_of_ble_eq_true rfl) dX0_init_51 (fun H locs hP hD hS => ?_)
  have hP : va_P D vwCl [(h, .inr (0, [.ref qq1, .ref qq3, .ref qq5, .ref pg, .int 0, .int 0, .int 0, .int 0])), tT qq1 aq2 (nI 4) (nI 4500) 0, tA g aq2 18000 (fun _ => 0), tT qq3 aq4 (nI 3) (nI 500) 0, tA g aq4 1500 (fun _ => 0), tT qq5 aq6 (nI 6) (nI 64) 0, tA g aq6 384 (fun _ => 0)] H := hP
  have hD : va_D A [(h, .inr (0, [.ref qq1, .ref qq3, .ref qq5, .ref pg, .int 0, .int 0, .int 0, .int 0])), tT qq1 aq2 (nI 4) (nI 4500) 0, tA g aq2 18000 (fun _ => 0), tT qq3 aq4 (nI 3) (nI 500) 0, tA g aq4 1500 (fun _ => 0), tT qq5 aq6 (nI 6) (nI 64) 0, tA g aq6 384 (fun _ => 0)] := hD
  exact vz_vret hx hb hr hlk hK hP hD hS (fun k => [qq1, aq2, qq3, aq4, qq5, aq6].getD k 0) (trivial) [0, 1, 2, 3, 4, 5, 6] rfl (by decide) (Nat.le_of_ble_eq_true rfl) (Nat.le_of_ble_eq_true rfl) dX0_init_54
theorem q129 : Cond.methodLink RX8 3 objectInit ∈ wsL_law := mT_2 (List.mem_of_getElem? (i := 28) rfl) rfl
theorem q130 : Cond.fieldLink RX8 9 "WaysAtlas$World" "program" "LWaysAtlas$Program;" ∈ wsL_law := mT_2 (List.mem_of_getElem? (i := 44) rfl) rfl
theorem q131 : Cond.fieldLink RX8 15 "WaysAtlas$World" "plan" "LWaysAtlas$Table;" ∈ wsL_law := mT_2 (List.mem_of_getElem? (i := 50) rfl) rfl
theorem q132 : Cond.fieldLink RX8 19 "WaysAtlas$World" "record" "LWaysAtlas$RunRecord;" ∈ wsL_law := mT_2 (List.mem_of_getElem? (i := 47) rfl) rfl
theorem q133 : Cond.classLink RX8 23 RX6 ∈ wsL_law := mT_2 (List.mem_of_getElem? (i := 29) rfl) rfl
theorem q140 : Cond.methodLink RX8 25 yX6_init ∈ wsL_law := mT_2 (List.mem_of_getElem? (i := 30) rfl) rfl
theorem ki_X8_25 : vz_ci RX8 25 yX6_init cX6_init 3 2 := ⟨q140, q61, q15, q62, by decide +kernel⟩
theorem q134 : Cond.fieldLink RX8 28 "WaysAtlas$World" "passings" "LWaysAtlas$Table;" ∈ wsL_law := mT_2 (List.mem_of_getElem? (i := 38) rfl) rfl
theorem q135 : Cond.fieldLink RX8 31 "WaysAtlas$World" "activations" "LWaysAtlas$Table;" ∈ wsL_law := mT_2 (List.mem_of_getElem? (i := 40) rfl) rfl
theorem q136 : Cond.fieldLink RX8 34 "WaysAtlas$World" "slots" "LWaysAtlas$Table;" ∈ wsL_law := mT_2 (List.mem_of_getElem? (i := 41) rfl) rfl
theorem q137 : Cond.fieldLink RX8 37 "WaysAtlas$World" "arrays" "LWaysAtlas$Table;" ∈ wsL_law := mT_2 (List.mem_of_getElem? (i := 42) rfl) rfl
theorem q138 : Cond.fieldLink RX8 40 "WaysAtlas$World" "passed" "LWaysAtlas$Table;" ∈ wsL_law := mT_2 (List.mem_of_getElem? (i := 43) rfl) rfl
theorem q141 : Cond.methodLink RX8 43 yX6_fill ∈ wsL_law := mT_2 (List.mem_of_getElem? (i := 31) rfl) rfl
theorem q142 : Cond.instanceMethod yX6_fill ∈ wsL_law := mT_2 (List.mem_of_getElem? (i := 32) rfl) rfl
theorem q143 : Cond.selects RX6 yX6_fill yX6_fill ∈ wsL_law := mT_2 (List.mem_of_getElem? (i := 33) rfl) rfl
theorem q144 : Cond.code yX6_fill cX6_fill 4 none ∈ wsL_law := mT_2 (List.mem_of_getElem? (i := 34) rfl) rfl
theorem kv_X8_43 : vz_cv RX8 43 yX6_fill cX6_fill 4 none 2 := ⟨q141, q142, q143, q15, q144, by decide +kernel⟩
theorem q139 : Cond.fieldLink RX8 46 "WaysAtlas$World" "thrown" "I" ∈ wsL_law := mT_2 (List.mem_of_getElem? (i := 52) rfl) rfl
theorem dX8_init_0 : decode cX8_init 0 = .ok (.aload_n 0, 1) := by decide +kernel
theorem dX8_init_1 : decode cX8_init 1 = .ok (.invokespecial 3, 3) := by decide +kernel
theorem dX8_init_4 : decode cX8_init 4 = .ok (.aload_n 0, 1) := by decide +kernel
theorem dX8_init_5 : decode cX8_init 5 = .ok (.aload_n 1, 1) := by decide +kernel
theorem dX8_init_6 : decode cX8_init 6 = .ok (.putfield 9, 3) := by decide +kernel
theorem dX8_init_9 : decode cX8_init 9 = .ok (.aload_n 0, 1) := by decide +kernel
theorem dX8_init_10 : decode cX8_init 10 = .ok (.aload_n 2, 1) := by decide +kernel
theorem dX8_init_11 : decode cX8_init 11 = .ok (.putfield 15, 3) := by decide +kernel
theorem dX8_init_14 : decode cX8_init 14 = .ok (.aload_n 0, 1) := by decide +kernel
theorem dX8_init_15 : decode cX8_init 15 = .ok (.aload_n 3, 1) := by decide +kernel
theorem dX8_init_16 : decode cX8_init 16 = .ok (.putfield 19, 3) := by decide +kernel
theorem dX8_init_19 : decode cX8_init 19 = .ok (.aload_n 0, 1) := by decide +kernel
theorem dX8_init_20 : decode cX8_init 20 = .ok (.new 23, 3) := by decide +kernel
theorem dX8_init_23 : decode cX8_init 23 = .ok (.dup, 1) := by decide +kernel
theorem dX8_init_24 : decode cX8_init 24 = .ok (.bipush 60, 2) := by decide +kernel
theorem dX8_init_26 : decode cX8_init 26 = .ok (.iconst 3, 1) := by decide +kernel
theorem dX8_init_27 : decode cX8_init 27 = .ok (.invokespecial 25, 3) := by decide +kernel
theorem dX8_init_30 : decode cX8_init 30 = .ok (.putfield 28, 3) := by decide +kernel
theorem dX8_init_33 : decode cX8_init 33 = .ok (.aload_n 0, 1) := by decide +kernel
theorem dX8_init_34 : decode cX8_init 34 = .ok (.new 23, 3) := by decide +kernel
theorem dX8_init_37 : decode cX8_init 37 = .ok (.dup, 1) := by decide +kernel
theorem dX8_init_38 : decode cX8_init 38 = .ok (.bipush 12, 2) := by decide +kernel
theorem dX8_init_40 : decode cX8_init 40 = .ok (.bipush 12, 2) := by decide +kernel
theorem dX8_init_42 : decode cX8_init 42 = .ok (.invokespecial 25, 3) := by decide +kernel
theorem dX8_init_45 : decode cX8_init 45 = .ok (.putfield 31, 3) := by decide +kernel
theorem dX8_init_48 : decode cX8_init 48 = .ok (.aload_n 0, 1) := by decide +kernel
theorem dX8_init_49 : decode cX8_init 49 = .ok (.new 23, 3) := by decide +kernel
theorem dX8_init_52 : decode cX8_init 52 = .ok (.dup, 1) := by decide +kernel
theorem dX8_init_53 : decode cX8_init 53 = .ok (.bipush 72, 2) := by decide +kernel
theorem dX8_init_55 : decode cX8_init 55 = .ok (.bipush 11, 2) := by decide +kernel
theorem dX8_init_57 : decode cX8_init 57 = .ok (.invokespecial 25, 3) := by decide +kernel
theorem dX8_init_60 : decode cX8_init 60 = .ok (.putfield 34, 3) := by decide +kernel
theorem dX8_init_63 : decode cX8_init 63 = .ok (.aload_n 0, 1) := by decide +kernel
theorem dX8_init_64 : decode cX8_init 64 = .ok (.new 23, 3) := by decide +kernel
theorem dX8_init_67 : decode cX8_init 67 = .ok (.dup, 1) := by decide +kernel
theorem dX8_init_68 : decode cX8_init 68 = .ok (.sipush 400, 3) := by decide +kernel
theorem dX8_init_71 : decode cX8_init 71 = .ok (.bipush 9, 2) := by decide +kernel
theorem dX8_init_73 : decode cX8_init 73 = .ok (.invokespecial 25, 3) := by decide +kernel
theorem dX8_init_76 : decode cX8_init 76 = .ok (.putfield 37, 3) := by decide +kernel
theorem dX8_init_79 : decode cX8_init 79 = .ok (.aload_n 0, 1) := by decide +kernel
theorem dX8_init_80 : decode cX8_init 80 = .ok (.new 23, 3) := by decide +kernel
theorem dX8_init_83 : decode cX8_init 83 = .ok (.dup, 1) := by decide +kernel
theorem dX8_init_84 : decode cX8_init 84 = .ok (.bipush 80, 2) := by decide +kernel
theorem dX8_init_86 : decode cX8_init 86 = .ok (.bipush 7, 2) := by decide +kernel
theorem dX8_init_88 : decode cX8_init 88 = .ok (.invokespecial 25, 3) := by decide +kernel
theorem dX8_init_91 : decode cX8_init 91 = .ok (.putfield 40, 3) := by decide +kernel
theorem dX8_init_94 : decode cX8_init 94 = .ok (.aload_n 0, 1) := by decide +kernel
theorem dX8_init_95 : decode cX8_init 95 = .ok (.getfield 34, 3) := by decide +kernel
theorem dX8_init_98 : decode cX8_init 98 = .ok (.bipush 72, 2) := by decide +kernel
theorem dX8_init_100 : decode cX8_init 100 = .ok (.bipush (-9), 2) := by decide +kernel
theorem dX8_init_102 : decode cX8_init 102 = .ok (.invokevirtual 43, 3) := by decide +kernel
theorem dX8_init_105 : decode cX8_init 105 = .ok (.aload_n 0, 1) := by decide +kernel
theorem dX8_init_106 : decode cX8_init 106 = .ok (.bipush (-9), 2) := by decide +kernel
theorem dX8_init_108 : decode cX8_init 108 = .ok (.putfield 46, 3) := by decide +kernel
theorem dX8_init_111 : decode cX8_init 111 = .ok (.return_, 1) := by decide +kernel
set_option maxHeartbeats 4000000 in
set_option maxRecDepth 100000 in
theorem c_W_init (l : Launch) (D : va_G) (g : Nat → ClassId) (h sz : Nat) (pg pl rc : Nat) : vz_Mv l D (tyG g) yX8_init cX8_init 4 2 40 10 5296 [.ref h, .ref pg, .ref pl, .ref rc] sz [(h, .inr (8, [.null, .null, .null, .null, .null, .null, .null, .null, .int 0, .int 0, .int 0]))] (fun _ : Nat → Nat => True) (fun a => [(h, .inr (8, [.ref (a 0), .ref (a 2), .ref (a 4), .ref (a 6), .ref (a 8), .ref pg, .ref rc, .ref pl, .int 0, .int (-9), .int 0])), tT (a 0) (a 1) (nI 3) (nI 60) 0, tA g (a 1) 180 (fun _ => 0), tT (a 2) (a 3) (nI 12) (nI 12) 0, tA g (a 3) 144 (fun _ => 0), tT (a 4) (a 5) (nI 11) (nI 72) (nI 72), tA g (a 5) 792 (tf (fun _ => 0) 0 (72 * 11) (-9)), tT (a 6) (a 7) (nI 9) (nI 400) 0, tA g (a 7) 3600 (fun _ => 0), tT (a 8) (a 9) (nI 7) (nI 80) 0, tA g (a 9) 560 (fun _ => 0)]) := by
  refine vz_sv (by decide) (Nat.le_of_ble_eq_true rfl) (fun p e s m args below meth c hx hb hr hml hts hown hlk hin hK hsz A hA H locs hP hD hS ls hl => ?_)
  have hl : lv_has ls 4 [(0, .ref h), (1, .ref pg), (2, .ref pl), (3, .ref rc)] := hl
  refine lv_aload_n hx hb dX8_init_0 rfl (lv_at hl 0 rfl) ?_
  refine W.objInit hx hb hown (hts _ q129) (hts _ q11) (hts _ q12) rfl (hl.1.trans hml.symm) rfl dX8_init_1 (Nat.le_of_ble_eq_true rfl) (Nat.le_of_ble_eq_true rfl) ?_
  refine W.eq (g2 := F0 m 4 ls []) rfl ?_
  refine lv_aload_n hx hb dX8_init_4 rfl (lv_at hl 0 rfl) ?_
  refine lv_aload_n hx hb dX8_init_5 rfl (lv_at hl 1 rfl) ?_
  refine va_put (D := D) (ci := 8) (v := .ref pg) (ty := .object "WaysAtlas$Program") (C := RX8) (T := TX8) (N := 11) hx hb hts inlX8 tyX8 tyX8_ok nmX8 hown hK hP hD hS 0 rfl rfl 5 (by decide) (hts _ q130) (fun _ h => h) rfl (by decide +kernel) rfl rfl (Nat.le_of_ble_eq_true rfl) dX8_init_6 (fun H locs hP hD hS => ?_)
  have hP : va_P D vwCl [(h, .inr (8, [.null, .null, .null, .null, .null, .ref pg, .null, .null, .int 0, .int 0, .int 0]))] H := hP
  have hD : va_D A [(h, .inr (8, [.null, .null, .null, .null, .null, .ref pg, .null, .null, .int 0, .int 0, .int 0]))] := hD
  refine lv_aload_n hx hb dX8_init_9 rfl (lv_at hl 0 rfl) ?_
  refine lv_aload_n hx hb dX8_init_10 rfl (lv_at hl 2 rfl) ?_
  refine va_put (D := D) (ci := 8) (v := .ref pl) (ty := .object "WaysAtlas$Table") (C := RX8) (T := TX8) (N := 11) hx hb hts inlX8 tyX8 tyX8_ok nmX8 hown hK hP hD hS 0 rfl rfl 7 (by decide) (hts _ q131) (fun _ h => h) rfl (by decide +kernel) rfl rfl (Nat.le_of_ble_eq_true rfl) dX8_init_11 (fun H locs hP hD hS => ?_)
  have hP : va_P D vwCl [(h, .inr (8, [.null, .null, .null, .null, .null, .ref pg, .null, .ref pl, .int 0, .int 0, .int 0]))] H := hP
  have hD : va_D A [(h, .inr (8, [.null, .null, .null, .null, .null, .ref pg, .null, .ref pl, .int 0, .int 0, .int 0]))] := hD
  refine lv_aload_n hx hb dX8_init_14 rfl (lv_at hl 0 rfl) ?_
  refine lv_aload_n hx hb dX8_init_15 rfl (lv_at hl 3 rfl) ?_
  refine va_put (D := D) (ci := 8) (v := .ref rc) (ty := .object "WaysAtlas$RunRecord") (C := RX8) (T := TX8) (N := 11) hx hb hts inlX8 tyX8 tyX8_ok nmX8 hown hK hP hD hS 0 rfl rfl 6 (by decide) (hts _ q132) (fun _ h => h) rfl (by decide +kernel) rfl rfl (Nat.le_of_ble_eq_true rfl) dX8_init_16 (fun H locs hP hD hS => ?_)
  have hP : va_P D vwCl [(h, .inr (8, [.null, .null, .null, .null, .null, .ref pg, .ref rc, .ref pl, .int 0, .int 0, .int 0]))] H := hP
  have hD : va_D A [(h, .inr (8, [.null, .null, .null, .null, .null, .ref pg, .ref rc, .ref pl, .int 0, .int 0, .int 0]))] := hD
  refine lv_aload_n hx hb dX8_init_19 rfl (lv_at hl 0 rfl) ?_
  refine va_new (ci := 6) (fs := [.null, .int 0, .int 0, .int 0]) (C := RX6) (T := TX6) (N := 4) hx hb hts inlX6 tyX6 tyX6_ok hown (hts _ q133) (hts _ q14) (hts _ q15) hK hP hD hS hA rfl (lt_s (lt_s (lt_s (lt_s (lt_0) rfl) rfl) rfl) rfl) (Nat.le_of_ble_eq_true rfl) (Nat.le_of_ble_eq_true rfl) dX8_init_20 (fun qq1 H hP hD hS => ?_)
  refine W.cs (cells' := 1) (slots' := 4) rfl rfl ?_
  have hP : va_P D vwCl [(h, .inr (8, [.null, .null, .null, .null, .null, .ref pg, .ref rc, .ref pl, .int 0, .int 0, .int 0])), (qq1, .inr (6, [.null, .int 0, .int 0, .int 0]))] H := hP
  have hD : va_D A [(h, .inr (8, [.null, .null, .null, .null, .null, .ref pg, .ref rc, .ref pl, .int 0, .int 0, .int 0])), (qq1, .inr (6, [.null, .int 0, .int 0, .int 0]))] := hD
  refine lv_dup hx hb dX8_init_23 rfl ?_
  refine lv_bipush (v := 60) hx hb dX8_init_24 (by decide) ?_
  refine lv_iconst (v := 3) hx hb dX8_init_26 (by decide) ?_
  refine vz_Iv (wr := [(h, .inr (8, [.null, .null, .null, .null, .null, .ref pg, .ref rc, .ref pl, .int 0, .int 0, .int 0]))]) (As := [.int 60, .int 3]) (rest := [.ref qq1, .ref h]) hx hb hml hown hts hK hA hP hD hS (c_T_init l D g qq1 H.size 3 60 180 (by decide +kernel)) ki_X8_25 (⟨Nat.le_of_ble_eq_true rfl, Nat.le_of_ble_eq_true rfl⟩) [1] [0] rfl rfl (by decide) hl.1 (Nat.le_of_ble_eq_true rfl) dX8_init_27 (⟨Nat.le_of_ble_eq_true rfl, Nat.le_of_ble_eq_true rfl⟩) rfl (fun aq2 H locs _ _ hP hD hS => ?_)
  refine W.cs (cells' := 2) (slots' := 184) rfl rfl ?_
  have hP : va_P D vwCl [(h, .inr (8, [.null, .null, .null, .null, .null, .ref pg, .ref rc, .ref pl, .int 0, .int 0, .int 0])), tT qq1 aq2 (nI 3) (nI 60) 0, tA g aq2 180 (fun _ => 0)] H := hP
  have hD : va_D A [(h, .inr (8, [.null, .null, .null, .null, .null, .ref pg, .ref rc, .ref pl, .int 0, .int 0, .int 0])), tT qq1 aq2 (nI 3) (nI 60) 0, tA g aq2 180 (fun _ => 0)] := hD
  refine va_putF (D := D) (ci := 8) (v := .ref qq1) (ty := .object "WaysAtlas$Table") (C := RX8) (T := TX8) (N := 11) hx hb hts inlX8 tyX8 tyX8_ok nmX8 hown hK hP hD hS 0 rfl rfl 0 (by decide) (hts _ q134) (fun _ h => h) rfl hin rfl (by decide +kernel) rfl rfl (Nat.le_of_ble_eq_true rfl) dX8_init_30 (fun H locs hP hD hS => ?_)
  have hP : va_P D vwCl [(h, .inr (8, [.ref qq1, .null, .null, .null, .null, .ref pg, .ref rc, .ref pl, .int 0, .int 0, .int 0])), tT qq1 aq2 (nI 3) (nI 60) 0, tA g aq2 180 (fun _ => 0)] H := hP
  have hD : va_D A [(h, .inr (8, [.ref qq1, .null, .null, .null, .null, .ref pg, .ref rc, .ref pl, .int 0, .int 0, .int 0])), tT qq1 aq2 (nI 3) (nI 60) 0, tA g aq2 180 (fun _ => 0)] := hD
  refine lv_aload_n hx hb dX8_init_33 rfl (lv_at hl 0 rfl) ?_
  refine va_new (ci := 6) (fs := [.null, .int 0, .int 0, .int 0]) (C := RX6) (T := TX6) (N := 4) hx hb hts inlX6 tyX6 tyX6_ok hown (hts _ q133) (hts _ q14) (hts _ q15) hK hP hD hS hA rfl (lt_s (lt_s (lt_s (lt_s (lt_0) rfl) rfl) rfl) rfl) (Nat.le_of_ble_eq_true rfl) (Nat.le_of_ble_eq_true rfl) dX8_init_34 (fun qq3 H hP hD hS => ?_)
  refine W.cs (cells' := 3) (slots' := 188) rfl rfl ?_
  have hP : va_P D vwCl [(h, .inr (8, [.ref qq1, .null, .null, .null, .null, .ref pg, .ref rc, .ref pl, .int 0, .int 0, .int 0])), tT qq1 aq2 (nI 3) (nI 60) 0, tA g aq2 180 (fun _ => 0), (qq3, .inr (6, [.null, .int 0, .int 0, .int 0]))] H := hP
  have hD : va_D A [(h, .inr (8, [.ref qq1, .null, .null, .null, .null, .ref pg, .ref rc, .ref pl, .int 0, .int 0, .int 0])), tT qq1 aq2 (nI 3) (nI 60) 0, tA g aq2 180 (fun _ => 0), (qq3, .inr (6, [.null, .int 0, .int 0, .int 0]))] := hD
  refine lv_dup hx hb dX8_init_37 rfl ?_
  refine lv_bipush (v := 12) hx hb dX8_init_38 (by decide) ?_
  refine lv_bipush (v := 12) hx hb dX8_init_40 (by decide) ?_
  refine vz_Iv (wr := [(h, .inr (8, [.ref qq1, .null, .null, .null, .null, .ref pg, .ref rc, .ref pl, .int 0, .int 0, .int 0])), tT qq1 aq2 (nI 3) (nI 60) 0, tA g aq2 180 (fun _ => 0)]) (As := [.int 12, .int 12]) (rest := [.ref qq3, .ref h]) hx hb hml hown hts hK hA hP hD hS (c_T_init l D g qq3 H.size 12 12 144 (by decide +kernel)) ki_X8_25 (⟨Nat.le_of_ble_eq_true rfl, Nat.le_of_ble_eq_true rfl⟩) [3] [0, 1, 2] rfl rfl (by decide) hl.1 (Nat.le_of_ble_eq_true rfl) dX8_init_42 (⟨Nat.le_of_ble_eq_true rfl, Nat.le_of_ble_eq_true rfl⟩) rfl (fun aq4 H locs _ _ hP hD hS => ?_)
  refine W.cs (cells' := 4) (slots' := 332) rfl rfl ?_
  have hP : va_P D vwCl [(h, .inr (8, [.ref qq1, .null, .null, .null, .null, .ref pg, .ref rc, .ref pl, .int 0, .int 0, .int 0])), tT qq1 aq2 (nI 3) (nI 60) 0, tA g aq2 180 (fun _ => 0), tT qq3 aq4 (nI 12) (nI 12) 0, tA g aq4 144 (fun _ => 0)] H := hP
  have hD : va_D A [(h, .inr (8, [.ref qq1, .null, .null, .null, .null, .ref pg, .ref rc, .ref pl, .int 0, .int 0, .int 0])), tT qq1 aq2 (nI 3) (nI 60) 0, tA g aq2 180 (fun _ => 0), tT qq3 aq4 (nI 12) (nI 12) 0, tA g aq4 144 (fun _ => 0)] := hD
  refine va_putF (D := D) (ci := 8) (v := .ref qq3) (ty := .object "WaysAtlas$Table") (C := RX8) (T := TX8) (N := 11) hx hb hts inlX8 tyX8 tyX8_ok nmX8 hown hK hP hD hS 0 rfl rfl 1 (by decide) (hts _ q135) (fun _ h => h) rfl hin rfl (by decide +kernel) rfl rfl (Nat.le_of_ble_eq_true rfl) dX8_init_45 (fun H locs hP hD hS => ?_)
  have hP : va_P D vwCl [(h, .inr (8, [.ref qq1, .ref qq3, .null, .null, .null, .ref pg, .ref rc, .ref pl, .int 0, .int 0, .int 0])), tT qq1 aq2 (nI 3) (nI 60) 0, tA g aq2 180 (fun _ => 0), tT qq3 aq4 (nI 12) (nI 12) 0, tA g aq4 144 (fun _ => 0)] H := hP
  have hD : va_D A [(h, .inr (8, [.ref qq1, .ref qq3, .null, .null, .null, .ref pg, .ref rc, .ref pl, .int 0, .int 0, .int 0])), tT qq1 aq2 (nI 3) (nI 60) 0, tA g aq2 180 (fun _ => 0), tT qq3 aq4 (nI 12) (nI 12) 0, tA g aq4 144 (fun _ => 0)] := hD
  refine lv_aload_n hx hb dX8_init_48 rfl (lv_at hl 0 rfl) ?_
  refine va_new (ci := 6) (fs := [.null, .int 0, .int 0, .int 0]) (C := RX6) (T := TX6) (N := 4) hx hb hts inlX6 tyX6 tyX6_ok hown (hts _ q133) (hts _ q14) (hts _ q15) hK hP hD hS hA rfl (lt_s (lt_s (lt_s (lt_s (lt_0) rfl) rfl) rfl) rfl) (Nat.le_of_ble_eq_true rfl) (Nat.le_of_ble_eq_true rfl) dX8_init_49 (fun qq5 H hP hD hS => ?_)
  refine W.cs (cells' := 5) (slots' := 336) rfl rfl ?_
  have hP : va_P D vwCl [(h, .inr (8, [.ref qq1, .ref qq3, .null, .null, .null, .ref pg, .ref rc, .ref pl, .int 0, .int 0, .int 0])), tT qq1 aq2 (nI 3) (nI 60) 0, tA g aq2 180 (fun _ => 0), tT qq3 aq4 (nI 12) (nI 12) 0, tA g aq4 144 (fun _ => 0), (qq5, .inr (6, [.null, .int 0, .int 0, .int 0]))] H := hP
  have hD : va_D A [(h, .inr (8, [.ref qq1, .ref qq3, .null, .null, .null, .ref pg, .ref rc, .ref pl, .int 0, .int 0, .int 0])), tT qq1 aq2 (nI 3) (nI 60) 0, tA g aq2 180 (fun _ => 0), tT qq3 aq4 (nI 12) (nI 12) 0, tA g aq4 144 (fun _ => 0), (qq5, .inr (6, [.null, .int 0, .int 0, .int 0]))] := hD
  refine lv_dup hx hb dX8_init_52 rfl ?_
  refine lv_bipush (v := 72) hx hb dX8_init_53 (by decide) ?_
  refine lv_bipush (v := 11) hx hb dX8_init_55 (by decide) ?_
  refine vz_Iv (wr := [(h, .inr (8, [.ref qq1, .ref qq3, .null, .null, .null, .ref pg, .ref rc, .ref pl, .int 0, .int 0, .int 0])), tT qq1 aq2 (nI 3) (nI 60) 0, tA g aq2 180 (fun _ => 0), tT qq3 aq4 (nI 12) (nI 12) 0, tA g aq4 144 (fun _ => 0)]) (As := [.int 72, .int 11]) (rest := [.ref qq5, .ref h]) hx hb hml hown hts hK hA hP hD hS (c_T_init l D g qq5 H.size 11 72 792 (by decide +kernel)) ki_X8_25 (⟨Nat.le_of_ble_eq_true rfl, Nat.le_of_ble_eq_true rfl⟩) [5] [0, 1, 2, 3, 4] rfl rfl (by decide) hl.1 (Nat.le_of_ble_eq_true rfl) dX8_init_57 (⟨Nat.le_of_ble_eq_true rfl, Nat.le_of_ble_eq_true rfl⟩) rfl (fun aq6 H locs _ _ hP hD hS => ?_)
  refine W.cs (cells' := 6) (slots' := 1128) rfl rfl ?_
  have hP : va_P D vwCl [(h, .inr (8, [.ref qq1, .ref qq3, .null, .null, .null, .ref pg, .ref rc, .ref pl, .int 0, .int 0, .int 0])), tT qq1 aq2 (nI 3) (nI 60) 0, tA g aq2 180 (fun _ => 0), tT qq3 aq4 (nI 12) (nI 12) 0, tA g aq4 144 (fun _ => 0), tT qq5 aq6 (nI 11) (nI 72) 0, tA g aq6 792 (fun _ => 0)] H := hP
  have hD : va_D A [(h, .inr (8, [.ref qq1, .ref qq3, .null, .null, .null, .ref pg, .ref rc, .ref pl, .int 0, .int 0, .int 0])), tT qq1 aq2 (nI 3) (nI 60) 0, tA g aq2 180 (fun _ => 0), tT qq3 aq4 (nI 12) (nI 12) 0, tA g aq4 144 (fun _ => 0), tT qq5 aq6 (nI 11) (nI 72) 0, tA g aq6 792 (fun _ => 0)] := hD
  refine va_putF (D := D) (ci := 8) (v := .ref qq5) (ty := .object "WaysAtlas$Table") (C := RX8) (T := TX8) (N := 11) hx hb hts inlX8 tyX8 tyX8_ok nmX8 hown hK hP hD hS 0 rfl rfl 2 (by decide) (hts _ q136) (fun _ h => h) rfl hin rfl (by decide +kernel) rfl rfl (Nat.le_of_ble_eq_true rfl) dX8_init_60 (fun H locs hP hD hS => ?_)
  have hP : va_P D vwCl [(h, .inr (8, [.ref qq1, .ref qq3, .ref qq5, .null, .null, .ref pg, .ref rc, .ref pl, .int 0, .int 0, .int 0])), tT qq1 aq2 (nI 3) (nI 60) 0, tA g aq2 180 (fun _ => 0), tT qq3 aq4 (nI 12) (nI 12) 0, tA g aq4 144 (fun _ => 0), tT qq5 aq6 (nI 11) (nI 72) 0, tA g aq6 792 (fun _ => 0)] H := hP
  have hD : va_D A [(h, .inr (8, [.ref qq1, .ref qq3, .ref qq5, .null, .null, .ref pg, .ref rc, .ref pl, .int 0, .int 0, .int 0])), tT qq1 aq2 (nI 3) (nI 60) 0, tA g aq2 180 (fun _ => 0), tT qq3 aq4 (nI 12) (nI 12) 0, tA g aq4 144 (fun _ => 0), tT qq5 aq6 (nI 11) (nI 72) 0, tA g aq6 792 (fun _ => 0)] := hD
  refine lv_aload_n hx hb dX8_init_63 rfl (lv_at hl 0 rfl) ?_
  refine va_new (ci := 6) (fs := [.null, .int 0, .int 0, .int 0]) (C := RX6) (T := TX6) (N := 4) hx hb hts inlX6 tyX6 tyX6_ok hown (hts _ q133) (hts _ q14) (hts _ q15) hK hP hD hS hA rfl (lt_s (lt_s (lt_s (lt_s (lt_0) rfl) rfl) rfl) rfl) (Nat.le_of_ble_eq_true rfl) (Nat.le_of_ble_eq_true rfl) dX8_init_64 (fun qq7 H hP hD hS => ?_)
  refine W.cs (cells' := 7) (slots' := 1132) rfl rfl ?_
  have hP : va_P D vwCl [(h, .inr (8, [.ref qq1, .ref qq3, .ref qq5, .null, .null, .ref pg, .ref rc, .ref pl, .int 0, .int 0, .int 0])), tT qq1 aq2 (nI 3) (nI 60) 0, tA g aq2 180 (fun _ => 0), tT qq3 aq4 (nI 12) (nI 12) 0, tA g aq4 144 (fun _ => 0), tT qq5 aq6 (nI 11) (nI 72) 0, tA g aq6 792 (fun _ => 0), (qq7, .inr (6, [.null, .int 0, .int 0, .int 0]))] H := hP
  have hD : va_D A [(h, .inr (8, [.ref qq1, .ref qq3, .ref qq5, .null, .null, .ref pg, .ref rc, .ref pl, .int 0, .int 0, .int 0])), tT qq1 aq2 (nI 3) (nI 60) 0, tA g aq2 180 (fun _ => 0), tT qq3 aq4 (nI 12) (nI 12) 0, tA g aq4 144 (fun _ => 0), tT qq5 aq6 (nI 11) (nI 72) 0, tA g aq6 792 (fun _ => 0), (qq7, .inr (6, [.null, .int 0, .int 0, .int 0]))] := hD
  refine lv_dup hx hb dX8_init_67 rfl ?_
  refine lv_sipush (v := 400) hx hb dX8_init_68 (by decide) ?_
  refine lv_bipush (v := 9) hx hb dX8_init_71 (by decide) ?_
  refine vz_Iv (wr := [(h, .inr (8, [.ref qq1, .ref qq3, .ref qq5, .null, .null, .ref pg, .ref rc, .ref pl, .int 0, .int 0, .int 0])), tT qq1 aq2 (nI 3) (nI 60) 0, tA g aq2 180 (fun _ => 0), tT qq3 aq4 (nI 12) (nI 12) 0, tA g aq4 144 (fun _ => 0), tT qq5 aq6 (nI 11) (nI 72) 0, tA g aq6 792 (fun _ => 0)]) (As := [.int 400, .int 9]) (rest := [.ref qq7, .ref h]) hx hb hml hown hts hK hA hP hD hS (c_T_init l D g qq7 H.size 9 400 3600 (by decide +kernel)) ki_X8_25 (⟨Nat.le_of_ble_eq_true rfl, Nat.le_of_ble_eq_true rfl⟩) [7] [0, 1, 2, 3, 4, 5, 6] rfl rfl (by decide) hl.1 (Nat.le_of_ble_eq_true rfl) dX8_init_73 (⟨Nat.le_of_ble_eq_true rfl, Nat.le_of_ble_eq_true rfl⟩) rfl (fun aq8 H locs _ _ hP hD hS => ?_)
  refine W.cs (cells' := 8) (slots' := 4732) rfl rfl ?_
  have hP : va_P D vwCl [(h, .inr (8, [.ref qq1, .ref qq3, .ref qq5, .null, .null, .ref pg, .ref rc, .ref pl, .int 0, .int 0, .int 0])), tT qq1 aq2 (nI 3) (nI 60) 0, tA g aq2 180 (fun _ => 0), tT qq3 aq4 (nI 12) (nI 12) 0, tA g aq4 144 (fun _ => 0), tT qq5 aq6 (nI 11) (nI 72) 0, tA g aq6 792 (fun _ => 0), tT qq7 aq8 (nI 9) (nI 400) 0, tA g aq8 3600 (fun _ => 0)] H := hP
  have hD : va_D A [(h, .inr (8, [.ref qq1, .ref qq3, .ref qq5, .null, .null, .ref pg, .ref rc, .ref pl, .int 0, .int 0, .int 0])), tT qq1 aq2 (nI 3) (nI 60) 0, tA g aq2 180 (fun _ => 0), tT qq3 aq4 (nI 12) (nI 12) 0, tA g aq4 144 (fun _ => 0), tT qq5 aq6 (nI 11) (nI 72) 0, tA g aq6 792 (fun _ => 0), tT qq7 aq8 (nI 9) (nI 400) 0, tA g aq8 3600 (fun _ => 0)] := hD
  refine va_putF (D := D) (ci := 8) (v := .ref qq7) (ty := .object "WaysAtlas$Table") (C := RX8) (T := TX8) (N := 11) hx hb hts inlX8 tyX8 tyX8_ok nmX8 hown hK hP hD hS 0 rfl rfl 3 (by decide) (hts _ q137) (fun _ h => h) rfl hin rfl (by decide +kernel) rfl rfl (Nat.le_of_ble_eq_true rfl) dX8_init_76 (fun H locs hP hD hS => ?_)
  have hP : va_P D vwCl [(h, .inr (8, [.ref qq1, .ref qq3, .ref qq5, .ref qq7, .null, .ref pg, .ref rc, .ref pl, .int 0, .int 0, .int 0])), tT qq1 aq2 (nI 3) (nI 60) 0, tA g aq2 180 (fun _ => 0), tT qq3 aq4 (nI 12) (nI 12) 0, tA g aq4 144 (fun _ => 0), tT qq5 aq6 (nI 11) (nI 72) 0, tA g aq6 792 (fun _ => 0), tT qq7 aq8 (nI 9) (nI 400) 0, tA g aq8 3600 (fun _ => 0)] H := hP
  have hD : va_D A [(h, .inr (8, [.ref qq1, .ref qq3, .ref qq5, .ref qq7, .null, .ref pg, .ref rc, .ref pl, .int 0, .int 0, .int 0])), tT qq1 aq2 (nI 3) (nI 60) 0, tA g aq2 180 (fun _ => 0), tT qq3 aq4 (nI 12) (nI 12) 0, tA g aq4 144 (fun _ => 0), tT qq5 aq6 (nI 11) (nI 72) 0, tA g aq6 792 (fun _ => 0), tT qq7 aq8 (nI 9) (nI 400) 0, tA g aq8 3600 (fun _ => 0)] := hD
  refine lv_aload_n hx hb dX8_init_79 rfl (lv_at hl 0 rfl) ?_
  refine va_new (ci := 6) (fs := [.null, .int 0, .int 0, .int 0]) (C := RX6) (T := TX6) (N := 4) hx hb hts inlX6 tyX6 tyX6_ok hown (hts _ q133) (hts _ q14) (hts _ q15) hK hP hD hS hA rfl (lt_s (lt_s (lt_s (lt_s (lt_0) rfl) rfl) rfl) rfl) (Nat.le_of_ble_eq_true rfl) (Nat.le_of_ble_eq_true rfl) dX8_init_80 (fun qq9 H hP hD hS => ?_)
  refine W.cs (cells' := 9) (slots' := 4736) rfl rfl ?_
  have hP : va_P D vwCl [(h, .inr (8, [.ref qq1, .ref qq3, .ref qq5, .ref qq7, .null, .ref pg, .ref rc, .ref pl, .int 0, .int 0, .int 0])), tT qq1 aq2 (nI 3) (nI 60) 0, tA g aq2 180 (fun _ => 0), tT qq3 aq4 (nI 12) (nI 12) 0, tA g aq4 144 (fun _ => 0), tT qq5 aq6 (nI 11) (nI 72) 0, tA g aq6 792 (fun _ => 0), tT qq7 aq8 (nI 9) (nI 400) 0, tA g aq8 3600 (fun _ => 0), (qq9, .inr (6, [.null, .int 0, .int 0, .int 0]))] H := hP
  have hD : va_D A [(h, .inr (8, [.ref qq1, .ref qq3, .ref qq5, .ref qq7, .null, .ref pg, .ref rc, .ref pl, .int 0, .int 0, .int 0])), tT qq1 aq2 (nI 3) (nI 60) 0, tA g aq2 180 (fun _ => 0), tT qq3 aq4 (nI 12) (nI 12) 0, tA g aq4 144 (fun _ => 0), tT qq5 aq6 (nI 11) (nI 72) 0, tA g aq6 792 (fun _ => 0), tT qq7 aq8 (nI 9) (nI 400) 0, tA g aq8 3600 (fun _ => 0), (qq9, .inr (6, [.null, .int 0, .int 0, .int 0]))] := hD
  refine lv_dup hx hb dX8_init_83 rfl ?_
  refine lv_bipush (v := 80) hx hb dX8_init_84 (by decide) ?_
  refine lv_bipush (v := 7) hx hb dX8_init_86 (by decide) ?_
  refine vz_Iv (wr := [(h, .inr (8, [.ref qq1, .ref qq3, .ref qq5, .ref qq7, .null, .ref pg, .ref rc, .ref pl, .int 0, .int 0, .int 0])), tT qq1 aq2 (nI 3) (nI 60) 0, tA g aq2 180 (fun _ => 0), tT qq3 aq4 (nI 12) (nI 12) 0, tA g aq4 144 (fun _ => 0), tT qq5 aq6 (nI 11) (nI 72) 0, tA g aq6 792 (fun _ => 0), tT qq7 aq8 (nI 9) (nI 400) 0, tA g aq8 3600 (fun _ => 0)]) (As := [.int 80, .int 7]) (rest := [.ref qq9, .ref h]) hx hb hml hown hts hK hA hP hD hS (c_T_init l D g qq9 H.size 7 80 560 (by decide +kernel)) ki_X8_25 (⟨Nat.le_of_ble_eq_true rfl, Nat.le_of_ble_eq_true rfl⟩) [9] [0, 1, 2, 3, 4, 5, 6, 7, 8] rfl rfl (by decide) hl.1 (Nat.le_of_ble_eq_true rfl) dX8_init_88 (⟨Nat.le_of_ble_eq_true rfl, Nat.le_of_ble_eq_true rfl⟩) rfl (fun aq10 H locs _ _ hP hD hS => ?_)
  refine W.cs (cells' := 10) (slots' := 5296) rfl rfl ?_
  have hP : va_P D vwCl [(h, .inr (8, [.ref qq1, .ref qq3, .ref qq5, .ref qq7, .null, .ref pg, .ref rc, .ref pl, .int 0, .int 0, .int 0])), tT qq1 aq2 (nI 3) (nI 60) 0, tA g aq2 180 (fun _ => 0), tT qq3 aq4 (nI 12) (nI 12) 0, tA g aq4 144 (fun _ => 0), tT qq5 aq6 (nI 11) (nI 72) 0, tA g aq6 792 (fun _ => 0), tT qq7 aq8 (nI 9) (nI 400) 0, tA g aq8 3600 (fun _ => 0), tT qq9 aq10 (nI 7) (nI 80) 0, tA g aq10 560 (fun _ => 0)] H := hP
  have hD : va_D A [(h, .inr (8, [.ref qq1, .ref qq3, .ref qq5, .ref qq7, .null, .ref pg, .ref rc, .ref pl, .int 0, .int 0, .int 0])), tT qq1 aq2 (nI 3) (nI 60) 0, tA g aq2 180 (fun _ => 0), tT qq3 aq4 (nI 12) (nI 12) 0, tA g aq4 144 (fun _ => 0), tT qq5 aq6 (nI 11) (nI 72) 0, tA g aq6 792 (fun _ => 0), tT qq7 aq8 (nI 9) (nI 400) 0, tA g aq8 3600 (fun _ => 0), tT qq9 aq10 (nI 7) (nI 80) 0, tA g aq10 560 (fun _ => 0)] := hD
  refine va_putF (D := D) (ci := 8) (v := .ref qq9) (ty := .object "WaysAtlas$Table") (C := RX8) (T := TX8) (N := 11) hx hb hts inlX8 tyX8 tyX8_ok nmX8 hown hK hP hD hS 0 rfl rfl 4 (by decide) (hts _ q138) (fun _ h => h) rfl hin rfl (by decide +kernel) rfl rfl (Nat.le_of_ble_eq_true rfl) dX8_init_91 (fun H locs hP hD hS => ?_)
  have hP : va_P D vwCl [(h, .inr (8, [.ref qq1, .ref qq3, .ref qq5, .ref qq7, .ref qq9, .ref pg, .ref rc, .ref pl, .int 0, .int 0, .int 0])), tT qq1 aq2 (nI 3) (nI 60) 0, tA g aq2 180 (fun _ => 0), tT qq3 aq4 (nI 12) (nI 12) 0, tA g aq4 144 (fun _ => 0), tT qq5 aq6 (nI 11) (nI 72) 0, tA g aq6 792 (fun _ => 0), tT qq7 aq8 (nI 9) (nI 400) 0, tA g aq8 3600 (fun _ => 0), tT qq9 aq10 (nI 7) (nI 80) 0, tA g aq10 560 (fun _ => 0)] H := hP
  have hD : va_D A [(h, .inr (8, [.ref qq1, .ref qq3, .ref qq5, .ref qq7, .ref qq9, .ref pg, .ref rc, .ref pl, .int 0, .int 0, .int 0])), tT qq1 aq2 (nI 3) (nI 60) 0, tA g aq2 180 (fun _ => 0), tT qq3 aq4 (nI 12) (nI 12) 0, tA g aq4 144 (fun _ => 0), tT qq5 aq6 (nI 11) (nI 72) 0, tA g aq6 792 (fun _ => 0), tT qq7 aq8 (nI 9) (nI 400) 0, tA g aq8 3600 (fun _ => 0), tT qq9 aq10 (nI 7) (nI 80) 0, tA g aq10 560 (fun _ => 0)] := hD
  refine lv_aload_n hx hb dX8_init_94 rfl (lv_at hl 0 rfl) ?_
  refine va_get (D := D) (ci := 8) (v := .ref qq5) (C := RX8) (T := TX8) (N := 11) hx hb hts inlX8 hown hK hP 0 rfl rfl 2 (by decide) (hts _ q136) (fun _ h => h) rfl dX8_init_95 ?_
  refine lv_bipush (v := 72) hx hb dX8_init_98 (by decide) ?_
  refine lv_bipush (v := (-9)) hx hb dX8_init_100 (by decide) ?_
  refine vz_Vv (wr := [(h, .inr (8, [.ref qq1, .ref qq3, .ref qq5, .ref qq7, .ref qq9, .ref pg, .ref rc, .ref pl, .int 0, .int 0, .int 0])), tT qq1 aq2 (nI 3) (nI 60) 0, tA g aq2 180 (fun _ => 0), tT qq3 aq4 (nI 12) (nI 12) 0, tA g aq4 144 (fun _ => 0), tT qq7 aq8 (nI 9) (nI 400) 0, tA g aq8 3600 (fun _ => 0), tT qq9 aq10 (nI 7) (nI 80) 0, tA g aq10 560 (fun _ => 0)]) (As := [.int 72, .int (-9)]) (rest := []) hx hb hml hown hts hK hA hP hD hS (c_T_fill l D g qq5 aq6 H.size 11 72 0 792 (fun _ => 0) 72 (-9) (by decide) (by decide +kernel)) kv_X8_43 (⟨Nat.le_of_ble_eq_true rfl, Nat.le_of_ble_eq_true rfl⟩) (q0 := 5) (ci := 6) rfl rfl rfl [5, 6] [0, 1, 2, 3, 4, 7, 8, 9, 10] rfl rfl (by decide) hl.1 (Nat.le_of_ble_eq_true rfl) dX8_init_102 (⟨Nat.le_of_ble_eq_true rfl, Nat.le_of_ble_eq_true rfl⟩) rfl (fun f1 H locs e1 _ hP hD hS => ?_)
  subst e1
  have hP : va_P D vwCl [(h, .inr (8, [.ref qq1, .ref qq3, .ref qq5, .ref qq7, .ref qq9, .ref pg, .ref rc, .ref pl, .int 0, .int 0, .int 0])), tT qq1 aq2 (nI 3) (nI 60) 0, tA g aq2 180 (fun _ => 0), tT qq3 aq4 (nI 12) (nI 12) 0, tA g aq4 144 (fun _ => 0), tT qq7 aq8 (nI 9) (nI 400) 0, tA g aq8 3600 (fun _ => 0), tT qq9 aq10 (nI 7) (nI 80) 0, tA g aq10 560 (fun _ => 0), tT qq5 aq6 (nI 11) (nI 72) (nI 72), tA g aq6 792 (tf (fun _ => 0) 0 (72 * 11) (-9))] H := hP
  have hD : va_D A [(h, .inr (8, [.ref qq1, .ref qq3, .ref qq5, .ref qq7, .ref qq9, .ref pg, .ref rc, .ref pl, .int 0, .int 0, .int 0])), tT qq1 aq2 (nI 3) (nI 60) 0, tA g aq2 180 (fun _ => 0), tT qq3 aq4 (nI 12) (nI 12) 0, tA g aq4 144 (fun _ => 0), tT qq7 aq8 (nI 9) (nI 400) 0, tA g aq8 3600 (fun _ => 0), tT qq9 aq10 (nI 7) (nI 80) 0, tA g aq10 560 (fun _ => 0), tT qq5 aq6 (nI 11) (nI 72) (nI 72), tA g aq6 792 (tf (fun _ => 0) 0 (72 * 11) (-9))] := hD
  refine lv_aload_n hx hb dX8_init_105 rfl (lv_at hl 0 rfl) ?_
  refine lv_bipush (v := (-9)) hx hb dX8_init_106 (by decide) ?_
  refine va_put (D := D) (ci := 8) (v := .int (-9)) (ty := .int) (C := RX8) (T := TX8) (N := 11) hx hb hts inlX8 tyX8 tyX8_ok nmX8 hown hK hP hD hS 0 rfl rfl 9 (by decide) (hts _ q139) (fun _ h => h) rfl (by decide +kernel) rfl rfl (Nat.le_of_ble_eq_true rfl) dX8_init_108 (fun H locs hP hD hS => ?_)
  have hP : va_P D vwCl [(h, .inr (8, [.ref qq1, .ref qq3, .ref qq5, .ref qq7, .ref qq9, .ref pg, .ref rc, .ref pl, .int 0, .int (-9), .int 0])), tT qq1 aq2 (nI 3) (nI 60) 0, tA g aq2 180 (fun _ => 0), tT qq3 aq4 (nI 12) (nI 12) 0, tA g aq4 144 (fun _ => 0), tT qq7 aq8 (nI 9) (nI 400) 0, tA g aq8 3600 (fun _ => 0), tT qq9 aq10 (nI 7) (nI 80) 0, tA g aq10 560 (fun _ => 0), tT qq5 aq6 (nI 11) (nI 72) (nI 72), tA g aq6 792 (tf (fun _ => 0) 0 (72 * 11) (-9))] H := hP
  have hD : va_D A [(h, .inr (8, [.ref qq1, .ref qq3, .ref qq5, .ref qq7, .ref qq9, .ref pg, .ref rc, .ref pl, .int 0, .int (-9), .int 0])), tT qq1 aq2 (nI 3) (nI 60) 0, tA g aq2 180 (fun _ => 0), tT qq3 aq4 (nI 12) (nI 12) 0, tA g aq4 144 (fun _ => 0), tT qq7 aq8 (nI 9) (nI 400) 0, tA g aq8 3600 (fun _ => 0), tT qq9 aq10 (nI 7) (nI 80) 0, tA g aq10 560 (fun _ => 0), tT qq5 aq6 (nI 11) (nI 72) (nI 72), tA g aq6 792 (tf (fun _ => 0) 0 (72 * 11) (-9))] := hD
  exact vz_vret hx hb hr hlk hK hP hD hS (fun k => [qq1, aq2, qq3, aq4, qq5, aq6, qq7, aq8, qq9, aq10].getD k 0) (trivial) [0, 1, 2, 3, 4, 9, 10, 5, 6, 7, 8] rfl (by decide) (Nat.le_of_ble_eq_true rfl) (Nat.le_of_ble_eq_true rfl) dX8_init_111
theorem q151 : Cond.methodLink RX7 3 objectInit ∈ wsL_law := mT_2 (List.mem_of_getElem? (i := 85) rfl) rfl
theorem q152 : Cond.fieldLink RX7 9 "WaysAtlas$Walker" "world" "LWaysAtlas$World;" ∈ wsL_law := mT_2 (List.mem_of_getElem? (i := 86) rfl) rfl
theorem q153 : Cond.fieldLink RX7 15 "WaysAtlas$Walker" "cursor" "I" ∈ wsL_law := mT_2 (List.mem_of_getElem? (i := 87) rfl) rfl
theorem q154 : Cond.fieldLink RX7 19 "WaysAtlas$Walker" "inside" "I" ∈ wsL_law := mT_2 (List.mem_of_getElem? (i := 88) rfl) rfl
theorem dX7_init_0 : decode cX7_init 0 = .ok (.aload_n 0, 1) := by decide +kernel
theorem dX7_init_1 : decode cX7_init 1 = .ok (.invokespecial 3, 3) := by decide +kernel
theorem dX7_init_4 : decode cX7_init 4 = .ok (.aload_n 0, 1) := by decide +kernel
theorem dX7_init_5 : decode cX7_init 5 = .ok (.aload_n 1, 1) := by decide +kernel
theorem dX7_init_6 : decode cX7_init 6 = .ok (.putfield 9, 3) := by decide +kernel
theorem dX7_init_9 : decode cX7_init 9 = .ok (.aload_n 0, 1) := by decide +kernel
theorem dX7_init_10 : decode cX7_init 10 = .ok (.bipush (-9), 2) := by decide +kernel
theorem dX7_init_12 : decode cX7_init 12 = .ok (.putfield 15, 3) := by decide +kernel
theorem dX7_init_15 : decode cX7_init 15 = .ok (.aload_n 0, 1) := by decide +kernel
theorem dX7_init_16 : decode cX7_init 16 = .ok (.bipush (-9), 2) := by decide +kernel
theorem dX7_init_18 : decode cX7_init 18 = .ok (.putfield 19, 3) := by decide +kernel
theorem dX7_init_21 : decode cX7_init 21 = .ok (.return_, 1) := by decide +kernel
set_option maxHeartbeats 4000000 in
set_option maxRecDepth 100000 in
theorem c_K_init (l : Launch) (D : va_G) (g : Nat → ClassId) (h sz : Nat) (wo : Nat) : vz_Mv l D (tyG g) yX7_init cX7_init 2 1 12 0 0 [.ref h, .ref wo] sz [(h, .inr (7, [.null, .int 0, .int 0, .int 0, .int 0, .int 0, .int 0]))] (fun _ : Unit => True) (fun a => [(h, .inr (7, [.ref wo, .int (-9), .int (-9), .int 0, .int 0, .int 0, .int 0]))]) := by
  refine vz_sv (by decide) (Nat.le_of_ble_eq_true rfl) (fun p e s m args below meth c hx hb hr hml hts hown hlk hin hK hsz A hA H locs hP hD hS ls hl => ?_)
  have hl : lv_has ls 2 [(0, .ref h), (1, .ref wo)] := hl
  refine lv_aload_n hx hb dX7_init_0 rfl (lv_at hl 0 rfl) ?_
  refine W.objInit hx hb hown (hts _ q151) (hts _ q11) (hts _ q12) rfl (hl.1.trans hml.symm) rfl dX7_init_1 (Nat.le_of_ble_eq_true rfl) (Nat.le_of_ble_eq_true rfl) ?_
  refine W.eq (g2 := F0 m 4 ls []) rfl ?_
  refine lv_aload_n hx hb dX7_init_4 rfl (lv_at hl 0 rfl) ?_
  refine lv_aload_n hx hb dX7_init_5 rfl (lv_at hl 1 rfl) ?_
  refine va_putF (D := D) (ci := 7) (v := .ref wo) (ty := .object "WaysAtlas$World") (C := RX7) (T := TX7) (N := 7) hx hb hts inlX7 tyX7 tyX7_ok nmX7 hown hK hP hD hS 0 rfl rfl 0 (by decide) (hts _ q152) (fun _ h => h) rfl hin rfl (by decide +kernel) rfl rfl (Nat.le_of_ble_eq_true rfl) dX7_init_6 (fun H locs hP hD hS => ?_)
  have hP : va_P D vwCl [(h, .inr (7, [.ref wo, .int 0, .int 0, .int 0, .int 0, .int 0, .int 0]))] H := hP
  have hD : va_D A [(h, .inr (7, [.ref wo, .int 0, .int 0, .int 0, .int 0, .int 0, .int 0]))] := hD
  refine lv_aload_n hx hb dX7_init_9 rfl (lv_at hl 0 rfl) ?_
  refine lv_bipush (v := (-9)) hx hb dX7_init_10 (by decide) ?_
  refine va_put (D := D) (ci := 7) (v := .int (-9)) (ty := .int) (C := RX7) (T := TX7) (N := 7) hx hb hts inlX7 tyX7 tyX7_ok nmX7 hown hK hP hD hS 0 rfl rfl 1 (by decide) (hts _ q153) (fun _ h => h) rfl (by decide +kernel) rfl rfl (Nat.le_of_ble_eq_true rfl) dX7_init_12 (fun H locs hP hD hS => ?_)
  have hP : va_P D vwCl [(h, .inr (7, [.ref wo, .int (-9), .int 0, .int 0, .int 0, .int 0, .int 0]))] H := hP
  have hD : va_D A [(h, .inr (7, [.ref wo, .int (-9), .int 0, .int 0, .int 0, .int 0, .int 0]))] := hD
  refine lv_aload_n hx hb dX7_init_15 rfl (lv_at hl 0 rfl) ?_
  refine lv_bipush (v := (-9)) hx hb dX7_init_16 (by decide) ?_
  refine va_put (D := D) (ci := 7) (v := .int (-9)) (ty := .int) (C := RX7) (T := TX7) (N := 7) hx hb hts inlX7 tyX7 tyX7_ok nmX7 hown hK hP hD hS 0 rfl rfl 2 (by decide) (hts _ q154) (fun _ h => h) rfl (by decide +kernel) rfl rfl (Nat.le_of_ble_eq_true rfl) dX7_init_18 (fun H locs hP hD hS => ?_)
  have hP : va_P D vwCl [(h, .inr (7, [.ref wo, .int (-9), .int (-9), .int 0, .int 0, .int 0, .int 0]))] H := hP
  have hD : va_D A [(h, .inr (7, [.ref wo, .int (-9), .int (-9), .int 0, .int 0, .int 0, .int 0]))] := hD
  exact vz_vret hx hb hr hlk hK hP hD hS (()) (trivial) [0] rfl (by decide) (Nat.le_of_ble_eq_true rfl) (Nat.le_of_ble_eq_true rfl) dX7_init_21
theorem q158 : Cond.methodLink RX1 3 objectInit ∈ wsL_law := mT_2 (List.mem_of_getElem? (i := 113) rfl) rfl
theorem q159 : Cond.fieldLink RX1 9 "WaysAtlas$Machine" "world" "LWaysAtlas$World;" ∈ wsL_law := mT_2 (List.mem_of_getElem? (i := 116) rfl) rfl
theorem q160 : Cond.fieldLink RX1 15 "WaysAtlas$Machine" "code" "LWaysAtlas$Table;" ∈ wsL_law := mT_2 (List.mem_of_getElem? (i := 117) rfl) rfl
theorem q161 : Cond.fieldLink RX1 19 "WaysAtlas$Machine" "handlers" "LWaysAtlas$Table;" ∈ wsL_law := mT_2 (List.mem_of_getElem? (i := 118) rfl) rfl
theorem q162 : Cond.classLink RX1 22 RX6 ∈ wsL_law := mT_2 (List.mem_of_getElem? (i := 114) rfl) rfl
theorem q165 : Cond.methodLink RX1 24 yX6_init ∈ wsL_law := mT_2 (List.mem_of_getElem? (i := 115) rfl) rfl
theorem ki_X1_24 : vz_ci RX1 24 yX6_init cX6_init 3 2 := ⟨q165, q61, q15, q62, by decide +kernel⟩
theorem q163 : Cond.fieldLink RX1 27 "WaysAtlas$Machine" "stack" "LWaysAtlas$Table;" ∈ wsL_law := mT_2 (List.mem_of_getElem? (i := 119) rfl) rfl
theorem q164 : Cond.fieldLink RX1 30 "WaysAtlas$Machine" "caught" "I" ∈ wsL_law := mT_2 (List.mem_of_getElem? (i := 122) rfl) rfl
theorem dX1_init_0 : decode cX1_init 0 = .ok (.aload_n 0, 1) := by decide +kernel
theorem dX1_init_1 : decode cX1_init 1 = .ok (.invokespecial 3, 3) := by decide +kernel
theorem dX1_init_4 : decode cX1_init 4 = .ok (.aload_n 0, 1) := by decide +kernel
theorem dX1_init_5 : decode cX1_init 5 = .ok (.aload_n 1, 1) := by decide +kernel
theorem dX1_init_6 : decode cX1_init 6 = .ok (.putfield 9, 3) := by decide +kernel
theorem dX1_init_9 : decode cX1_init 9 = .ok (.aload_n 0, 1) := by decide +kernel
theorem dX1_init_10 : decode cX1_init 10 = .ok (.aload_n 2, 1) := by decide +kernel
theorem dX1_init_11 : decode cX1_init 11 = .ok (.putfield 15, 3) := by decide +kernel
theorem dX1_init_14 : decode cX1_init 14 = .ok (.aload_n 0, 1) := by decide +kernel
theorem dX1_init_15 : decode cX1_init 15 = .ok (.aload_n 3, 1) := by decide +kernel
theorem dX1_init_16 : decode cX1_init 16 = .ok (.putfield 19, 3) := by decide +kernel
theorem dX1_init_19 : decode cX1_init 19 = .ok (.aload_n 0, 1) := by decide +kernel
theorem dX1_init_20 : decode cX1_init 20 = .ok (.new 22, 3) := by decide +kernel
theorem dX1_init_23 : decode cX1_init 23 = .ok (.dup, 1) := by decide +kernel
theorem dX1_init_24 : decode cX1_init 24 = .ok (.bipush 64, 2) := by decide +kernel
theorem dX1_init_26 : decode cX1_init 26 = .ok (.iconst 1, 1) := by decide +kernel
theorem dX1_init_27 : decode cX1_init 27 = .ok (.invokespecial 24, 3) := by decide +kernel
theorem dX1_init_30 : decode cX1_init 30 = .ok (.putfield 27, 3) := by decide +kernel
theorem dX1_init_33 : decode cX1_init 33 = .ok (.aload_n 0, 1) := by decide +kernel
theorem dX1_init_34 : decode cX1_init 34 = .ok (.bipush (-9), 2) := by decide +kernel
theorem dX1_init_36 : decode cX1_init 36 = .ok (.putfield 30, 3) := by decide +kernel
theorem dX1_init_39 : decode cX1_init 39 = .ok (.return_, 1) := by decide +kernel
set_option maxHeartbeats 4000000 in
set_option maxRecDepth 100000 in
theorem c_M_init (l : Launch) (D : va_G) (g : Nat → ClassId) (h sz : Nat) (wo cd hd : Nat) : vz_Mv l D (tyG g) yX1_init cX1_init 4 2 40 2 68 [.ref h, .ref wo, .ref cd, .ref hd] sz [(h, .inr (1, [.null, .null, .null, .null, .int 0, .int 0, .int 0]))] (fun _ : Nat → Nat => True) (fun a => [(h, .inr (1, [.ref wo, .ref cd, .ref hd, .ref (a 0), .int 0, .int 0, .int (-9)])), tT (a 0) (a 1) (nI 1) (nI 64) 0, tA g (a 1) 64 (fun _ => 0)]) := by
  refine vz_sv (by decide) (Nat.le_of_ble_eq_true rfl) (fun p e s m args below meth c hx hb hr hml hts hown hlk hin hK hsz A hA H locs hP hD hS ls hl => ?_)
  have hl : lv_has ls 4 [(0, .ref h), (1, .ref wo), (2, .ref cd), (3, .ref hd)] := hl
  refine lv_aload_n hx hb dX1_init_0 rfl (lv_at hl 0 rfl) ?_
  refine W.objInit hx hb hown (hts _ q158) (hts _ q11) (hts _ q12) rfl (hl.1.trans hml.symm) rfl dX1_init_1 (Nat.le_of_ble_eq_true rfl) (Nat.le_of_ble_eq_true rfl) ?_
  refine W.eq (g2 := F0 m 4 ls []) rfl ?_
  refine lv_aload_n hx hb dX1_init_4 rfl (lv_at hl 0 rfl) ?_
  refine lv_aload_n hx hb dX1_init_5 rfl (lv_at hl 1 rfl) ?_
  refine va_putF (D := D) (ci := 1) (v := .ref wo) (ty := .object "WaysAtlas$World") (C := RX1) (T := TX1) (N := 7) hx hb hts inlX1 tyX1 tyX1_ok nmX1 hown hK hP hD hS 0 rfl rfl 0 (by decide) (hts _ q159) (fun _ h => h) rfl hin rfl (by decide +kernel) rfl rfl (Nat.le_of_ble_eq_true rfl) dX1_init_6 (fun H locs hP hD hS => ?_)
  have hP : va_P D vwCl [(h, .inr (1, [.ref wo, .null, .null, .null, .int 0, .int 0, .int 0]))] H := hP
  have hD : va_D A [(h, .inr (1, [.ref wo, .null, .null, .null, .int 0, .int 0, .int 0]))] := hD
  refine lv_aload_n hx hb dX1_init_9 rfl (lv_at hl 0 rfl) ?_
  refine lv_aload_n hx hb dX1_init_10 rfl (lv_at hl 2 rfl) ?_
  refine va_putF (D := D) (ci := 1) (v := .ref cd) (ty := .object "WaysAtlas$Table") (C := RX1) (T := TX1) (N := 7) hx hb hts inlX1 tyX1 tyX1_ok nmX1 hown hK hP hD hS 0 rfl rfl 1 (by decide) (hts _ q160) (fun _ h => h) rfl hin rfl (by decide +kernel) rfl rfl (Nat.le_of_ble_eq_true rfl) dX1_init_11 (fun H locs hP hD hS => ?_)
  have hP : va_P D vwCl [(h, .inr (1, [.ref wo, .ref cd, .null, .null, .int 0, .int 0, .int 0]))] H := hP
  have hD : va_D A [(h, .inr (1, [.ref wo, .ref cd, .null, .null, .int 0, .int 0, .int 0]))] := hD
  refine lv_aload_n hx hb dX1_init_14 rfl (lv_at hl 0 rfl) ?_
  refine lv_aload_n hx hb dX1_init_15 rfl (lv_at hl 3 rfl) ?_
  refine va_putF (D := D) (ci := 1) (v := .ref hd) (ty := .object "WaysAtlas$Table") (C := RX1) (T := TX1) (N := 7) hx hb hts inlX1 tyX1 tyX1_ok nmX1 hown hK hP hD hS 0 rfl rfl 2 (by decide) (hts _ q161) (fun _ h => h) rfl hin rfl (by decide +kernel) rfl rfl (Nat.le_of_ble_eq_true rfl) dX1_init_16 (fun H locs hP hD hS => ?_)
  have hP : va_P D vwCl [(h, .inr (1, [.ref wo, .ref cd, .ref hd, .null, .int 0, .int 0, .int 0]))] H := hP
  have hD : va_D A [(h, .inr (1, [.ref wo, .ref cd, .ref hd, .null, .int 0, .int 0, .int 0]))] := hD
  refine lv_aload_n hx hb dX1_init_19 rfl (lv_at hl 0 rfl) ?_
  refine va_new (ci := 6) (fs := [.null, .int 0, .int 0, .int 0]) (C := RX6) (T := TX6) (N := 4) hx hb hts inlX6 tyX6 tyX6_ok hown (hts _ q162) (hts _ q14) (hts _ q15) hK hP hD hS hA rfl (lt_s (lt_s (lt_s (lt_s (lt_0) rfl) rfl) rfl) rfl) (Nat.le_of_ble_eq_true rfl) (Nat.le_of_ble_eq_true rfl) dX1_init_20 (fun qq1 H hP hD hS => ?_)
  refine W.cs (cells' := 1) (slots' := 4) rfl rfl ?_
  have hP : va_P D vwCl [(h, .inr (1, [.ref wo, .ref cd, .ref hd, .null, .int 0, .int 0, .int 0])), (qq1, .inr (6, [.null, .int 0, .int 0, .int 0]))] H := hP
  have hD : va_D A [(h, .inr (1, [.ref wo, .ref cd, .ref hd, .null, .int 0, .int 0, .int 0])), (qq1, .inr (6, [.null, .int 0, .int 0, .int 0]))] := hD
  refine lv_dup hx hb dX1_init_23 rfl ?_
  refine lv_bipush (v := 64) hx hb dX1_init_24 (by decide) ?_
  refine lv_iconst (v := 1) hx hb dX1_init_26 (by decide) ?_
  refine vz_Iv (wr := [(h, .inr (1, [.ref wo, .ref cd, .ref hd, .null, .int 0, .int 0, .int 0]))]) (As := [.int 64, .int 1]) (rest := [.ref qq1, .ref h]) hx hb hml hown hts hK hA hP hD hS (c_T_init l D g qq1 H.size 1 64 64 (by decide +kernel)) ki_X1_24 (⟨Nat.le_of_ble_eq_true rfl, Nat.le_of_ble_eq_true rfl⟩) [1] [0] rfl rfl (by decide) hl.1 (Nat.le_of_ble_eq_true rfl) dX1_init_27 (⟨Nat.le_of_ble_eq_true rfl, Nat.le_of_ble_eq_true rfl⟩) rfl (fun aq2 H locs _ _ hP hD hS => ?_)
  refine W.cs (cells' := 2) (slots' := 68) rfl rfl ?_
  have hP : va_P D vwCl [(h, .inr (1, [.ref wo, .ref cd, .ref hd, .null, .int 0, .int 0, .int 0])), tT qq1 aq2 (nI 1) (nI 64) 0, tA g aq2 64 (fun _ => 0)] H := hP
  have hD : va_D A [(h, .inr (1, [.ref wo, .ref cd, .ref hd, .null, .int 0, .int 0, .int 0])), tT qq1 aq2 (nI 1) (nI 64) 0, tA g aq2 64 (fun _ => 0)] := hD
  refine va_putF (D := D) (ci := 1) (v := .ref qq1) (ty := .object "WaysAtlas$Table") (C := RX1) (T := TX1) (N := 7) hx hb hts inlX1 tyX1 tyX1_ok nmX1 hown hK hP hD hS 0 rfl rfl 3 (by decide) (hts _ q163) (fun _ h => h) rfl hin rfl (by decide +kernel) rfl rfl (Nat.le_of_ble_eq_true rfl) dX1_init_30 (fun H locs hP hD hS => ?_)
  have hP : va_P D vwCl [(h, .inr (1, [.ref wo, .ref cd, .ref hd, .ref qq1, .int 0, .int 0, .int 0])), tT qq1 aq2 (nI 1) (nI 64) 0, tA g aq2 64 (fun _ => 0)] H := hP
  have hD : va_D A [(h, .inr (1, [.ref wo, .ref cd, .ref hd, .ref qq1, .int 0, .int 0, .int 0])), tT qq1 aq2 (nI 1) (nI 64) 0, tA g aq2 64 (fun _ => 0)] := hD
  refine lv_aload_n hx hb dX1_init_33 rfl (lv_at hl 0 rfl) ?_
  refine lv_bipush (v := (-9)) hx hb dX1_init_34 (by decide) ?_
  refine va_put (D := D) (ci := 1) (v := .int (-9)) (ty := .int) (C := RX1) (T := TX1) (N := 7) hx hb hts inlX1 tyX1 tyX1_ok nmX1 hown hK hP hD hS 0 rfl rfl 6 (by decide) (hts _ q164) (fun _ h => h) rfl (by decide +kernel) rfl rfl (Nat.le_of_ble_eq_true rfl) dX1_init_36 (fun H locs hP hD hS => ?_)
  have hP : va_P D vwCl [(h, .inr (1, [.ref wo, .ref cd, .ref hd, .ref qq1, .int 0, .int 0, .int (-9)])), tT qq1 aq2 (nI 1) (nI 64) 0, tA g aq2 64 (fun _ => 0)] H := hP
  have hD : va_D A [(h, .inr (1, [.ref wo, .ref cd, .ref hd, .ref qq1, .int 0, .int 0, .int (-9)])), tT qq1 aq2 (nI 1) (nI 64) 0, tA g aq2 64 (fun _ => 0)] := hD
  exact vz_vret hx hb hr hlk hK hP hD hS (fun k => [qq1, aq2].getD k 0) (trivial) [0, 1, 2] rfl (by decide) (Nat.le_of_ble_eq_true rfl) (Nat.le_of_ble_eq_true rfl) dX1_init_39
end
section
theorem q314 : Cond.methodLink RX5 60 yX6_add ∈ wsL_law := mT_2 (List.mem_of_getElem? (i := 235) rfl) rfl
theorem q261 : Cond.instanceMethod yX6_add ∈ wsL_law := mT_2 (List.mem_of_getElem? (i := 195) rfl) rfl
theorem q262 : Cond.selects RX6 yX6_add yX6_add ∈ wsL_law := mT_2 (List.mem_of_getElem? (i := 196) rfl) rfl
theorem q263 : Cond.code yX6_add cX6_add 2 (some .int) ∈ wsL_law := mT_2 (List.mem_of_getElem? (i := 197) rfl) rfl
theorem kv_X5_60 : vz_cv RX5 60 yX6_add cX6_add 2 (some .int) 0 := ⟨q314, q261, q262, q15, q263, by decide +kernel⟩
theorem q315 : Cond.methodLink RX5 64 yX6_set ∈ wsL_law := mT_2 (List.mem_of_getElem? (i := 236) rfl) rfl
theorem q265 : Cond.instanceMethod yX6_set ∈ wsL_law := mT_2 (List.mem_of_getElem? (i := 199) rfl) rfl
theorem q266 : Cond.selects RX6 yX6_set yX6_set ∈ wsL_law := mT_2 (List.mem_of_getElem? (i := 200) rfl) rfl
theorem q267 : Cond.code yX6_set cX6_set 5 none ∈ wsL_law := mT_2 (List.mem_of_getElem? (i := 201) rfl) rfl
theorem kv_X5_64 : vz_cv RX5 64 yX6_set cX6_set 5 none 3 := ⟨q315, q265, q266, q15, q267, by decide +kernel⟩
theorem dX5_note_0 : decode cX5_note 0 = .ok (.aload_n 0, 1) := by decide +kernel
theorem dX5_note_1 : decode cX5_note 1 = .ok (.getfield 14, 3) := by decide +kernel
theorem dX5_note_4 : decode cX5_note 4 = .ok (.invokevirtual 60, 3) := by decide +kernel
theorem dX5_note_7 : decode cX5_note 7 = .ok (.istore 4, 2) := by decide +kernel
theorem dX5_note_9 : decode cX5_note 9 = .ok (.aload_n 0, 1) := by decide +kernel
theorem dX5_note_10 : decode cX5_note 10 = .ok (.getfield 14, 3) := by decide +kernel
theorem dX5_note_13 : decode cX5_note 13 = .ok (.iload 4, 2) := by decide +kernel
theorem dX5_note_15 : decode cX5_note 15 = .ok (.iconst 0, 1) := by decide +kernel
theorem dX5_note_16 : decode cX5_note 16 = .ok (.iload_n 1, 1) := by decide +kernel
theorem dX5_note_17 : decode cX5_note 17 = .ok (.invokevirtual 64, 3) := by decide +kernel
theorem dX5_note_20 : decode cX5_note 20 = .ok (.aload_n 0, 1) := by decide +kernel
theorem dX5_note_21 : decode cX5_note 21 = .ok (.getfield 14, 3) := by decide +kernel
theorem dX5_note_24 : decode cX5_note 24 = .ok (.iload 4, 2) := by decide +kernel
theorem dX5_note_26 : decode cX5_note 26 = .ok (.iconst 1, 1) := by decide +kernel
theorem dX5_note_27 : decode cX5_note 27 = .ok (.iload_n 2, 1) := by decide +kernel
theorem dX5_note_28 : decode cX5_note 28 = .ok (.invokevirtual 64, 3) := by decide +kernel
theorem dX5_note_31 : decode cX5_note 31 = .ok (.aload_n 0, 1) := by decide +kernel
theorem dX5_note_32 : decode cX5_note 32 = .ok (.getfield 14, 3) := by decide +kernel
theorem dX5_note_35 : decode cX5_note 35 = .ok (.iload 4, 2) := by decide +kernel
theorem dX5_note_37 : decode cX5_note 37 = .ok (.iconst 2, 1) := by decide +kernel
theorem dX5_note_38 : decode cX5_note 38 = .ok (.iload_n 3, 1) := by decide +kernel
theorem dX5_note_39 : decode cX5_note 39 = .ok (.invokevirtual 64, 3) := by decide +kernel
theorem dX5_note_42 : decode cX5_note 42 = .ok (.return_, 1) := by decide +kernel
set_option maxHeartbeats 4000000 in
set_option maxRecDepth 100000 in
theorem c_S_note0 (l : Launch) (D : va_G) (g : Nat → ClassId) (h t q sz : Nat) (a_t tk v pl : Int32) (f : Nat → Int32)  : vz_Mv l D (tyG g) yX5_note cX5_note 5 1 24 0 0 [.ref h, .int tk, .int v, .int pl] sz [(h, .inr (5, [.ref t, .int a_t])), tT t q (nI 3) (nI 1001) 0, tA g q 3003 f] (fun u : Nat → Int32 => u 0 = tk ∧ u 1 = v ∧ u 2 = pl) (fun u => [(h, .inr (5, [.ref t, .int a_t])), tT t q (nI 3) (nI 1001) (nI 1), tA g q 3003 u]) := by
  refine vz_sv (by decide) (Nat.le_of_ble_eq_true rfl) (fun p e s m args below meth c hx hb hr hml hts hown hlk hin hK hsz A hA H locs hP hD hS ls hl => ?_)
  have hl : lv_has ls 5 [(0, .ref h), (1, .int tk), (2, .int v), (3, .int pl)] := hl
  refine lv_aload_n hx hb dX5_note_0 rfl (lv_at hl 0 rfl) ?_
  refine va_get (D := D) (ci := 5) (v := .ref t) (C := RX5) (T := TX5) (N := 2) hx hb hts inlX5 hown hK hP 0 rfl rfl 0 (by decide) (hts _ q78) (fun _ h => h) rfl dX5_note_1 ?_
  refine vz_Vi (wr := [(h, .inr (5, [.ref t, .int a_t]))]) (As := []) (rest := []) hx hb hml hown hts hK hA hP hD hS (c_T_add l D g t q H.size 3 1001 0 3003 f (by decide +kernel)) kv_X5_60 (⟨Nat.le_of_ble_eq_true rfl, Nat.le_of_ble_eq_true rfl⟩) (q0 := 1) (ci := 6) rfl rfl rfl [1, 2] [0] rfl rfl (by decide) hl.1 (Nat.le_of_ble_eq_true rfl) dX5_note_4 (⟨Nat.le_of_ble_eq_true rfl, Nat.le_of_ble_eq_true rfl⟩) rfl (fun r1 ⟨u2R, u2f⟩ H locs e3 _ hP hD hS => ?_)
  obtain ⟨-, e31, e32, e33⟩ | ⟨h9, -⟩ := e3
  case inr => exact absurd h9 (by decide)
  dsimp only at e32 e33 hP hD
  subst e31 e32 e33
  have hP : va_P D vwCl [(h, .inr (5, [.ref t, .int a_t])), tT t q (nI 3) (nI 1001) (nI 1), tA g q 3003 (tf f (0 * 3) ((0 + 1) * 3) (-9))] H := hP
  have hD : va_D A [(h, .inr (5, [.ref t, .int a_t])), tT t q (nI 3) (nI 1001) (nI 1), tA g q 3003 (tf f (0 * 3) ((0 + 1) * 3) (-9))] := hD
  refine lv_istore (lv' := [(4, .int (nI 0)), (0, .ref h), (1, .int tk), (2, .int v), (3, .int pl)]) hx hb dX5_note_7 hl (by decide) rfl (fun ls hl => ?_)
  refine lv_aload_n hx hb dX5_note_9 rfl (lv_at hl 1 rfl) ?_
  refine va_get (D := D) (ci := 5) (v := .ref t) (C := RX5) (T := TX5) (N := 2) hx hb hts inlX5 hown hK hP 0 rfl rfl 0 (by decide) (hts _ q78) (fun _ h => h) rfl dX5_note_10 ?_
  refine lv_iload hx hb dX5_note_13 (lv_at hl 0 rfl) ?_
  refine lv_iconst (v := 0) hx hb dX5_note_15 (by decide) ?_
  refine lv_iload_n hx hb dX5_note_16 rfl (lv_at hl 2 rfl) ?_
  refine vz_Vv (wr := [(h, .inr (5, [.ref t, .int a_t]))]) (As := [.int (nI 0), .int 0, .int tk]) (rest := []) hx hb hml hown hts hK hA hP hD hS (c_T_set l D g t q H.size 3 1001 1 3003 (tf f (0 * 3) ((0 + 1) * 3) (-9)) (nI 0) 0 tk (by decide +kernel)) kv_X5_64 (⟨Nat.le_of_ble_eq_true rfl, Nat.le_of_ble_eq_true rfl⟩) (q0 := 1) (ci := 6) rfl rfl rfl [1, 2] [0] rfl rfl (by decide) hl.1 (Nat.le_of_ble_eq_true rfl) dX5_note_17 (⟨Nat.le_of_ble_eq_true rfl, Nat.le_of_ble_eq_true rfl⟩) rfl (fun f4 H locs e5 _ hP hD hS => ?_)
  rw [ts_c 0 (by decide) (by decide)] at e5
  subst e5
  have hP : va_P D vwCl [(h, .inr (5, [.ref t, .int a_t])), tT t q (nI 3) (nI 1001) (nI 1), tA g q 3003 (upd (tf f (0 * 3) ((0 + 1) * 3) (-9)) 0 tk)] H := hP
  have hD : va_D A [(h, .inr (5, [.ref t, .int a_t])), tT t q (nI 3) (nI 1001) (nI 1), tA g q 3003 (upd (tf f (0 * 3) ((0 + 1) * 3) (-9)) 0 tk)] := hD
  refine lv_aload_n hx hb dX5_note_20 rfl (lv_at hl 1 rfl) ?_
  refine va_get (D := D) (ci := 5) (v := .ref t) (C := RX5) (T := TX5) (N := 2) hx hb hts inlX5 hown hK hP 0 rfl rfl 0 (by decide) (hts _ q78) (fun _ h => h) rfl dX5_note_21 ?_
  refine lv_iload hx hb dX5_note_24 (lv_at hl 0 rfl) ?_
  refine lv_iconst (v := 1) hx hb dX5_note_26 (by decide) ?_
  refine lv_iload_n hx hb dX5_note_27 rfl (lv_at hl 3 rfl) ?_
  refine vz_Vv (wr := [(h, .inr (5, [.ref t, .int a_t]))]) (As := [.int (nI 0), .int 1, .int v]) (rest := []) hx hb hml hown hts hK hA hP hD hS (c_T_set l D g t q H.size 3 1001 1 3003 (upd (tf f (0 * 3) ((0 + 1) * 3) (-9)) 0 tk) (nI 0) 1 v (by decide +kernel)) kv_X5_64 (⟨Nat.le_of_ble_eq_true rfl, Nat.le_of_ble_eq_true rfl⟩) (q0 := 1) (ci := 6) rfl rfl rfl [1, 2] [0] rfl rfl (by decide) hl.1 (Nat.le_of_ble_eq_true rfl) dX5_note_28 (⟨Nat.le_of_ble_eq_true rfl, Nat.le_of_ble_eq_true rfl⟩) rfl (fun f6 H locs e7 _ hP hD hS => ?_)
  rw [ts_c 1 (by decide) (by decide)] at e7
  subst e7
  have hP : va_P D vwCl [(h, .inr (5, [.ref t, .int a_t])), tT t q (nI 3) (nI 1001) (nI 1), tA g q 3003 (upd (upd (tf f (0 * 3) ((0 + 1) * 3) (-9)) 0 tk) 1 v)] H := hP
  have hD : va_D A [(h, .inr (5, [.ref t, .int a_t])), tT t q (nI 3) (nI 1001) (nI 1), tA g q 3003 (upd (upd (tf f (0 * 3) ((0 + 1) * 3) (-9)) 0 tk) 1 v)] := hD
  refine lv_aload_n hx hb dX5_note_31 rfl (lv_at hl 1 rfl) ?_
  refine va_get (D := D) (ci := 5) (v := .ref t) (C := RX5) (T := TX5) (N := 2) hx hb hts inlX5 hown hK hP 0 rfl rfl 0 (by decide) (hts _ q78) (fun _ h => h) rfl dX5_note_32 ?_
  refine lv_iload hx hb dX5_note_35 (lv_at hl 0 rfl) ?_
  refine lv_iconst (v := 2) hx hb dX5_note_37 (by decide) ?_
  refine lv_iload_n hx hb dX5_note_38 rfl (lv_at hl 4 rfl) ?_
  refine vz_Vv (wr := [(h, .inr (5, [.ref t, .int a_t]))]) (As := [.int (nI 0), .int 2, .int pl]) (rest := []) hx hb hml hown hts hK hA hP hD hS (c_T_set l D g t q H.size 3 1001 1 3003 (upd (upd (tf f (0 * 3) ((0 + 1) * 3) (-9)) 0 tk) 1 v) (nI 0) 2 pl (by decide +kernel)) kv_X5_64 (⟨Nat.le_of_ble_eq_true rfl, Nat.le_of_ble_eq_true rfl⟩) (q0 := 1) (ci := 6) rfl rfl rfl [1, 2] [0] rfl rfl (by decide) hl.1 (Nat.le_of_ble_eq_true rfl) dX5_note_39 (⟨Nat.le_of_ble_eq_true rfl, Nat.le_of_ble_eq_true rfl⟩) rfl (fun f8 H locs e9 _ hP hD hS => ?_)
  rw [ts_c 2 (by decide) (by decide)] at e9
  subst e9
  have hP : va_P D vwCl [(h, .inr (5, [.ref t, .int a_t])), tT t q (nI 3) (nI 1001) (nI 1), tA g q 3003 (upd (upd (upd (tf f (0 * 3) ((0 + 1) * 3) (-9)) 0 tk) 1 v) 2 pl)] H := hP
  have hD : va_D A [(h, .inr (5, [.ref t, .int a_t])), tT t q (nI 3) (nI 1001) (nI 1), tA g q 3003 (upd (upd (upd (tf f (0 * 3) ((0 + 1) * 3) (-9)) 0 tk) 1 v) 2 pl)] := hD
  exact vz_vret hx hb hr hlk hK hP hD hS ((upd (upd (upd (tf f (0 * 3) ((0 + 1) * 3) (-9)) 0 tk) 1 v) 2 pl)) (⟨by simp [upd], by simp [upd], by simp [upd]⟩) [0, 1, 2] rfl (by decide) (Nat.le_refl 0) (Nat.le_refl 0) dX5_note_42
theorem q289 : Cond.methodLink RX5 24 yX6_reset ∈ wsL_law := mT_2 (List.mem_of_getElem? (i := 210) rfl) rfl
theorem q290 : Cond.instanceMethod yX6_reset ∈ wsL_law := mT_2 (List.mem_of_getElem? (i := 211) rfl) rfl
theorem q291 : Cond.selects RX6 yX6_reset yX6_reset ∈ wsL_law := mT_2 (List.mem_of_getElem? (i := 212) rfl) rfl
theorem q292 : Cond.code yX6_reset cX6_reset 1 none ∈ wsL_law := mT_2 (List.mem_of_getElem? (i := 213) rfl) rfl
theorem kv_X5_24 : vz_cv RX5 24 yX6_reset cX6_reset 1 none 0 := ⟨q289, q290, q291, q15, q292, by decide +kernel⟩
theorem q288 : Cond.fieldLink RX5 27 "WaysAtlas$Table" "rows" "I" ∈ wsL_law := mT_1 (List.mem_of_getElem? (i := 40) rfl) rfl
theorem q310 : Cond.methodLink RX5 56 yX5_note ∈ wsL_law := mT_2 (List.mem_of_getElem? (i := 231) rfl) rfl
theorem q311 : Cond.instanceMethod yX5_note ∈ wsL_law := mT_2 (List.mem_of_getElem? (i := 233) rfl) rfl
theorem q312 : Cond.selects RX5 yX5_note yX5_note ∈ wsL_law := mS_1 (q := (yX5_note, 2)) (List.mem_of_getElem? (i := 1) rfl) rfl
theorem q19 : Cond.initialized RX5 ∈ wsL_law := mT_1 (List.mem_of_getElem? (i := 4) rfl) rfl
theorem q313 : Cond.code yX5_note cX5_note 5 none ∈ wsL_law := mT_2 (List.mem_of_getElem? (i := 234) rfl) rfl
theorem kv_X5_56 : vz_cv RX5 56 yX5_note cX5_note 5 none 3 := ⟨q310, q311, q312, q19, q313, by decide +kernel⟩
theorem dX5_scan_0 : decode cX5_scan 0 = .ok (.aload_n 0, 1) := by decide +kernel
theorem dX5_scan_1 : decode cX5_scan 1 = .ok (.getfield 14, 3) := by decide +kernel
theorem dX5_scan_4 : decode cX5_scan 4 = .ok (.invokevirtual 24, 3) := by decide +kernel
theorem dX5_scan_7 : decode cX5_scan 7 = .ok (.aload_n 0, 1) := by decide +kernel
theorem dX5_scan_8 : decode cX5_scan 8 = .ok (.iconst 0, 1) := by decide +kernel
theorem dX5_scan_9 : decode cX5_scan 9 = .ok (.putfield 20, 3) := by decide +kernel
theorem dX5_scan_12 : decode cX5_scan 12 = .ok (.iconst 0, 1) := by decide +kernel
theorem dX5_scan_13 : decode cX5_scan 13 = .ok (.istore_n 2, 1) := by decide +kernel
theorem dX5_scan_14 : decode cX5_scan 14 = .ok (.iload_n 2, 1) := by decide +kernel
theorem dX5_scan_15 : decode cX5_scan 15 = .ok (.sipush 1000, 3) := by decide +kernel
theorem dX5_scan_18 : decode cX5_scan 18 = .ok (.if_icmp .gt 119, 3) := by decide +kernel
theorem dX5_scan_21 : decode cX5_scan 21 = .ok (.aload_n 0, 1) := by decide +kernel
theorem dX5_scan_22 : decode cX5_scan 22 = .ok (.getfield 20, 3) := by decide +kernel
theorem dX5_scan_25 : decode cX5_scan 25 = .ok (.aload_n 1, 1) := by decide +kernel
theorem dX5_scan_26 : decode cX5_scan 26 = .ok (.getfield 27, 3) := by decide +kernel
theorem dX5_scan_29 : decode cX5_scan 29 = .ok (.if_icmp .ge 108, 3) := by decide +kernel
theorem dX5_scan_137 : decode cX5_scan 137 = .ok (.aload_n 0, 1) := by decide +kernel
theorem dX5_scan_138 : decode cX5_scan 138 = .ok (.iconst 0, 1) := by decide +kernel
theorem dX5_scan_139 : decode cX5_scan 139 = .ok (.iconst 0, 1) := by decide +kernel
theorem dX5_scan_140 : decode cX5_scan 140 = .ok (.aload_n 1, 1) := by decide +kernel
theorem dX5_scan_141 : decode cX5_scan 141 = .ok (.getfield 27, 3) := by decide +kernel
theorem dX5_scan_144 : decode cX5_scan 144 = .ok (.invokevirtual 56, 3) := by decide +kernel
theorem dX5_scan_147 : decode cX5_scan 147 = .ok (.return_, 1) := by decide +kernel
set_option maxHeartbeats 4000000 in
set_option maxRecDepth 100000 in
theorem c_S_scan0 (l : Launch) (D : va_G) (g : Nat → ClassId) (h t q x y sz : Nat) (a_t : Int32) (f : Nat → Int32)  : vz_Mv l D (tyG g) yX5_scan cX5_scan 4 2 48 0 0 [.ref h, .ref x] sz [(h, .inr (5, [.ref t, .int a_t])), tT t q (nI 3) (nI 1001) 0, tA g q 3003 f, tT x y (nI 1) (nI 1000) 0] (fun u : Nat → Int32 => u 0 = 0 ∧ u 1 = 0 ∧ u 2 = 0) (fun u => [(h, .inr (5, [.ref t, .int 0])), tT t q (nI 3) (nI 1001) (nI 1), tA g q 3003 u, tT x y (nI 1) (nI 1000) 0]) := by
  refine vz_sv (by decide) (Nat.le_of_ble_eq_true rfl) (fun p e s m args below meth c hx hb hr hml hts hown hlk hin hK hsz A hA H locs hP hD hS ls hl => ?_)
  have hl : lv_has ls 4 [(0, .ref h), (1, .ref x)] := hl
  refine lv_aload_n hx hb dX5_scan_0 rfl (lv_at hl 0 rfl) ?_
  refine va_get (D := D) (ci := 5) (v := .ref t) (C := RX5) (T := TX5) (N := 2) hx hb hts inlX5 hown hK hP 0 rfl rfl 0 (by decide) (hts _ q78) (fun _ h => h) rfl dX5_scan_1 ?_
  refine vz_Vv (wr := [(h, .inr (5, [.ref t, .int a_t])), tA g q 3003 f, tT x y (nI 1) (nI 1000) 0]) (As := []) (rest := []) hx hb hml hown hts hK hA hP hD hS (c_T_reset l D g t q H.size (nI 3) (nI 1001) 0) kv_X5_24 (⟨Nat.le_of_ble_eq_true rfl, Nat.le_of_ble_eq_true rfl⟩) (q0 := 1) (ci := 6) rfl rfl rfl [1] [0, 2, 3] rfl rfl (by decide) hl.1 (Nat.le_of_ble_eq_true rfl) dX5_scan_4 (⟨Nat.le_of_ble_eq_true rfl, Nat.le_of_ble_eq_true rfl⟩) rfl (fun _ H locs _ _ hP hD hS => ?_)
  have hP : va_P D vwCl [(h, .inr (5, [.ref t, .int a_t])), tA g q 3003 f, tT x y (nI 1) (nI 1000) 0, tT t q (nI 3) (nI 1001) 0] H := hP
  have hD : va_D A [(h, .inr (5, [.ref t, .int a_t])), tA g q 3003 f, tT x y (nI 1) (nI 1000) 0, tT t q (nI 3) (nI 1001) 0] := hD
  refine lv_aload_n hx hb dX5_scan_7 rfl (lv_at hl 0 rfl) ?_
  refine lv_iconst (v := 0) hx hb dX5_scan_8 (by decide) ?_
  refine va_put (D := D) (ci := 5) (v := .int 0) (ty := .int) (C := RX5) (T := TX5) (N := 2) hx hb hts inlX5 tyX5 tyX5_ok nmX5 hown hK hP hD hS 0 rfl rfl 1 (by decide) (hts _ q79) (fun _ h => h) rfl (by decide +kernel) rfl rfl (Nat.le_of_ble_eq_true rfl) dX5_scan_9 (fun H locs hP hD hS => ?_)
  have hP : va_P D vwCl [(h, .inr (5, [.ref t, .int 0])), tA g q 3003 f, tT x y (nI 1) (nI 1000) 0, tT t q (nI 3) (nI 1001) 0] H := hP
  have hD : va_D A [(h, .inr (5, [.ref t, .int 0])), tA g q 3003 f, tT x y (nI 1) (nI 1000) 0, tT t q (nI 3) (nI 1001) 0] := hD
  refine lv_iconst (v := 0) hx hb dX5_scan_12 (by decide) ?_
  refine lv_istore_n (lv' := [(2, .int 0), (0, .ref h), (1, .ref x)]) hx hb dX5_scan_13 rfl hl (by decide) rfl (fun ls hl => ?_)
  refine lv_iload_n hx hb dX5_scan_14 rfl (lv_at hl 0 rfl) ?_
  refine lv_sipush (v := 1000) hx hb dX5_scan_15 (by decide) ?_
  refine lv_icmp_gt (tgt := 137) hx hb dX5_scan_18 (by decide) (fun h9 => absurd h9 (by decide)) (fun _ => ?_)
  refine lv_aload_n hx hb dX5_scan_21 rfl (lv_at hl 1 rfl) ?_
  refine va_get (D := D) (ci := 5) (v := .int 0) (C := RX5) (T := TX5) (N := 2) hx hb hts inlX5 hown hK hP 0 rfl rfl 1 (by decide) (hts _ q79) (fun _ h => h) rfl dX5_scan_22 ?_
  refine lv_aload_n hx hb dX5_scan_25 rfl (lv_at hl 2 rfl) ?_
  refine va_get (D := D) (ci := 6) (v := .int 0) (C := RX6) (T := TX6) (N := 4) hx hb hts inlX6 hown hK hP 2 rfl rfl 3 (by decide) (hts _ q288) (fun _ h => h) rfl dX5_scan_26 ?_
  refine lv_icmp_ge (tgt := 137) hx hb dX5_scan_29 (by decide) (fun _ => ?_) (fun h9 => absurd (by decide) h9)
  refine lv_aload_n hx hb dX5_scan_137 rfl (lv_at hl 1 rfl) ?_
  refine lv_iconst (v := 0) hx hb dX5_scan_138 (by decide) ?_
  refine lv_iconst (v := 0) hx hb dX5_scan_139 (by decide) ?_
  refine lv_aload_n hx hb dX5_scan_140 rfl (lv_at hl 2 rfl) ?_
  refine va_get (D := D) (ci := 6) (v := .int 0) (C := RX6) (T := TX6) (N := 4) hx hb hts inlX6 hown hK hP 2 rfl rfl 3 (by decide) (hts _ q288) (fun _ h => h) rfl dX5_scan_141 ?_
  refine vz_Vv (wr := [tT x y (nI 1) (nI 1000) 0]) (As := [.int 0, .int 0, .int 0]) (rest := []) hx hb hml hown hts hK hA hP hD hS (c_S_note0 l D g h t q H.size 0 0 0 0 f) kv_X5_56 (⟨Nat.le_of_ble_eq_true rfl, Nat.le_of_ble_eq_true rfl⟩) (q0 := 0) (ci := 5) rfl rfl rfl [0, 3, 1] [2] rfl rfl (by decide) hl.1 (Nat.le_of_ble_eq_true rfl) dX5_scan_144 (⟨Nat.le_of_ble_eq_true rfl, Nat.le_of_ble_eq_true rfl⟩) rfl (fun fn H locs efn _ hP hD hS => ?_)
  have hP : va_P D vwCl [tT x y (nI 1) (nI 1000) 0, (h, .inr (5, [.ref t, .int 0])), tT t q (nI 3) (nI 1001) (nI 1), tA g q 3003 fn] H := hP
  have hD : va_D A [tT x y (nI 1) (nI 1000) 0, (h, .inr (5, [.ref t, .int 0])), tT t q (nI 3) (nI 1001) (nI 1), tA g q 3003 fn] := hD
  exact vz_vret hx hb hr hlk hK hP hD hS (fn) (efn) [1, 2, 3, 0] rfl (by decide) (Nat.le_refl 0) (Nat.le_refl 0) dX5_scan_147
theorem q457 : Cond.methodLink RX2 35 yX6_add ∈ wsL_law := mT_3 (List.mem_of_getElem? (i := 134) rfl) rfl
theorem kv_X2_35 : vz_cv RX2 35 yX6_add cX6_add 2 (some .int) 0 := ⟨q457, q261, q262, q15, q263, by decide +kernel⟩
theorem q458 : Cond.methodLink RX2 39 yX6_set ∈ wsL_law := mT_3 (List.mem_of_getElem? (i := 135) rfl) rfl
theorem kv_X2_39 : vz_cv RX2 39 yX6_set cX6_set 5 none 3 := ⟨q458, q265, q266, q15, q267, by decide +kernel⟩
theorem dX2_reset_37 : decode cX2_reset 37 = .ok (.iload_n 1, 1) := by decide +kernel
theorem dX2_reset_38 : decode cX2_reset 38 = .ok (.bipush 7, 2) := by decide +kernel
theorem dX2_reset_40 : decode cX2_reset 40 = .ok (.if_icmp .ge 45, 3) := by decide +kernel
theorem dX2_reset_43 : decode cX2_reset 43 = .ok (.aload_n 0, 1) := by decide +kernel
theorem dX2_reset_44 : decode cX2_reset 44 = .ok (.getfield 26, 3) := by decide +kernel
theorem dX2_reset_47 : decode cX2_reset 47 = .ok (.invokevirtual 35, 3) := by decide +kernel
theorem dX2_reset_50 : decode cX2_reset 50 = .ok (.istore_n 2, 1) := by decide +kernel
theorem dX2_reset_51 : decode cX2_reset 51 = .ok (.aload_n 0, 1) := by decide +kernel
theorem dX2_reset_52 : decode cX2_reset 52 = .ok (.getfield 26, 3) := by decide +kernel
theorem dX2_reset_55 : decode cX2_reset 55 = .ok (.iload_n 2, 1) := by decide +kernel
theorem dX2_reset_56 : decode cX2_reset 56 = .ok (.iconst 0, 1) := by decide +kernel
theorem dX2_reset_57 : decode cX2_reset 57 = .ok (.iload_n 1, 1) := by decide +kernel
theorem dX2_reset_58 : decode cX2_reset 58 = .ok (.ifCond .ne 8, 3) := by decide +kernel
theorem dX2_reset_61 : decode cX2_reset 61 = .ok (.bipush (-9), 2) := by decide +kernel
theorem dX2_reset_63 : decode cX2_reset 63 = .ok (.goto 13, 3) := by decide +kernel
theorem dX2_reset_66 : decode cX2_reset 66 = .ok (.iload_n 1, 1) := by decide +kernel
theorem dX2_reset_67 : decode cX2_reset 67 = .ok (.iconst 1, 1) := by decide +kernel
theorem dX2_reset_68 : decode cX2_reset 68 = .ok (.if_icmp .ne 7, 3) := by decide +kernel
theorem dX2_reset_71 : decode cX2_reset 71 = .ok (.iconst 0, 1) := by decide +kernel
theorem dX2_reset_72 : decode cX2_reset 72 = .ok (.goto 4, 3) := by decide +kernel
theorem dX2_reset_75 : decode cX2_reset 75 = .ok (.iconst 1, 1) := by decide +kernel
theorem dX2_reset_76 : decode cX2_reset 76 = .ok (.invokevirtual 39, 3) := by decide +kernel
theorem dX2_reset_79 : decode cX2_reset 79 = .ok (.iinc 1 1, 3) := by decide +kernel
theorem dX2_reset_82 : decode cX2_reset 82 = .ok (.goto (-45), 3) := by decide +kernel
set_option maxHeartbeats 4000000 in
set_option maxRecDepth 100000 in
theorem lp_P_reset {p : Program} {l : Launch} {e : Env} {Rm : Room} {s : State} {m : MethodId} {args : Array Value} {below : List Frame} {meth : Method} {c : Code} {Q : State → Prop} {A : Nat → Prop} {D : va_G} {g : Nat → ClassId} {H0 : Heap} {cells slots : Nat} (hx : p.tables.exec = Jvm.exec) (hb : c.code = cX2_reset) (hml : c.maxLocals = 3) (hown : s.vm.findClass RX2 = some m.cls) (hts : ∀ w ∈ wsL_law, w.before args s = true) (hK : va_K D vwCl (tyG g) s) (hA : ∀ q : Nat, H0.size ≤ q → A q) (hRf : 1 ≤ Rm.frames) (hRl : 24 ≤ Rm.locals) (hcc : cells ≤ Rm.cells) (hss : slots ≤ Rm.slots) {h t0 t1 t2 t3 t4 q0 q1 q2 q3 q4 : Nat}
    (kk : ∀ (f : Nat → Int32) (H : Heap) (locs : List Loc) (ls : Array Slot), va_P D vwCl [(h, .inr (2, [.ref t0, .ref t1, .ref t2, .ref t3, .ref t4])), tT t0 q0 (nI 12) (nI 80) 0, tT t1 q1 (nI 5) (nI 1000) 0, tT t2 q2 (nI 5) (nI 112) 0, tT t4 q4 (nI 2) (nI 8) 0, tT t3 q3 (nI 1) (nI 16) (nI 7), tA g q3 16 f] H → va_D A [(h, .inr (2, [.ref t0, .ref t1, .ref t2, .ref t3, .ref t4])), tT t0 q0 (nI 12) (nI 80) 0, tT t1 q1 (nI 5) (nI 1000) 0, tT t2 q2 (nI 5) (nI 112) 0, tT t4 q4 (nI 2) (nI 8) 0, tT t3 q3 (nI 1) (nI 16) (nI 7), tA g q3 16 f] → va_S A H0 H locs → lv_has ls 3 [(0, .ref h), (1, .int (nI 7))] → W p l e Rm s m args below meth c H locs cells slots Q (F0 m 85 ls [])) :
    ∀ (n i : Nat), i ≤ 7 → 7 - i < n → ∀ (f : Nat → Int32) (H : Heap) (locs : List Loc) (ls : Array Slot), va_P D vwCl [(h, .inr (2, [.ref t0, .ref t1, .ref t2, .ref t3, .ref t4])), tT t0 q0 (nI 12) (nI 80) 0, tT t1 q1 (nI 5) (nI 1000) 0, tT t2 q2 (nI 5) (nI 112) 0, tT t4 q4 (nI 2) (nI 8) 0, tT t3 q3 (nI 1) (nI 16) (nI i), tA g q3 16 f] H → va_D A [(h, .inr (2, [.ref t0, .ref t1, .ref t2, .ref t3, .ref t4])), tT t0 q0 (nI 12) (nI 80) 0, tT t1 q1 (nI 5) (nI 1000) 0, tT t2 q2 (nI 5) (nI 112) 0, tT t4 q4 (nI 2) (nI 8) 0, tT t3 q3 (nI 1) (nI 16) (nI i), tA g q3 16 f] → va_S A H0 H locs → lv_has ls 3 [(0, .ref h), (1, .int (nI i))] → W p l e Rm s m args below meth c H locs cells slots Q (F0 m 37 ls []) := by
  intro n
  induction n with
  | zero => intro i _ z; omega
  | succ n ih =>
    intro i hi hm f H locs ls hP hD hS hl
    refine lv_iload_n hx hb dX2_reset_37 rfl (lv_at hl 1 rfl) ?_
    refine lv_bipush (v := 7) hx hb dX2_reset_38 (by decide) ?_
    refine lv_icmp_ge (tgt := 85) hx hb dX2_reset_40 (by decide) (fun kc => ?_) (fun kc => ?_)
    · have hii : i = 7 := by
        rcases Nat.lt_or_ge i 7 with z | z
        · exact absurd kc (nI_ge (b := 7) z (by decide))
        · omega
      subst hii
      exact kk f H locs ls hP hD hS hl
    · have hlt : i < 7 := by
        rcases Nat.lt_or_ge i 7 with z | z
        · exact z
        · exact absurd (nI_le (a := 7) z (by omega)) kc
      refine lv_aload_n hx hb dX2_reset_43 rfl (lv_at hl 0 rfl) ?_
      refine va_get (D := D) (ci := 2) (v := .ref t3) (C := RX2) (T := TX2) (N := 5) hx hb hts inlX2 hown hK hP 0 rfl rfl 3 (by decide) (hts _ q89) (fun _ h => h) rfl dX2_reset_44 ?_
      refine vz_Vi (wr := [(h, .inr (2, [.ref t0, .ref t1, .ref t2, .ref t3, .ref t4])), tT t0 q0 (nI 12) (nI 80) 0, tT t1 q1 (nI 5) (nI 1000) 0, tT t2 q2 (nI 5) (nI 112) 0, tT t4 q4 (nI 2) (nI 8) 0]) (As := []) (rest := []) hx hb hml hown hts hK hA hP hD hS (c_T_add l D g t3 q3 H.size 1 16 i 16 f ⟨rfl, by decide, by decide, by decide, by decide, by omega⟩) kv_X2_35 (⟨by omega, by omega⟩) (q0 := 5) (ci := 6) rfl rfl rfl [5, 6] [0, 1, 2, 3, 4] rfl rfl (by decide) hl.1 (Nat.le_of_ble_eq_true rfl) dX2_reset_47 (⟨by omega, by omega⟩) rfl (fun r ⟨uR, uf⟩ H locs ea _ hP hD hS => ?_)
      obtain ⟨-, ea1, ea2, ea3⟩ | ⟨h9, -⟩ := ea
      case inr => exact absurd h9 (by omega)
      dsimp only at ea2 ea3 hP hD
      subst ea1 ea2 ea3
      have hP : va_P D vwCl [(h, .inr (2, [.ref t0, .ref t1, .ref t2, .ref t3, .ref t4])), tT t0 q0 (nI 12) (nI 80) 0, tT t1 q1 (nI 5) (nI 1000) 0, tT t2 q2 (nI 5) (nI 112) 0, tT t4 q4 (nI 2) (nI 8) 0, tT t3 q3 (nI 1) (nI 16) (nI (i + 1)), tA g q3 16 (tf f (i * 1) ((i + 1) * 1) (-9))] H := hP
      have hD : va_D A [(h, .inr (2, [.ref t0, .ref t1, .ref t2, .ref t3, .ref t4])), tT t0 q0 (nI 12) (nI 80) 0, tT t1 q1 (nI 5) (nI 1000) 0, tT t2 q2 (nI 5) (nI 112) 0, tT t4 q4 (nI 2) (nI 8) 0, tT t3 q3 (nI 1) (nI 16) (nI (i + 1)), tA g q3 16 (tf f (i * 1) ((i + 1) * 1) (-9))] := hD
      refine lv_istore_n (lv' := [(2, .int (nI i)), (0, .ref h), (1, .int (nI i))]) hx hb dX2_reset_50 rfl hl (by decide) rfl (fun ls hl => ?_)
      refine lv_aload_n hx hb dX2_reset_51 rfl (lv_at hl 1 rfl) ?_
      refine va_get (D := D) (ci := 2) (v := .ref t3) (C := RX2) (T := TX2) (N := 5) hx hb hts inlX2 hown hK hP 0 rfl rfl 3 (by decide) (hts _ q89) (fun _ h => h) rfl dX2_reset_52 ?_
      refine lv_iload_n hx hb dX2_reset_55 rfl (lv_at hl 0 rfl) ?_
      refine lv_iconst (v := 0) hx hb dX2_reset_56 (by decide) ?_
      refine lv_iload_n hx hb dX2_reset_57 rfl (lv_at hl 2 rfl) ?_
      refine lv_if_ne (tgt := 66) hx hb dX2_reset_58 (by decide) (fun kd => ?_) (fun kd => ?_)
      · refine lv_iload_n hx hb dX2_reset_66 rfl (lv_at hl 2 rfl) ?_
        refine lv_iconst (v := 1) hx hb dX2_reset_67 (by decide) ?_
        refine lv_icmp_ne (tgt := 75) hx hb dX2_reset_68 (by decide) (fun ke => ?_) (fun ke => ?_)
        · refine lv_iconst (v := 1) hx hb dX2_reset_75 (by decide) ?_
          refine vz_Vv (wr := [(h, .inr (2, [.ref t0, .ref t1, .ref t2, .ref t3, .ref t4])), tT t0 q0 (nI 12) (nI 80) 0, tT t1 q1 (nI 5) (nI 1000) 0, tT t2 q2 (nI 5) (nI 112) 0, tT t4 q4 (nI 2) (nI 8) 0]) (As := [.int (nI i), .int 0, .int 1]) (rest := []) hx hb hml hown hts hK hA hP hD hS (c_T_set l D g t3 q3 H.size 1 16 (i + 1) 16 (tf f (i * 1) ((i + 1) * 1) (-9)) (nI i) 0 1 ⟨rfl, by decide, by decide, by decide, by decide, by omega⟩) kv_X2_39 (⟨by omega, by omega⟩) (q0 := 5) (ci := 6) rfl rfl rfl [5, 6] [0, 1, 2, 3, 4] rfl rfl (by decide) hl.1 (Nat.le_of_ble_eq_true rfl) dX2_reset_76 (⟨by omega, by omega⟩) rfl (fun f2 H locs _ _ hP hD hS => ?_)
          have hP : va_P D vwCl [(h, .inr (2, [.ref t0, .ref t1, .ref t2, .ref t3, .ref t4])), tT t0 q0 (nI 12) (nI 80) 0, tT t1 q1 (nI 5) (nI 1000) 0, tT t2 q2 (nI 5) (nI 112) 0, tT t4 q4 (nI 2) (nI 8) 0, tT t3 q3 (nI 1) (nI 16) (nI (i + 1)), tA g q3 16 f2] H := hP
          have hD : va_D A [(h, .inr (2, [.ref t0, .ref t1, .ref t2, .ref t3, .ref t4])), tT t0 q0 (nI 12) (nI 80) 0, tT t1 q1 (nI 5) (nI 1000) 0, tT t2 q2 (nI 5) (nI 112) 0, tT t4 q4 (nI 2) (nI 8) 0, tT t3 q3 (nI 1) (nI 16) (nI (i + 1)), tA g q3 16 f2] := hD
          refine lv_iinc (v := (nI (i + 1))) (lv' := [(1, .int (nI (i + 1))), (2, .int (nI i)), (0, .ref h)]) hx hb dX2_reset_79 hl (k := 2) rfl (nI_1 i) (by decide) rfl (fun ls hl => ?_)
          refine lv_goto (tgt := 37) hx hb dX2_reset_82 (by decide) ?_
          exact ih (i + 1) (by omega) (by omega) _ H locs ls hP hD hS (lv_sub hl [2, 0] rfl)
        · refine lv_iconst (v := 0) hx hb dX2_reset_71 (by decide) ?_
          refine lv_goto (tgt := 76) hx hb dX2_reset_72 (by decide) ?_
          refine vz_Vv (wr := [(h, .inr (2, [.ref t0, .ref t1, .ref t2, .ref t3, .ref t4])), tT t0 q0 (nI 12) (nI 80) 0, tT t1 q1 (nI 5) (nI 1000) 0, tT t2 q2 (nI 5) (nI 112) 0, tT t4 q4 (nI 2) (nI 8) 0]) (As := [.int (nI i), .int 0, .int 0]) (rest := []) hx hb hml hown hts hK hA hP hD hS (c_T_set l D g t3 q3 H.size 1 16 (i + 1) 16 (tf f (i * 1) ((i + 1) * 1) (-9)) (nI i) 0 0 ⟨rfl, by decide, by decide, by decide, by decide, by omega⟩) kv_X2_39 (⟨by omega, by omega⟩) (q0 := 5) (ci := 6) rfl rfl rfl [5, 6] [0, 1, 2, 3, 4] rfl rfl (by decide) hl.1 (Nat.le_of_ble_eq_true rfl) dX2_reset_76 (⟨by omega, by omega⟩) rfl (fun f2 H locs _ _ hP hD hS => ?_)
          have hP : va_P D vwCl [(h, .inr (2, [.ref t0, .ref t1, .ref t2, .ref t3, .ref t4])), tT t0 q0 (nI 12) (nI 80) 0, tT t1 q1 (nI 5) (nI 1000) 0, tT t2 q2 (nI 5) (nI 112) 0, tT t4 q4 (nI 2) (nI 8) 0, tT t3 q3 (nI 1) (nI 16) (nI (i + 1)), tA g q3 16 f2] H := hP
          have hD : va_D A [(h, .inr (2, [.ref t0, .ref t1, .ref t2, .ref t3, .ref t4])), tT t0 q0 (nI 12) (nI 80) 0, tT t1 q1 (nI 5) (nI 1000) 0, tT t2 q2 (nI 5) (nI 112) 0, tT t4 q4 (nI 2) (nI 8) 0, tT t3 q3 (nI 1) (nI 16) (nI (i + 1)), tA g q3 16 f2] := hD
          refine lv_iinc (v := (nI (i + 1))) (lv' := [(1, .int (nI (i + 1))), (2, .int (nI i)), (0, .ref h)]) hx hb dX2_reset_79 hl (k := 2) rfl (nI_1 i) (by decide) rfl (fun ls hl => ?_)
          refine lv_goto (tgt := 37) hx hb dX2_reset_82 (by decide) ?_
          exact ih (i + 1) (by omega) (by omega) _ H locs ls hP hD hS (lv_sub hl [2, 0] rfl)
      · refine lv_bipush (v := (-9)) hx hb dX2_reset_61 (by decide) ?_
        refine lv_goto (tgt := 76) hx hb dX2_reset_63 (by decide) ?_
        refine vz_Vv (wr := [(h, .inr (2, [.ref t0, .ref t1, .ref t2, .ref t3, .ref t4])), tT t0 q0 (nI 12) (nI 80) 0, tT t1 q1 (nI 5) (nI 1000) 0, tT t2 q2 (nI 5) (nI 112) 0, tT t4 q4 (nI 2) (nI 8) 0]) (As := [.int (nI i), .int 0, .int (-9)]) (rest := []) hx hb hml hown hts hK hA hP hD hS (c_T_set l D g t3 q3 H.size 1 16 (i + 1) 16 (tf f (i * 1) ((i + 1) * 1) (-9)) (nI i) 0 (-9) ⟨rfl, by decide, by decide, by decide, by decide, by omega⟩) kv_X2_39 (⟨by omega, by omega⟩) (q0 := 5) (ci := 6) rfl rfl rfl [5, 6] [0, 1, 2, 3, 4] rfl rfl (by decide) hl.1 (Nat.le_of_ble_eq_true rfl) dX2_reset_76 (⟨by omega, by omega⟩) rfl (fun f2 H locs _ _ hP hD hS => ?_)
        have hP : va_P D vwCl [(h, .inr (2, [.ref t0, .ref t1, .ref t2, .ref t3, .ref t4])), tT t0 q0 (nI 12) (nI 80) 0, tT t1 q1 (nI 5) (nI 1000) 0, tT t2 q2 (nI 5) (nI 112) 0, tT t4 q4 (nI 2) (nI 8) 0, tT t3 q3 (nI 1) (nI 16) (nI (i + 1)), tA g q3 16 f2] H := hP
        have hD : va_D A [(h, .inr (2, [.ref t0, .ref t1, .ref t2, .ref t3, .ref t4])), tT t0 q0 (nI 12) (nI 80) 0, tT t1 q1 (nI 5) (nI 1000) 0, tT t2 q2 (nI 5) (nI 112) 0, tT t4 q4 (nI 2) (nI 8) 0, tT t3 q3 (nI 1) (nI 16) (nI (i + 1)), tA g q3 16 f2] := hD
        refine lv_iinc (v := (nI (i + 1))) (lv' := [(1, .int (nI (i + 1))), (2, .int (nI i)), (0, .ref h)]) hx hb dX2_reset_79 hl (k := 2) rfl (nI_1 i) (by decide) rfl (fun ls hl => ?_)
        refine lv_goto (tgt := 37) hx hb dX2_reset_82 (by decide) ?_
        exact ih (i + 1) (by omega) (by omega) _ H locs ls hP hD hS (lv_sub hl [2, 0] rfl)
theorem q456 : Cond.methodLink RX2 32 yX6_reset ∈ wsL_law := mT_3 (List.mem_of_getElem? (i := 133) rfl) rfl
theorem kv_X2_32 : vz_cv RX2 32 yX6_reset cX6_reset 1 none 0 := ⟨q456, q290, q291, q15, q292, by decide +kernel⟩
theorem dX2_reset_0 : decode cX2_reset 0 = .ok (.aload_n 0, 1) := by decide +kernel
theorem dX2_reset_1 : decode cX2_reset 1 = .ok (.getfield 14, 3) := by decide +kernel
theorem dX2_reset_4 : decode cX2_reset 4 = .ok (.invokevirtual 32, 3) := by decide +kernel
theorem dX2_reset_7 : decode cX2_reset 7 = .ok (.aload_n 0, 1) := by decide +kernel
theorem dX2_reset_8 : decode cX2_reset 8 = .ok (.getfield 20, 3) := by decide +kernel
theorem dX2_reset_11 : decode cX2_reset 11 = .ok (.invokevirtual 32, 3) := by decide +kernel
theorem dX2_reset_14 : decode cX2_reset 14 = .ok (.aload_n 0, 1) := by decide +kernel
theorem dX2_reset_15 : decode cX2_reset 15 = .ok (.getfield 23, 3) := by decide +kernel
theorem dX2_reset_18 : decode cX2_reset 18 = .ok (.invokevirtual 32, 3) := by decide +kernel
theorem dX2_reset_21 : decode cX2_reset 21 = .ok (.aload_n 0, 1) := by decide +kernel
theorem dX2_reset_22 : decode cX2_reset 22 = .ok (.getfield 29, 3) := by decide +kernel
theorem dX2_reset_25 : decode cX2_reset 25 = .ok (.invokevirtual 32, 3) := by decide +kernel
theorem dX2_reset_28 : decode cX2_reset 28 = .ok (.aload_n 0, 1) := by decide +kernel
theorem dX2_reset_29 : decode cX2_reset 29 = .ok (.getfield 26, 3) := by decide +kernel
theorem dX2_reset_32 : decode cX2_reset 32 = .ok (.invokevirtual 32, 3) := by decide +kernel
theorem dX2_reset_35 : decode cX2_reset 35 = .ok (.iconst 0, 1) := by decide +kernel
theorem dX2_reset_36 : decode cX2_reset 36 = .ok (.istore_n 1, 1) := by decide +kernel
theorem dX2_reset_85 : decode cX2_reset 85 = .ok (.return_, 1) := by decide +kernel
set_option maxHeartbeats 4000000 in
set_option maxRecDepth 100000 in
theorem c_P_reset (l : Launch) (D : va_G) (g : Nat → ClassId) (h t0 t1 t2 t3 t4 q0 q1 q2 q3 q4 sz : Nat) (r0 r1 r2 r3 r4 : Int32) (f : Nat → Int32)  : vz_Mv l D (tyG g) yX2_reset cX2_reset 3 1 24 0 0 [.ref h] sz [(h, .inr (2, [.ref t0, .ref t1, .ref t2, .ref t3, .ref t4])), tT t0 q0 (nI 12) (nI 80) r0, tT t1 q1 (nI 5) (nI 1000) r1, tT t2 q2 (nI 5) (nI 112) r2, tT t3 q3 (nI 1) (nI 16) r3, tT t4 q4 (nI 2) (nI 8) r4, tA g q3 16 f] (fun u : Nat → Int32 => True) (fun u => [(h, .inr (2, [.ref t0, .ref t1, .ref t2, .ref t3, .ref t4])), tT t0 q0 (nI 12) (nI 80) 0, tT t1 q1 (nI 5) (nI 1000) 0, tT t2 q2 (nI 5) (nI 112) 0, tT t3 q3 (nI 1) (nI 16) (nI 7), tT t4 q4 (nI 2) (nI 8) 0, tA g q3 16 u]) := by
  refine vz_sv (by decide) (Nat.le_of_ble_eq_true rfl) (fun p e s m args below meth c hx hb hr hml hts hown hlk hin hK hsz A hA H locs hP hD hS ls hl => ?_)
  have hl : lv_has ls 3 [(0, .ref h)] := hl
  refine lv_aload_n hx hb dX2_reset_0 rfl (lv_at hl 0 rfl) ?_
  refine va_get (D := D) (ci := 2) (v := .ref t0) (C := RX2) (T := TX2) (N := 5) hx hb hts inlX2 hown hK hP 0 rfl rfl 0 (by decide) (hts _ q86) (fun _ h => h) rfl dX2_reset_1 ?_
  refine vz_Vv (wr := [(h, .inr (2, [.ref t0, .ref t1, .ref t2, .ref t3, .ref t4])), tT t1 q1 (nI 5) (nI 1000) r1, tT t2 q2 (nI 5) (nI 112) r2, tT t3 q3 (nI 1) (nI 16) r3, tT t4 q4 (nI 2) (nI 8) r4, tA g q3 16 f]) (As := []) (rest := []) hx hb hml hown hts hK hA hP hD hS (c_T_reset l D g t0 q0 H.size (nI 12) (nI 80) r0) kv_X2_32 (⟨Nat.le_of_ble_eq_true rfl, Nat.le_of_ble_eq_true rfl⟩) (q0 := 1) (ci := 6) rfl rfl rfl [1] [0, 2, 3, 4, 5, 6] rfl rfl (by decide) hl.1 (Nat.le_of_ble_eq_true rfl) dX2_reset_4 (⟨Nat.le_of_ble_eq_true rfl, Nat.le_of_ble_eq_true rfl⟩) rfl (fun _ H locs _ _ hP hD hS => ?_)
  have hP : va_P D vwCl [(h, .inr (2, [.ref t0, .ref t1, .ref t2, .ref t3, .ref t4])), tT t1 q1 (nI 5) (nI 1000) r1, tT t2 q2 (nI 5) (nI 112) r2, tT t3 q3 (nI 1) (nI 16) r3, tT t4 q4 (nI 2) (nI 8) r4, tA g q3 16 f, tT t0 q0 (nI 12) (nI 80) 0] H := hP
  have hD : va_D A [(h, .inr (2, [.ref t0, .ref t1, .ref t2, .ref t3, .ref t4])), tT t1 q1 (nI 5) (nI 1000) r1, tT t2 q2 (nI 5) (nI 112) r2, tT t3 q3 (nI 1) (nI 16) r3, tT t4 q4 (nI 2) (nI 8) r4, tA g q3 16 f, tT t0 q0 (nI 12) (nI 80) 0] := hD
  refine lv_aload_n hx hb dX2_reset_7 rfl (lv_at hl 0 rfl) ?_
  refine va_get (D := D) (ci := 2) (v := .ref t1) (C := RX2) (T := TX2) (N := 5) hx hb hts inlX2 hown hK hP 0 rfl rfl 1 (by decide) (hts _ q87) (fun _ h => h) rfl dX2_reset_8 ?_
  refine vz_Vv (wr := [(h, .inr (2, [.ref t0, .ref t1, .ref t2, .ref t3, .ref t4])), tT t2 q2 (nI 5) (nI 112) r2, tT t3 q3 (nI 1) (nI 16) r3, tT t4 q4 (nI 2) (nI 8) r4, tA g q3 16 f, tT t0 q0 (nI 12) (nI 80) 0]) (As := []) (rest := []) hx hb hml hown hts hK hA hP hD hS (c_T_reset l D g t1 q1 H.size (nI 5) (nI 1000) r1) kv_X2_32 (⟨Nat.le_of_ble_eq_true rfl, Nat.le_of_ble_eq_true rfl⟩) (q0 := 1) (ci := 6) rfl rfl rfl [1] [0, 2, 3, 4, 5, 6] rfl rfl (by decide) hl.1 (Nat.le_of_ble_eq_true rfl) dX2_reset_11 (⟨Nat.le_of_ble_eq_true rfl, Nat.le_of_ble_eq_true rfl⟩) rfl (fun _ H locs _ _ hP hD hS => ?_)
  have hP : va_P D vwCl [(h, .inr (2, [.ref t0, .ref t1, .ref t2, .ref t3, .ref t4])), tT t2 q2 (nI 5) (nI 112) r2, tT t3 q3 (nI 1) (nI 16) r3, tT t4 q4 (nI 2) (nI 8) r4, tA g q3 16 f, tT t0 q0 (nI 12) (nI 80) 0, tT t1 q1 (nI 5) (nI 1000) 0] H := hP
  have hD : va_D A [(h, .inr (2, [.ref t0, .ref t1, .ref t2, .ref t3, .ref t4])), tT t2 q2 (nI 5) (nI 112) r2, tT t3 q3 (nI 1) (nI 16) r3, tT t4 q4 (nI 2) (nI 8) r4, tA g q3 16 f, tT t0 q0 (nI 12) (nI 80) 0, tT t1 q1 (nI 5) (nI 1000) 0] := hD
  refine lv_aload_n hx hb dX2_reset_14 rfl (lv_at hl 0 rfl) ?_
  refine va_get (D := D) (ci := 2) (v := .ref t2) (C := RX2) (T := TX2) (N := 5) hx hb hts inlX2 hown hK hP 0 rfl rfl 2 (by decide) (hts _ q88) (fun _ h => h) rfl dX2_reset_15 ?_
  refine vz_Vv (wr := [(h, .inr (2, [.ref t0, .ref t1, .ref t2, .ref t3, .ref t4])), tT t3 q3 (nI 1) (nI 16) r3, tT t4 q4 (nI 2) (nI 8) r4, tA g q3 16 f, tT t0 q0 (nI 12) (nI 80) 0, tT t1 q1 (nI 5) (nI 1000) 0]) (As := []) (rest := []) hx hb hml hown hts hK hA hP hD hS (c_T_reset l D g t2 q2 H.size (nI 5) (nI 112) r2) kv_X2_32 (⟨Nat.le_of_ble_eq_true rfl, Nat.le_of_ble_eq_true rfl⟩) (q0 := 1) (ci := 6) rfl rfl rfl [1] [0, 2, 3, 4, 5, 6] rfl rfl (by decide) hl.1 (Nat.le_of_ble_eq_true rfl) dX2_reset_18 (⟨Nat.le_of_ble_eq_true rfl, Nat.le_of_ble_eq_true rfl⟩) rfl (fun _ H locs _ _ hP hD hS => ?_)
  have hP : va_P D vwCl [(h, .inr (2, [.ref t0, .ref t1, .ref t2, .ref t3, .ref t4])), tT t3 q3 (nI 1) (nI 16) r3, tT t4 q4 (nI 2) (nI 8) r4, tA g q3 16 f, tT t0 q0 (nI 12) (nI 80) 0, tT t1 q1 (nI 5) (nI 1000) 0, tT t2 q2 (nI 5) (nI 112) 0] H := hP
  have hD : va_D A [(h, .inr (2, [.ref t0, .ref t1, .ref t2, .ref t3, .ref t4])), tT t3 q3 (nI 1) (nI 16) r3, tT t4 q4 (nI 2) (nI 8) r4, tA g q3 16 f, tT t0 q0 (nI 12) (nI 80) 0, tT t1 q1 (nI 5) (nI 1000) 0, tT t2 q2 (nI 5) (nI 112) 0] := hD
  refine lv_aload_n hx hb dX2_reset_21 rfl (lv_at hl 0 rfl) ?_
  refine va_get (D := D) (ci := 2) (v := .ref t4) (C := RX2) (T := TX2) (N := 5) hx hb hts inlX2 hown hK hP 0 rfl rfl 4 (by decide) (hts _ q90) (fun _ h => h) rfl dX2_reset_22 ?_
  refine vz_Vv (wr := [(h, .inr (2, [.ref t0, .ref t1, .ref t2, .ref t3, .ref t4])), tT t3 q3 (nI 1) (nI 16) r3, tA g q3 16 f, tT t0 q0 (nI 12) (nI 80) 0, tT t1 q1 (nI 5) (nI 1000) 0, tT t2 q2 (nI 5) (nI 112) 0]) (As := []) (rest := []) hx hb hml hown hts hK hA hP hD hS (c_T_reset l D g t4 q4 H.size (nI 2) (nI 8) r4) kv_X2_32 (⟨Nat.le_of_ble_eq_true rfl, Nat.le_of_ble_eq_true rfl⟩) (q0 := 2) (ci := 6) rfl rfl rfl [2] [0, 1, 3, 4, 5, 6] rfl rfl (by decide) hl.1 (Nat.le_of_ble_eq_true rfl) dX2_reset_25 (⟨Nat.le_of_ble_eq_true rfl, Nat.le_of_ble_eq_true rfl⟩) rfl (fun _ H locs _ _ hP hD hS => ?_)
  have hP : va_P D vwCl [(h, .inr (2, [.ref t0, .ref t1, .ref t2, .ref t3, .ref t4])), tT t3 q3 (nI 1) (nI 16) r3, tA g q3 16 f, tT t0 q0 (nI 12) (nI 80) 0, tT t1 q1 (nI 5) (nI 1000) 0, tT t2 q2 (nI 5) (nI 112) 0, tT t4 q4 (nI 2) (nI 8) 0] H := hP
  have hD : va_D A [(h, .inr (2, [.ref t0, .ref t1, .ref t2, .ref t3, .ref t4])), tT t3 q3 (nI 1) (nI 16) r3, tA g q3 16 f, tT t0 q0 (nI 12) (nI 80) 0, tT t1 q1 (nI 5) (nI 1000) 0, tT t2 q2 (nI 5) (nI 112) 0, tT t4 q4 (nI 2) (nI 8) 0] := hD
  refine lv_aload_n hx hb dX2_reset_28 rfl (lv_at hl 0 rfl) ?_
  refine va_get (D := D) (ci := 2) (v := .ref t3) (C := RX2) (T := TX2) (N := 5) hx hb hts inlX2 hown hK hP 0 rfl rfl 3 (by decide) (hts _ q89) (fun _ h => h) rfl dX2_reset_29 ?_
  refine vz_Vv (wr := [(h, .inr (2, [.ref t0, .ref t1, .ref t2, .ref t3, .ref t4])), tA g q3 16 f, tT t0 q0 (nI 12) (nI 80) 0, tT t1 q1 (nI 5) (nI 1000) 0, tT t2 q2 (nI 5) (nI 112) 0, tT t4 q4 (nI 2) (nI 8) 0]) (As := []) (rest := []) hx hb hml hown hts hK hA hP hD hS (c_T_reset l D g t3 q3 H.size (nI 1) (nI 16) r3) kv_X2_32 (⟨Nat.le_of_ble_eq_true rfl, Nat.le_of_ble_eq_true rfl⟩) (q0 := 1) (ci := 6) rfl rfl rfl [1] [0, 2, 3, 4, 5, 6] rfl rfl (by decide) hl.1 (Nat.le_of_ble_eq_true rfl) dX2_reset_32 (⟨Nat.le_of_ble_eq_true rfl, Nat.le_of_ble_eq_true rfl⟩) rfl (fun _ H locs _ _ hP hD hS => ?_)
  have hP : va_P D vwCl [(h, .inr (2, [.ref t0, .ref t1, .ref t2, .ref t3, .ref t4])), tA g q3 16 f, tT t0 q0 (nI 12) (nI 80) 0, tT t1 q1 (nI 5) (nI 1000) 0, tT t2 q2 (nI 5) (nI 112) 0, tT t4 q4 (nI 2) (nI 8) 0, tT t3 q3 (nI 1) (nI 16) 0] H := hP
  have hD : va_D A [(h, .inr (2, [.ref t0, .ref t1, .ref t2, .ref t3, .ref t4])), tA g q3 16 f, tT t0 q0 (nI 12) (nI 80) 0, tT t1 q1 (nI 5) (nI 1000) 0, tT t2 q2 (nI 5) (nI 112) 0, tT t4 q4 (nI 2) (nI 8) 0, tT t3 q3 (nI 1) (nI 16) 0] := hD
  refine lv_iconst (v := 0) hx hb dX2_reset_35 (by decide) ?_
  refine lv_istore_n (lv' := [(1, .int 0), (0, .ref h)]) hx hb dX2_reset_36 rfl hl (by decide) rfl (fun ls hl => ?_)
  have hP : va_P D vwCl [(h, .inr (2, [.ref t0, .ref t1, .ref t2, .ref t3, .ref t4])), tT t0 q0 (nI 12) (nI 80) 0, tT t1 q1 (nI 5) (nI 1000) 0, tT t2 q2 (nI 5) (nI 112) 0, tT t4 q4 (nI 2) (nI 8) 0, tT t3 q3 (nI 1) (nI 16) 0, tA g q3 16 f] H := vz_pickP hP [0, 2, 3, 4, 5, 6, 1] rfl
  have hD : va_D A [(h, .inr (2, [.ref t0, .ref t1, .ref t2, .ref t3, .ref t4])), tT t0 q0 (nI 12) (nI 80) 0, tT t1 q1 (nI 5) (nI 1000) 0, tT t2 q2 (nI 5) (nI 112) 0, tT t4 q4 (nI 2) (nI 8) 0, tT t3 q3 (nI 1) (nI 16) 0, tA g q3 16 f] := hD.sub [0, 2, 3, 4, 5, 6, 1] (by decide) rfl
  refine lp_P_reset hx hb hml hown hts hK hA (Nat.le_of_ble_eq_true rfl) (Nat.le_of_ble_eq_true rfl) (Nat.le_of_ble_eq_true rfl) (Nat.le_of_ble_eq_true rfl) ?_ 8 0 (by omega) (by omega) f H locs ls hP hD hS (lv_sub hl [1, 0] rfl)
  intro f1 H locs ls hP hD hS hl
  exact vz_vret hx hb hr hlk hK hP hD hS (f1) (trivial) [0, 1, 2, 3, 5, 4, 6] rfl (by decide) (Nat.le_refl 0) (Nat.le_refl 0) dX2_reset_85
theorem q445 : Cond.fieldLink RX3 74 "WaysAtlas$Reader" "fault" "I" ∈ wsL_law := mT_1 (List.mem_of_getElem? (i := 134) rfl) rfl
theorem q443 : Cond.fieldLink RX3 41 "WaysAtlas$Reader" "token" "I" ∈ wsL_law := mT_1 (List.mem_of_getElem? (i := 130) rfl) rfl
theorem q465 : Cond.fieldLink RX3 98 "WaysAtlas$Reader" "place" "I" ∈ wsL_law := mT_1 (List.mem_of_getElem? (i := 132) rfl) rfl
theorem q446 : Cond.fieldLink RX3 77 "WaysAtlas$Reader" "faultPlace" "I" ∈ wsL_law := mT_1 (List.mem_of_getElem? (i := 136) rfl) rfl
theorem dX3_fail_0 : decode cX3_fail 0 = .ok (.aload_n 0, 1) := by decide +kernel
theorem dX3_fail_1 : decode cX3_fail 1 = .ok (.getfield 74, 3) := by decide +kernel
theorem dX3_fail_4 : decode cX3_fail 4 = .ok (.ifCond .ne 16, 3) := by decide +kernel
theorem dX3_fail_7 : decode cX3_fail 7 = .ok (.aload_n 0, 1) := by decide +kernel
theorem dX3_fail_8 : decode cX3_fail 8 = .ok (.iload_n 1, 1) := by decide +kernel
theorem dX3_fail_9 : decode cX3_fail 9 = .ok (.putfield 74, 3) := by decide +kernel
theorem dX3_fail_12 : decode cX3_fail 12 = .ok (.aload_n 0, 1) := by decide +kernel
theorem dX3_fail_13 : decode cX3_fail 13 = .ok (.aload_n 0, 1) := by decide +kernel
theorem dX3_fail_14 : decode cX3_fail 14 = .ok (.getfield 98, 3) := by decide +kernel
theorem dX3_fail_17 : decode cX3_fail 17 = .ok (.putfield 77, 3) := by decide +kernel
theorem dX3_fail_20 : decode cX3_fail 20 = .ok (.aload_n 0, 1) := by decide +kernel
theorem dX3_fail_21 : decode cX3_fail 21 = .ok (.iconst 1, 1) := by decide +kernel
theorem dX3_fail_22 : decode cX3_fail 22 = .ok (.putfield 41, 3) := by decide +kernel
theorem dX3_fail_25 : decode cX3_fail 25 = .ok (.return_, 1) := by decide +kernel
set_option maxHeartbeats 4000000 in
set_option maxRecDepth 100000 in
theorem c_R_fail (l : Launch) (D : va_G) (g : Nat → ClassId) (h tk lo ca cp pg sz : Nat) (a_t to va pl le fa fp : Int32) (n : Int32)  : vz_Mv l D (tyG g) yX3_fail cX3_fail 2 0 0 0 0 [.ref h, .int n] sz [(h, .inr (3, [.ref tk, .ref lo, .ref ca, .ref cp, .ref pg, .int a_t, .int to, .int va, .int pl, .int le, .int fa, .int fp]))] (fun u : Int32 × Int32 => (fa = 0 ∧ u = (n, pl)) ∨ (¬ fa = 0 ∧ u = (fa, fp))) (fun u => [(h, .inr (3, [.ref tk, .ref lo, .ref ca, .ref cp, .ref pg, .int a_t, .int 1, .int va, .int pl, .int le, .int u.1, .int u.2]))]) := by
  refine vz_sv (by decide) (Nat.le_of_ble_eq_true rfl) (fun p e s m args below meth c hx hb hr hml hts hown hlk hin hK hsz A hA H locs hP hD hS ls hl => ?_)
  have hl : lv_has ls 2 [(0, .ref h), (1, .int n)] := hl
  refine lv_aload_n hx hb dX3_fail_0 rfl (lv_at hl 0 rfl) ?_
  refine va_get (D := D) (ci := 3) (v := .int fa) (C := RX3) (T := TX3) (N := 12) hx hb hts inlX3 hown hK hP 0 rfl rfl 10 (by decide) (hts _ q445) (fun _ h => h) rfl dX3_fail_1 ?_
  refine lv_if_ne (tgt := 20) hx hb dX3_fail_4 (by decide) (fun kc => ?_) (fun kc => ?_)
  · refine lv_aload_n hx hb dX3_fail_20 rfl (lv_at hl 0 rfl) ?_
    refine lv_iconst (v := 1) hx hb dX3_fail_21 (by decide) ?_
    refine va_put (D := D) (ci := 3) (v := .int 1) (ty := .int) (C := RX3) (T := TX3) (N := 12) hx hb hts inlX3 tyX3 tyX3_ok nmX3 hown hK hP hD hS 0 rfl rfl 6 (by decide) (hts _ q443) (fun _ h => h) rfl (by decide +kernel) rfl rfl (Nat.le_of_ble_eq_true rfl) dX3_fail_22 (fun H locs hP hD hS => ?_)
    have hP : va_P D vwCl [(h, .inr (3, [.ref tk, .ref lo, .ref ca, .ref cp, .ref pg, .int a_t, .int 1, .int va, .int pl, .int le, .int fa, .int fp]))] H := hP
    have hD : va_D A [(h, .inr (3, [.ref tk, .ref lo, .ref ca, .ref cp, .ref pg, .int a_t, .int 1, .int va, .int pl, .int le, .int fa, .int fp]))] := hD
    exact vz_vret hx hb hr hlk hK hP hD hS ((fa, fp)) (Or.inr ⟨kc, rfl⟩) [0] rfl (by decide) (Nat.le_refl 0) (Nat.le_refl 0) dX3_fail_25
  · refine lv_aload_n hx hb dX3_fail_7 rfl (lv_at hl 0 rfl) ?_
    refine lv_iload_n hx hb dX3_fail_8 rfl (lv_at hl 1 rfl) ?_
    refine va_put (D := D) (ci := 3) (v := .int n) (ty := .int) (C := RX3) (T := TX3) (N := 12) hx hb hts inlX3 tyX3 tyX3_ok nmX3 hown hK hP hD hS 0 rfl rfl 10 (by decide) (hts _ q445) (fun _ h => h) rfl (by decide +kernel) rfl rfl (Nat.le_of_ble_eq_true rfl) dX3_fail_9 (fun H locs hP hD hS => ?_)
    have hP : va_P D vwCl [(h, .inr (3, [.ref tk, .ref lo, .ref ca, .ref cp, .ref pg, .int a_t, .int to, .int va, .int pl, .int le, .int n, .int fp]))] H := hP
    have hD : va_D A [(h, .inr (3, [.ref tk, .ref lo, .ref ca, .ref cp, .ref pg, .int a_t, .int to, .int va, .int pl, .int le, .int n, .int fp]))] := hD
    refine lv_aload_n hx hb dX3_fail_12 rfl (lv_at hl 0 rfl) ?_
    refine lv_aload_n hx hb dX3_fail_13 rfl (lv_at hl 0 rfl) ?_
    refine va_get (D := D) (ci := 3) (v := .int pl) (C := RX3) (T := TX3) (N := 12) hx hb hts inlX3 hown hK hP 0 rfl rfl 8 (by decide) (hts _ q465) (fun _ h => h) rfl dX3_fail_14 ?_
    refine va_put (D := D) (ci := 3) (v := .int pl) (ty := .int) (C := RX3) (T := TX3) (N := 12) hx hb hts inlX3 tyX3 tyX3_ok nmX3 hown hK hP hD hS 0 rfl rfl 11 (by decide) (hts _ q446) (fun _ h => h) rfl (by decide +kernel) rfl rfl (Nat.le_of_ble_eq_true rfl) dX3_fail_17 (fun H locs hP hD hS => ?_)
    have hP : va_P D vwCl [(h, .inr (3, [.ref tk, .ref lo, .ref ca, .ref cp, .ref pg, .int a_t, .int to, .int va, .int pl, .int le, .int n, .int pl]))] H := hP
    have hD : va_D A [(h, .inr (3, [.ref tk, .ref lo, .ref ca, .ref cp, .ref pg, .int a_t, .int to, .int va, .int pl, .int le, .int n, .int pl]))] := hD
    refine lv_aload_n hx hb dX3_fail_20 rfl (lv_at hl 0 rfl) ?_
    refine lv_iconst (v := 1) hx hb dX3_fail_21 (by decide) ?_
    refine va_put (D := D) (ci := 3) (v := .int 1) (ty := .int) (C := RX3) (T := TX3) (N := 12) hx hb hts inlX3 tyX3 tyX3_ok nmX3 hown hK hP hD hS 0 rfl rfl 6 (by decide) (hts _ q443) (fun _ h => h) rfl (by decide +kernel) rfl rfl (Nat.le_of_ble_eq_true rfl) dX3_fail_22 (fun H locs hP hD hS => ?_)
    have hP : va_P D vwCl [(h, .inr (3, [.ref tk, .ref lo, .ref ca, .ref cp, .ref pg, .int a_t, .int 1, .int va, .int pl, .int le, .int n, .int pl]))] H := hP
    have hD : va_D A [(h, .inr (3, [.ref tk, .ref lo, .ref ca, .ref cp, .ref pg, .int a_t, .int 1, .int va, .int pl, .int le, .int n, .int pl]))] := hD
    exact vz_vret hx hb hr hlk hK hP hD hS ((n, pl)) (Or.inl ⟨kc, rfl⟩) [0] rfl (by decide) (Nat.le_refl 0) (Nat.le_refl 0) dX3_fail_25
theorem q473 : Cond.methodLink RX3 68 yX3_fail ∈ wsL_law := mT_3 (List.mem_of_getElem? (i := 146) rfl) rfl
theorem q474 : Cond.instanceMethod yX3_fail ∈ wsL_law := mT_3 (List.mem_of_getElem? (i := 148) rfl) rfl
theorem q475 : Cond.selects RX3 yX3_fail yX3_fail ∈ wsL_law := mS_1 (q := (yX3_fail, 12)) (List.mem_of_getElem? (i := 7) rfl) rfl
theorem q28 : Cond.initialized RX3 ∈ wsL_law := mT_1 (List.mem_of_getElem? (i := 6) rfl) rfl
theorem q476 : Cond.code yX3_fail cX3_fail 2 none ∈ wsL_law := mT_3 (List.mem_of_getElem? (i := 149) rfl) rfl
theorem kv_X3_68 : vz_cv RX3 68 yX3_fail cX3_fail 2 none 1 := ⟨q473, q474, q475, q28, q476, by decide +kernel⟩
theorem dX3_expect_0 : decode cX3_expect 0 = .ok (.aload_n 0, 1) := by decide +kernel
theorem dX3_expect_1 : decode cX3_expect 1 = .ok (.getfield 41, 3) := by decide +kernel
theorem dX3_expect_4 : decode cX3_expect 4 = .ok (.iload_n 1, 1) := by decide +kernel
theorem dX3_expect_5 : decode cX3_expect 5 = .ok (.if_icmp .ne 10, 3) := by decide +kernel
theorem dX3_expect_15 : decode cX3_expect 15 = .ok (.aload_n 0, 1) := by decide +kernel
theorem dX3_expect_16 : decode cX3_expect 16 = .ok (.iconst 1, 1) := by decide +kernel
theorem dX3_expect_17 : decode cX3_expect 17 = .ok (.invokevirtual 68, 3) := by decide +kernel
theorem dX3_expect_20 : decode cX3_expect 20 = .ok (.return_, 1) := by decide +kernel
set_option maxHeartbeats 4000000 in
set_option maxRecDepth 100000 in
theorem c_R_expect0 (l : Launch) (D : va_G) (g : Nat → ClassId) (h tk lo ca cp pg sz : Nat) (a_t to va le fp n : Int32) (hne : ¬ to = n) : vz_Mv l D (tyG g) yX3_expect cX3_expect 2 1 21 0 0 [.ref h, .int n] sz [(h, .inr (3, [.ref tk, .ref lo, .ref ca, .ref cp, .ref pg, .int a_t, .int to, .int va, .int 0, .int le, .int 0, .int fp]))] (fun u : Unit => True) (fun u => [(h, .inr (3, [.ref tk, .ref lo, .ref ca, .ref cp, .ref pg, .int a_t, .int 1, .int va, .int 0, .int le, .int 1, .int 0]))]) := by
  refine vz_sv (by decide) (Nat.le_of_ble_eq_true rfl) (fun p e s m args below meth c hx hb hr hml hts hown hlk hin hK hsz A hA H locs hP hD hS ls hl => ?_)
  have hl : lv_has ls 2 [(0, .ref h), (1, .int n)] := hl
  refine lv_aload_n hx hb dX3_expect_0 rfl (lv_at hl 0 rfl) ?_
  refine va_get (D := D) (ci := 3) (v := .int to) (C := RX3) (T := TX3) (N := 12) hx hb hts inlX3 hown hK hP 0 rfl rfl 6 (by decide) (hts _ q443) (fun _ h => h) rfl dX3_expect_1 ?_
  refine lv_iload_n hx hb dX3_expect_4 rfl (lv_at hl 1 rfl) ?_
  refine lv_icmp_ne (tgt := 15) hx hb dX3_expect_5 (by decide) (fun _ => ?_) (fun h9 => absurd h9 (hne))
  refine lv_aload_n hx hb dX3_expect_15 rfl (lv_at hl 0 rfl) ?_
  refine lv_iconst (v := 1) hx hb dX3_expect_16 (by decide) ?_
  refine vz_Vv (wr := []) (As := [.int 1]) (rest := []) hx hb hml hown hts hK hA hP hD hS (c_R_fail l D g h tk lo ca cp pg H.size a_t to va 0 le 0 fp 1) kv_X3_68 (⟨Nat.le_of_ble_eq_true rfl, Nat.le_of_ble_eq_true rfl⟩) (q0 := 0) (ci := 3) rfl rfl rfl [0] [] rfl rfl (by decide) hl.1 (Nat.le_of_ble_eq_true rfl) dX3_expect_17 (⟨Nat.le_of_ble_eq_true rfl, Nat.le_of_ble_eq_true rfl⟩) rfl (fun u1 H locs e2 _ hP hD hS => ?_)
  obtain ⟨-, e21⟩ | ⟨h9, -⟩ := e2
  case inr => exact absurd rfl h9
  subst e21
  have hP : va_P D vwCl [(h, .inr (3, [.ref tk, .ref lo, .ref ca, .ref cp, .ref pg, .int a_t, .int 1, .int va, .int 0, .int le, .int 1, .int 0]))] H := hP
  have hD : va_D A [(h, .inr (3, [.ref tk, .ref lo, .ref ca, .ref cp, .ref pg, .int a_t, .int 1, .int va, .int 0, .int le, .int 1, .int 0]))] := hD
  exact vz_vret hx hb hr hlk hK hP hD hS (()) (trivial) [0] rfl (by decide) (Nat.le_refl 0) (Nat.le_refl 0) dX3_expect_20
set_option maxHeartbeats 4000000 in
set_option maxRecDepth 100000 in
theorem c_R_expect1 (l : Launch) (D : va_G) (g : Nat → ClassId) (h tk lo ca cp pg sz : Nat) (a_t to va le fp n : Int32) (hne : ¬ to = n) : vz_Mv l D (tyG g) yX3_expect cX3_expect 2 1 21 0 0 [.ref h, .int n] sz [(h, .inr (3, [.ref tk, .ref lo, .ref ca, .ref cp, .ref pg, .int a_t, .int to, .int va, .int 0, .int le, .int 1, .int 0]))] (fun u : Unit => True) (fun u => [(h, .inr (3, [.ref tk, .ref lo, .ref ca, .ref cp, .ref pg, .int a_t, .int 1, .int va, .int 0, .int le, .int 1, .int 0]))]) := by
  refine vz_sv (by decide) (Nat.le_of_ble_eq_true rfl) (fun p e s m args below meth c hx hb hr hml hts hown hlk hin hK hsz A hA H locs hP hD hS ls hl => ?_)
  have hl : lv_has ls 2 [(0, .ref h), (1, .int n)] := hl
  refine lv_aload_n hx hb dX3_expect_0 rfl (lv_at hl 0 rfl) ?_
  refine va_get (D := D) (ci := 3) (v := .int to) (C := RX3) (T := TX3) (N := 12) hx hb hts inlX3 hown hK hP 0 rfl rfl 6 (by decide) (hts _ q443) (fun _ h => h) rfl dX3_expect_1 ?_
  refine lv_iload_n hx hb dX3_expect_4 rfl (lv_at hl 1 rfl) ?_
  refine lv_icmp_ne (tgt := 15) hx hb dX3_expect_5 (by decide) (fun _ => ?_) (fun h9 => absurd h9 (hne))
  refine lv_aload_n hx hb dX3_expect_15 rfl (lv_at hl 0 rfl) ?_
  refine lv_iconst (v := 1) hx hb dX3_expect_16 (by decide) ?_
  refine vz_Vv (wr := []) (As := [.int 1]) (rest := []) hx hb hml hown hts hK hA hP hD hS (c_R_fail l D g h tk lo ca cp pg H.size a_t to va 0 le 1 0 1) kv_X3_68 (⟨Nat.le_of_ble_eq_true rfl, Nat.le_of_ble_eq_true rfl⟩) (q0 := 0) (ci := 3) rfl rfl rfl [0] [] rfl rfl (by decide) hl.1 (Nat.le_of_ble_eq_true rfl) dX3_expect_17 (⟨Nat.le_of_ble_eq_true rfl, Nat.le_of_ble_eq_true rfl⟩) rfl (fun u1 H locs e2 _ hP hD hS => ?_)
  obtain ⟨h9, -⟩ | ⟨-, e21⟩ := e2
  case inl => exact absurd h9 (by decide)
  subst e21
  have hP : va_P D vwCl [(h, .inr (3, [.ref tk, .ref lo, .ref ca, .ref cp, .ref pg, .int a_t, .int 1, .int va, .int 0, .int le, .int 1, .int 0]))] H := hP
  have hD : va_D A [(h, .inr (3, [.ref tk, .ref lo, .ref ca, .ref cp, .ref pg, .int a_t, .int 1, .int va, .int 0, .int le, .int 1, .int 0]))] := hD
  exact vz_vret hx hb hr hlk hK hP hD hS (()) (trivial) [0] rfl (by decide) (Nat.le_refl 0) (Nat.le_refl 0) dX3_expect_20
theorem q451 : Cond.fieldLink RX3 86 "WaysAtlas$Reader" "at" "I" ∈ wsL_law := mT_1 (List.mem_of_getElem? (i := 129) rfl) rfl
theorem q466 : Cond.methodLink RX3 92 yX6_get ∈ wsL_law := mT_3 (List.mem_of_getElem? (i := 141) rfl) rfl
theorem q294 : Cond.instanceMethod yX6_get ∈ wsL_law := mT_2 (List.mem_of_getElem? (i := 215) rfl) rfl
theorem q295 : Cond.selects RX6 yX6_get yX6_get ∈ wsL_law := mT_2 (List.mem_of_getElem? (i := 216) rfl) rfl
theorem q296 : Cond.code yX6_get cX6_get 4 (some .int) ∈ wsL_law := mT_2 (List.mem_of_getElem? (i := 217) rfl) rfl
theorem kv_X3_92 : vz_cv RX3 92 yX6_get cX6_get 4 (some .int) 2 := ⟨q466, q294, q295, q15, q296, by decide +kernel⟩
theorem q464 : Cond.fieldLink RX3 95 "WaysAtlas$Reader" "value" "I" ∈ wsL_law := mT_1 (List.mem_of_getElem? (i := 131) rfl) rfl
theorem dX3_advance_0 : decode cX3_advance 0 = .ok (.aload_n 0, 1) := by decide +kernel
theorem dX3_advance_1 : decode cX3_advance 1 = .ok (.getfield 74, 3) := by decide +kernel
theorem dX3_advance_4 : decode cX3_advance 4 = .ok (.ifCond .eq 9, 3) := by decide +kernel
theorem dX3_advance_13 : decode cX3_advance 13 = .ok (.aload_n 0, 1) := by decide +kernel
theorem dX3_advance_14 : decode cX3_advance 14 = .ok (.dup, 1) := by decide +kernel
theorem dX3_advance_15 : decode cX3_advance 15 = .ok (.getfield 86, 3) := by decide +kernel
theorem dX3_advance_18 : decode cX3_advance 18 = .ok (.iconst 1, 1) := by decide +kernel
theorem dX3_advance_19 : decode cX3_advance 19 = .ok (.iadd, 1) := by decide +kernel
theorem dX3_advance_20 : decode cX3_advance 20 = .ok (.putfield 86, 3) := by decide +kernel
theorem dX3_advance_23 : decode cX3_advance 23 = .ok (.aload_n 0, 1) := by decide +kernel
theorem dX3_advance_24 : decode cX3_advance 24 = .ok (.aload_n 0, 1) := by decide +kernel
theorem dX3_advance_25 : decode cX3_advance 25 = .ok (.getfield 9, 3) := by decide +kernel
theorem dX3_advance_28 : decode cX3_advance 28 = .ok (.aload_n 0, 1) := by decide +kernel
theorem dX3_advance_29 : decode cX3_advance 29 = .ok (.getfield 86, 3) := by decide +kernel
theorem dX3_advance_32 : decode cX3_advance 32 = .ok (.iconst 0, 1) := by decide +kernel
theorem dX3_advance_33 : decode cX3_advance 33 = .ok (.invokevirtual 92, 3) := by decide +kernel
theorem dX3_advance_36 : decode cX3_advance 36 = .ok (.putfield 41, 3) := by decide +kernel
theorem dX3_advance_39 : decode cX3_advance 39 = .ok (.aload_n 0, 1) := by decide +kernel
theorem dX3_advance_40 : decode cX3_advance 40 = .ok (.aload_n 0, 1) := by decide +kernel
theorem dX3_advance_41 : decode cX3_advance 41 = .ok (.getfield 9, 3) := by decide +kernel
theorem dX3_advance_44 : decode cX3_advance 44 = .ok (.aload_n 0, 1) := by decide +kernel
theorem dX3_advance_45 : decode cX3_advance 45 = .ok (.getfield 86, 3) := by decide +kernel
theorem dX3_advance_48 : decode cX3_advance 48 = .ok (.iconst 1, 1) := by decide +kernel
theorem dX3_advance_49 : decode cX3_advance 49 = .ok (.invokevirtual 92, 3) := by decide +kernel
theorem dX3_advance_52 : decode cX3_advance 52 = .ok (.putfield 95, 3) := by decide +kernel
theorem dX3_advance_55 : decode cX3_advance 55 = .ok (.aload_n 0, 1) := by decide +kernel
theorem dX3_advance_56 : decode cX3_advance 56 = .ok (.aload_n 0, 1) := by decide +kernel
theorem dX3_advance_57 : decode cX3_advance 57 = .ok (.getfield 9, 3) := by decide +kernel
theorem dX3_advance_60 : decode cX3_advance 60 = .ok (.aload_n 0, 1) := by decide +kernel
theorem dX3_advance_61 : decode cX3_advance 61 = .ok (.getfield 86, 3) := by decide +kernel
theorem dX3_advance_64 : decode cX3_advance 64 = .ok (.iconst 2, 1) := by decide +kernel
theorem dX3_advance_65 : decode cX3_advance 65 = .ok (.invokevirtual 92, 3) := by decide +kernel
theorem dX3_advance_68 : decode cX3_advance 68 = .ok (.putfield 98, 3) := by decide +kernel
theorem dX3_advance_71 : decode cX3_advance 71 = .ok (.return_, 1) := by decide +kernel
set_option maxHeartbeats 4000000 in
set_option maxRecDepth 100000 in
theorem c_R_advance0 (l : Launch) (D : va_G) (g : Nat → ClassId) (h tk lo ca cp pg q sz : Nat) (to va pl le fp : Int32) (f : Nat → Int32) (hf0 : f 0 = 0) (hf1 : f 1 = 0) (hf2 : f 2 = 0) : vz_Mv l D (tyG g) yX3_advance cX3_advance 1 1 23 0 0 [.ref h] sz [(h, .inr (3, [.ref tk, .ref lo, .ref ca, .ref cp, .ref pg, .int (-1), .int to, .int va, .int pl, .int le, .int 0, .int fp])), tT tk q (nI 3) (nI 1001) (nI 1), tA g q 3003 f] (fun u : Unit => True) (fun u => [(h, .inr (3, [.ref tk, .ref lo, .ref ca, .ref cp, .ref pg, .int 0, .int 0, .int 0, .int 0, .int le, .int 0, .int fp])), tT tk q (nI 3) (nI 1001) (nI 1), tA g q 3003 f]) := by
  refine vz_sv (by decide) (Nat.le_of_ble_eq_true rfl) (fun p e s m args below meth c hx hb hr hml hts hown hlk hin hK hsz A hA H locs hP hD hS ls hl => ?_)
  have hl : lv_has ls 1 [(0, .ref h)] := hl
  refine lv_aload_n hx hb dX3_advance_0 rfl (lv_at hl 0 rfl) ?_
  refine va_get (D := D) (ci := 3) (v := .int 0) (C := RX3) (T := TX3) (N := 12) hx hb hts inlX3 hown hK hP 0 rfl rfl 10 (by decide) (hts _ q445) (fun _ h => h) rfl dX3_advance_1 ?_
  refine lv_if_eq (tgt := 13) hx hb dX3_advance_4 (by decide) (fun _ => ?_) (fun h9 => absurd (by decide) h9)
  refine lv_aload_n hx hb dX3_advance_13 rfl (lv_at hl 0 rfl) ?_
  refine lv_dup hx hb dX3_advance_14 rfl ?_
  refine va_get (D := D) (ci := 3) (v := .int (-1)) (C := RX3) (T := TX3) (N := 12) hx hb hts inlX3 hown hK hP 0 rfl rfl 5 (by decide) (hts _ q451) (fun _ h => h) rfl dX3_advance_15 ?_
  refine lv_iconst (v := 1) hx hb dX3_advance_18 (by decide) ?_
  refine lv_iadd hx hb dX3_advance_19 ?_
  refine lv_topi (nm_r (e' := 0) (by decide) ?_)
  refine va_put (D := D) (ci := 3) (v := .int 0) (ty := .int) (C := RX3) (T := TX3) (N := 12) hx hb hts inlX3 tyX3 tyX3_ok nmX3 hown hK hP hD hS 0 rfl rfl 5 (by decide) (hts _ q451) (fun _ h => h) rfl (by decide +kernel) rfl rfl (Nat.le_of_ble_eq_true rfl) dX3_advance_20 (fun H locs hP hD hS => ?_)
  have hP : va_P D vwCl [(h, .inr (3, [.ref tk, .ref lo, .ref ca, .ref cp, .ref pg, .int 0, .int to, .int va, .int pl, .int le, .int 0, .int fp])), tT tk q (nI 3) (nI 1001) (nI 1), tA g q 3003 f] H := hP
  have hD : va_D A [(h, .inr (3, [.ref tk, .ref lo, .ref ca, .ref cp, .ref pg, .int 0, .int to, .int va, .int pl, .int le, .int 0, .int fp])), tT tk q (nI 3) (nI 1001) (nI 1), tA g q 3003 f] := hD
  refine lv_aload_n hx hb dX3_advance_23 rfl (lv_at hl 0 rfl) ?_
  refine lv_aload_n hx hb dX3_advance_24 rfl (lv_at hl 0 rfl) ?_
  refine va_get (D := D) (ci := 3) (v := .ref tk) (C := RX3) (T := TX3) (N := 12) hx hb hts inlX3 hown hK hP 0 rfl rfl 0 (by decide) (hts _ q96) (fun _ h => h) rfl dX3_advance_25 ?_
  refine lv_aload_n hx hb dX3_advance_28 rfl (lv_at hl 0 rfl) ?_
  refine va_get (D := D) (ci := 3) (v := .int 0) (C := RX3) (T := TX3) (N := 12) hx hb hts inlX3 hown hK hP 0 rfl rfl 5 (by decide) (hts _ q451) (fun _ h => h) rfl dX3_advance_29 ?_
  refine lv_iconst (v := 0) hx hb dX3_advance_32 (by decide) ?_
  refine vz_Vi (wr := [(h, .inr (3, [.ref tk, .ref lo, .ref ca, .ref cp, .ref pg, .int 0, .int to, .int va, .int pl, .int le, .int 0, .int fp]))]) (As := [.int 0, .int 0]) (rest := [.ref h]) hx hb hml hown hts hK hA hP hD hS (c_T_get l D g tk q H.size 3 1001 1 3003 f 0 0 (by decide +kernel)) kv_X3_92 (⟨Nat.le_of_ble_eq_true rfl, Nat.le_of_ble_eq_true rfl⟩) (q0 := 1) (ci := 6) rfl rfl rfl [1, 2] [0] rfl rfl (by decide) hl.1 (Nat.le_of_ble_eq_true rfl) dX3_advance_33 (⟨Nat.le_of_ble_eq_true rfl, Nat.le_of_ble_eq_true rfl⟩) rfl (fun r1 _ H locs e2 _ hP hD hS => ?_)
  replace e2 := e2.trans ((tg_c 0 (by decide) (by decide)).trans hf0)
  subst e2
  have hP : va_P D vwCl [(h, .inr (3, [.ref tk, .ref lo, .ref ca, .ref cp, .ref pg, .int 0, .int to, .int va, .int pl, .int le, .int 0, .int fp])), tT tk q (nI 3) (nI 1001) (nI 1), tA g q 3003 f] H := hP
  have hD : va_D A [(h, .inr (3, [.ref tk, .ref lo, .ref ca, .ref cp, .ref pg, .int 0, .int to, .int va, .int pl, .int le, .int 0, .int fp])), tT tk q (nI 3) (nI 1001) (nI 1), tA g q 3003 f] := hD
  refine va_put (D := D) (ci := 3) (v := .int 0) (ty := .int) (C := RX3) (T := TX3) (N := 12) hx hb hts inlX3 tyX3 tyX3_ok nmX3 hown hK hP hD hS 0 rfl rfl 6 (by decide) (hts _ q443) (fun _ h => h) rfl (by decide +kernel) rfl rfl (Nat.le_of_ble_eq_true rfl) dX3_advance_36 (fun H locs hP hD hS => ?_)
  have hP : va_P D vwCl [(h, .inr (3, [.ref tk, .ref lo, .ref ca, .ref cp, .ref pg, .int 0, .int 0, .int va, .int pl, .int le, .int 0, .int fp])), tT tk q (nI 3) (nI 1001) (nI 1), tA g q 3003 f] H := hP
  have hD : va_D A [(h, .inr (3, [.ref tk, .ref lo, .ref ca, .ref cp, .ref pg, .int 0, .int 0, .int va, .int pl, .int le, .int 0, .int fp])), tT tk q (nI 3) (nI 1001) (nI 1), tA g q 3003 f] := hD
  refine lv_aload_n hx hb dX3_advance_39 rfl (lv_at hl 0 rfl) ?_
  refine lv_aload_n hx hb dX3_advance_40 rfl (lv_at hl 0 rfl) ?_
  refine va_get (D := D) (ci := 3) (v := .ref tk) (C := RX3) (T := TX3) (N := 12) hx hb hts inlX3 hown hK hP 0 rfl rfl 0 (by decide) (hts _ q96) (fun _ h => h) rfl dX3_advance_41 ?_
  refine lv_aload_n hx hb dX3_advance_44 rfl (lv_at hl 0 rfl) ?_
  refine va_get (D := D) (ci := 3) (v := .int 0) (C := RX3) (T := TX3) (N := 12) hx hb hts inlX3 hown hK hP 0 rfl rfl 5 (by decide) (hts _ q451) (fun _ h => h) rfl dX3_advance_45 ?_
  refine lv_iconst (v := 1) hx hb dX3_advance_48 (by decide) ?_
  refine vz_Vi (wr := [(h, .inr (3, [.ref tk, .ref lo, .ref ca, .ref cp, .ref pg, .int 0, .int 0, .int va, .int pl, .int le, .int 0, .int fp]))]) (As := [.int 0, .int 1]) (rest := [.ref h]) hx hb hml hown hts hK hA hP hD hS (c_T_get l D g tk q H.size 3 1001 1 3003 f 0 1 (by decide +kernel)) kv_X3_92 (⟨Nat.le_of_ble_eq_true rfl, Nat.le_of_ble_eq_true rfl⟩) (q0 := 1) (ci := 6) rfl rfl rfl [1, 2] [0] rfl rfl (by decide) hl.1 (Nat.le_of_ble_eq_true rfl) dX3_advance_49 (⟨Nat.le_of_ble_eq_true rfl, Nat.le_of_ble_eq_true rfl⟩) rfl (fun r3 _ H locs e4 _ hP hD hS => ?_)
  replace e4 := e4.trans ((tg_c 1 (by decide) (by decide)).trans hf1)
  subst e4
  have hP : va_P D vwCl [(h, .inr (3, [.ref tk, .ref lo, .ref ca, .ref cp, .ref pg, .int 0, .int 0, .int va, .int pl, .int le, .int 0, .int fp])), tT tk q (nI 3) (nI 1001) (nI 1), tA g q 3003 f] H := hP
  have hD : va_D A [(h, .inr (3, [.ref tk, .ref lo, .ref ca, .ref cp, .ref pg, .int 0, .int 0, .int va, .int pl, .int le, .int 0, .int fp])), tT tk q (nI 3) (nI 1001) (nI 1), tA g q 3003 f] := hD
  refine va_put (D := D) (ci := 3) (v := .int 0) (ty := .int) (C := RX3) (T := TX3) (N := 12) hx hb hts inlX3 tyX3 tyX3_ok nmX3 hown hK hP hD hS 0 rfl rfl 7 (by decide) (hts _ q464) (fun _ h => h) rfl (by decide +kernel) rfl rfl (Nat.le_of_ble_eq_true rfl) dX3_advance_52 (fun H locs hP hD hS => ?_)
  have hP : va_P D vwCl [(h, .inr (3, [.ref tk, .ref lo, .ref ca, .ref cp, .ref pg, .int 0, .int 0, .int 0, .int pl, .int le, .int 0, .int fp])), tT tk q (nI 3) (nI 1001) (nI 1), tA g q 3003 f] H := hP
  have hD : va_D A [(h, .inr (3, [.ref tk, .ref lo, .ref ca, .ref cp, .ref pg, .int 0, .int 0, .int 0, .int pl, .int le, .int 0, .int fp])), tT tk q (nI 3) (nI 1001) (nI 1), tA g q 3003 f] := hD
  refine lv_aload_n hx hb dX3_advance_55 rfl (lv_at hl 0 rfl) ?_
  refine lv_aload_n hx hb dX3_advance_56 rfl (lv_at hl 0 rfl) ?_
  refine va_get (D := D) (ci := 3) (v := .ref tk) (C := RX3) (T := TX3) (N := 12) hx hb hts inlX3 hown hK hP 0 rfl rfl 0 (by decide) (hts _ q96) (fun _ h => h) rfl dX3_advance_57 ?_
  refine lv_aload_n hx hb dX3_advance_60 rfl (lv_at hl 0 rfl) ?_
  refine va_get (D := D) (ci := 3) (v := .int 0) (C := RX3) (T := TX3) (N := 12) hx hb hts inlX3 hown hK hP 0 rfl rfl 5 (by decide) (hts _ q451) (fun _ h => h) rfl dX3_advance_61 ?_
  refine lv_iconst (v := 2) hx hb dX3_advance_64 (by decide) ?_
  refine vz_Vi (wr := [(h, .inr (3, [.ref tk, .ref lo, .ref ca, .ref cp, .ref pg, .int 0, .int 0, .int 0, .int pl, .int le, .int 0, .int fp]))]) (As := [.int 0, .int 2]) (rest := [.ref h]) hx hb hml hown hts hK hA hP hD hS (c_T_get l D g tk q H.size 3 1001 1 3003 f 0 2 (by decide +kernel)) kv_X3_92 (⟨Nat.le_of_ble_eq_true rfl, Nat.le_of_ble_eq_true rfl⟩) (q0 := 1) (ci := 6) rfl rfl rfl [1, 2] [0] rfl rfl (by decide) hl.1 (Nat.le_of_ble_eq_true rfl) dX3_advance_65 (⟨Nat.le_of_ble_eq_true rfl, Nat.le_of_ble_eq_true rfl⟩) rfl (fun r5 _ H locs e6 _ hP hD hS => ?_)
  replace e6 := e6.trans ((tg_c 2 (by decide) (by decide)).trans hf2)
  subst e6
  have hP : va_P D vwCl [(h, .inr (3, [.ref tk, .ref lo, .ref ca, .ref cp, .ref pg, .int 0, .int 0, .int 0, .int pl, .int le, .int 0, .int fp])), tT tk q (nI 3) (nI 1001) (nI 1), tA g q 3003 f] H := hP
  have hD : va_D A [(h, .inr (3, [.ref tk, .ref lo, .ref ca, .ref cp, .ref pg, .int 0, .int 0, .int 0, .int pl, .int le, .int 0, .int fp])), tT tk q (nI 3) (nI 1001) (nI 1), tA g q 3003 f] := hD
  refine va_put (D := D) (ci := 3) (v := .int 0) (ty := .int) (C := RX3) (T := TX3) (N := 12) hx hb hts inlX3 tyX3 tyX3_ok nmX3 hown hK hP hD hS 0 rfl rfl 8 (by decide) (hts _ q465) (fun _ h => h) rfl (by decide +kernel) rfl rfl (Nat.le_of_ble_eq_true rfl) dX3_advance_68 (fun H locs hP hD hS => ?_)
  have hP : va_P D vwCl [(h, .inr (3, [.ref tk, .ref lo, .ref ca, .ref cp, .ref pg, .int 0, .int 0, .int 0, .int 0, .int le, .int 0, .int fp])), tT tk q (nI 3) (nI 1001) (nI 1), tA g q 3003 f] H := hP
  have hD : va_D A [(h, .inr (3, [.ref tk, .ref lo, .ref ca, .ref cp, .ref pg, .int 0, .int 0, .int 0, .int 0, .int le, .int 0, .int fp])), tT tk q (nI 3) (nI 1001) (nI 1), tA g q 3003 f] := hD
  exact vz_vret hx hb hr hlk hK hP hD hS (()) (trivial) [0, 1, 2] rfl (by decide) (Nat.le_refl 0) (Nat.le_refl 0) dX3_advance_71
theorem dX3_readStatements_0 : decode cX3_readStatements 0 = .ok (.bipush (-9), 2) := by decide +kernel
theorem dX3_readStatements_2 : decode cX3_readStatements 2 = .ok (.istore_n 3, 1) := by decide +kernel
theorem dX3_readStatements_3 : decode cX3_readStatements 3 = .ok (.bipush (-9), 2) := by decide +kernel
theorem dX3_readStatements_5 : decode cX3_readStatements 5 = .ok (.istore 4, 2) := by decide +kernel
theorem dX3_readStatements_7 : decode cX3_readStatements 7 = .ok (.iconst 0, 1) := by decide +kernel
theorem dX3_readStatements_8 : decode cX3_readStatements 8 = .ok (.istore 5, 2) := by decide +kernel
theorem dX3_readStatements_10 : decode cX3_readStatements 10 = .ok (.iload 5, 2) := by decide +kernel
theorem dX3_readStatements_12 : decode cX3_readStatements 12 = .ok (.bipush 80, 2) := by decide +kernel
theorem dX3_readStatements_14 : decode cX3_readStatements 14 = .ok (.if_icmp .gt 64, 3) := by decide +kernel
theorem dX3_readStatements_17 : decode cX3_readStatements 17 = .ok (.aload_n 0, 1) := by decide +kernel
theorem dX3_readStatements_18 : decode cX3_readStatements 18 = .ok (.getfield 74, 3) := by decide +kernel
theorem dX3_readStatements_21 : decode cX3_readStatements 21 = .ok (.ifCond .ne 57, 3) := by decide +kernel
theorem dX3_readStatements_78 : decode cX3_readStatements 78 = .ok (.iload_n 3, 1) := by decide +kernel
theorem dX3_readStatements_79 : decode cX3_readStatements 79 = .ok (.ireturn, 1) := by decide +kernel
set_option maxHeartbeats 4000000 in
set_option maxRecDepth 100000 in
theorem c_R_readStatements1 (l : Launch) (D : va_G) (g : Nat → ClassId) (h tk lo ca cp pg sz : Nat) (a_t to va pl le fp n k : Int32)  : vz_Mi l D (tyG g) yX3_readStatements cX3_readStatements 7 0 0 0 0 .int [.ref h, .int n, .int k] sz [(h, .inr (3, [.ref tk, .ref lo, .ref ca, .ref cp, .ref pg, .int a_t, .int to, .int va, .int pl, .int le, .int 1, .int fp]))] (fun r (u : Unit) => r = -9) (fun u => [(h, .inr (3, [.ref tk, .ref lo, .ref ca, .ref cp, .ref pg, .int a_t, .int to, .int va, .int pl, .int le, .int 1, .int fp]))]) := by
  refine vz_si (by decide) (Nat.le_of_ble_eq_true rfl) (fun p e s m args below meth c hx hb hr hml hts hown hlk hin hK hsz A hA H locs hP hD hS ls hl => ?_)
  have hl : lv_has ls 7 [(0, .ref h), (1, .int n), (2, .int k)] := hl
  refine lv_bipush (v := (-9)) hx hb dX3_readStatements_0 (by decide) ?_
  refine lv_istore_n (lv' := [(3, .int (-9)), (0, .ref h), (1, .int n), (2, .int k)]) hx hb dX3_readStatements_2 rfl hl (by decide) rfl (fun ls hl => ?_)
  refine lv_bipush (v := (-9)) hx hb dX3_readStatements_3 (by decide) ?_
  refine lv_istore (lv' := [(4, .int (-9)), (3, .int (-9)), (0, .ref h), (1, .int n), (2, .int k)]) hx hb dX3_readStatements_5 hl (by decide) rfl (fun ls hl => ?_)
  refine lv_iconst (v := 0) hx hb dX3_readStatements_7 (by decide) ?_
  refine lv_istore (lv' := [(5, .int 0), (4, .int (-9)), (3, .int (-9)), (0, .ref h), (1, .int n), (2, .int k)]) hx hb dX3_readStatements_8 hl (by decide) rfl (fun ls hl => ?_)
  refine lv_iload hx hb dX3_readStatements_10 (lv_at hl 0 rfl) ?_
  refine lv_bipush (v := 80) hx hb dX3_readStatements_12 (by decide) ?_
  refine lv_icmp_gt (tgt := 78) hx hb dX3_readStatements_14 (by decide) (fun h9 => absurd h9 (by decide)) (fun _ => ?_)
  refine lv_aload_n hx hb dX3_readStatements_17 rfl (lv_at hl 3 rfl) ?_
  refine va_get (D := D) (ci := 3) (v := .int 1) (C := RX3) (T := TX3) (N := 12) hx hb hts inlX3 hown hK hP 0 rfl rfl 10 (by decide) (hts _ q445) (fun _ h => h) rfl dX3_readStatements_18 ?_
  refine lv_if_ne (tgt := 78) hx hb dX3_readStatements_21 (by decide) (fun _ => ?_) (fun h9 => absurd h9 (by decide))
  refine lv_iload_n hx hb dX3_readStatements_78 rfl (lv_at hl 2 rfl) ?_
  exact vz_iret hx hb hr hlk hK hP hD hS (()) (rfl) [0] rfl (by decide) (Nat.le_refl 0) (Nat.le_refl 0) dX3_readStatements_79
theorem q500 : Cond.fieldLink RX3 117 "WaysAtlas$Program" "statements" "LWaysAtlas$Table;" ∈ wsL_law := mT_1 (List.mem_of_getElem? (i := 85) rfl) rfl
theorem q472 : Cond.fieldLink RX3 104 "WaysAtlas$Table" "rows" "I" ∈ wsL_law := mT_1 (List.mem_of_getElem? (i := 45) rfl) rfl
theorem dX3_checkCalls_0 : decode cX3_checkCalls 0 = .ok (.iconst 0, 1) := by decide +kernel
theorem dX3_checkCalls_1 : decode cX3_checkCalls 1 = .ok (.istore_n 1, 1) := by decide +kernel
theorem dX3_checkCalls_2 : decode cX3_checkCalls 2 = .ok (.iload_n 1, 1) := by decide +kernel
theorem dX3_checkCalls_3 : decode cX3_checkCalls 3 = .ok (.aload_n 0, 1) := by decide +kernel
theorem dX3_checkCalls_4 : decode cX3_checkCalls 4 = .ok (.getfield 15, 3) := by decide +kernel
theorem dX3_checkCalls_7 : decode cX3_checkCalls 7 = .ok (.getfield 117, 3) := by decide +kernel
theorem dX3_checkCalls_10 : decode cX3_checkCalls 10 = .ok (.getfield 104, 3) := by decide +kernel
theorem dX3_checkCalls_13 : decode cX3_checkCalls 13 = .ok (.if_icmp .ge 63, 3) := by decide +kernel
theorem dX3_checkCalls_76 : decode cX3_checkCalls 76 = .ok (.return_, 1) := by decide +kernel
set_option maxHeartbeats 4000000 in
set_option maxRecDepth 100000 in
theorem c_R_checkCalls0 (l : Launch) (D : va_G) (g : Nat → ClassId) (h tk lo ca cp pg t0 t1 t2 t3 t4 q0 sz : Nat) (a_t to va pl le fa fp : Int32)  : vz_Mv l D (tyG g) yX3_checkCalls cX3_checkCalls 2 0 0 0 0 [.ref h] sz [(h, .inr (3, [.ref tk, .ref lo, .ref ca, .ref cp, .ref pg, .int a_t, .int to, .int va, .int pl, .int le, .int fa, .int fp])), (pg, .inr (2, [.ref t0, .ref t1, .ref t2, .ref t3, .ref t4])), tT t0 q0 (nI 12) (nI 80) 0] (fun u : Unit => True) (fun u => [(h, .inr (3, [.ref tk, .ref lo, .ref ca, .ref cp, .ref pg, .int a_t, .int to, .int va, .int pl, .int le, .int fa, .int fp])), (pg, .inr (2, [.ref t0, .ref t1, .ref t2, .ref t3, .ref t4])), tT t0 q0 (nI 12) (nI 80) 0]) := by
  refine vz_sv (by decide) (Nat.le_of_ble_eq_true rfl) (fun p e s m args below meth c hx hb hr hml hts hown hlk hin hK hsz A hA H locs hP hD hS ls hl => ?_)
  have hl : lv_has ls 2 [(0, .ref h)] := hl
  refine lv_iconst (v := 0) hx hb dX3_checkCalls_0 (by decide) ?_
  refine lv_istore_n (lv' := [(1, .int 0), (0, .ref h)]) hx hb dX3_checkCalls_1 rfl hl (by decide) rfl (fun ls hl => ?_)
  refine lv_iload_n hx hb dX3_checkCalls_2 rfl (lv_at hl 0 rfl) ?_
  refine lv_aload_n hx hb dX3_checkCalls_3 rfl (lv_at hl 1 rfl) ?_
  refine va_get (D := D) (ci := 3) (v := .ref pg) (C := RX3) (T := TX3) (N := 12) hx hb hts inlX3 hown hK hP 0 rfl rfl 4 (by decide) (hts _ q97) (fun _ h => h) rfl dX3_checkCalls_4 ?_
  refine va_get (D := D) (ci := 2) (v := .ref t0) (C := RX2) (T := TX2) (N := 5) hx hb hts inlX2 hown hK hP 1 rfl rfl 0 (by decide) (hts _ q500) (fun _ h => h) rfl dX3_checkCalls_7 ?_
  refine va_get (D := D) (ci := 6) (v := .int 0) (C := RX6) (T := TX6) (N := 4) hx hb hts inlX6 hown hK hP 2 rfl rfl 3 (by decide) (hts _ q472) (fun _ h => h) rfl dX3_checkCalls_10 ?_
  refine lv_icmp_ge (tgt := 76) hx hb dX3_checkCalls_13 (by decide) (fun _ => ?_) (fun h9 => absurd (by decide) h9)
  exact vz_vret hx hb hr hlk hK hP hD hS (()) (trivial) [0, 1, 2] rfl (by decide) (Nat.le_refl 0) (Nat.le_refl 0) dX3_checkCalls_76
theorem q477 : Cond.methodLink RX3 64 yX3_expect ∈ wsL_law := mT_3 (List.mem_of_getElem? (i := 150) rfl) rfl
theorem q478 : Cond.instanceMethod yX3_expect ∈ wsL_law := mT_3 (List.mem_of_getElem? (i := 152) rfl) rfl
theorem q479 : Cond.selects RX3 yX3_expect yX3_expect ∈ wsL_law := mS_1 (q := (yX3_expect, 12)) (List.mem_of_getElem? (i := 8) rfl) rfl
theorem q480 : Cond.code yX3_expect cX3_expect 2 none ∈ wsL_law := mT_3 (List.mem_of_getElem? (i := 153) rfl) rfl
theorem kv_X3_64 : vz_cv RX3 64 yX3_expect cX3_expect 2 none 1 := ⟨q477, q478, q479, q28, q480, by decide +kernel⟩
theorem q495 : Cond.methodLink RX3 116 yX6_reset ∈ wsL_law := mT_3 (List.mem_of_getElem? (i := 168) rfl) rfl
theorem kv_X3_116 : vz_cv RX3 116 yX6_reset cX6_reset 1 none 0 := ⟨q495, q290, q291, q15, q292, by decide +kernel⟩
theorem q444 : Cond.fieldLink RX3 51 "WaysAtlas$Program" "methods" "LWaysAtlas$Table;" ∈ wsL_law := mT_1 (List.mem_of_getElem? (i := 101) rfl) rfl
theorem q489 : Cond.methodLink RX3 110 yX6_add ∈ wsL_law := mT_3 (List.mem_of_getElem? (i := 162) rfl) rfl
theorem kv_X3_110 : vz_cv RX3 110 yX6_add cX6_add 2 (some .int) 0 := ⟨q489, q261, q262, q15, q263, by decide +kernel⟩
theorem dX3_beginMethod_0 : decode cX3_beginMethod 0 = .ok (.aload_n 0, 1) := by decide +kernel
theorem dX3_beginMethod_1 : decode cX3_beginMethod 1 = .ok (.getfield 41, 3) := by decide +kernel
theorem dX3_beginMethod_4 : decode cX3_beginMethod 4 = .ok (.sipush 130, 3) := by decide +kernel
theorem dX3_beginMethod_7 : decode cX3_beginMethod 7 = .ok (.if_icmp .ne 23, 3) := by decide +kernel
theorem dX3_beginMethod_30 : decode cX3_beginMethod 30 = .ok (.aload_n 0, 1) := by decide +kernel
theorem dX3_beginMethod_31 : decode cX3_beginMethod 31 = .ok (.sipush 130, 3) := by decide +kernel
theorem dX3_beginMethod_34 : decode cX3_beginMethod 34 = .ok (.invokevirtual 64, 3) := by decide +kernel
theorem dX3_beginMethod_37 : decode cX3_beginMethod 37 = .ok (.aload_n 0, 1) := by decide +kernel
theorem dX3_beginMethod_38 : decode cX3_beginMethod 38 = .ok (.bipush 123, 2) := by decide +kernel
theorem dX3_beginMethod_40 : decode cX3_beginMethod 40 = .ok (.invokevirtual 64, 3) := by decide +kernel
theorem dX3_beginMethod_43 : decode cX3_beginMethod 43 = .ok (.aload_n 0, 1) := by decide +kernel
theorem dX3_beginMethod_44 : decode cX3_beginMethod 44 = .ok (.getfield 24, 3) := by decide +kernel
theorem dX3_beginMethod_47 : decode cX3_beginMethod 47 = .ok (.invokevirtual 116, 3) := by decide +kernel
theorem dX3_beginMethod_50 : decode cX3_beginMethod 50 = .ok (.aload_n 0, 1) := by decide +kernel
theorem dX3_beginMethod_51 : decode cX3_beginMethod 51 = .ok (.getfield 27, 3) := by decide +kernel
theorem dX3_beginMethod_54 : decode cX3_beginMethod 54 = .ok (.invokevirtual 116, 3) := by decide +kernel
theorem dX3_beginMethod_57 : decode cX3_beginMethod 57 = .ok (.aload_n 0, 1) := by decide +kernel
theorem dX3_beginMethod_58 : decode cX3_beginMethod 58 = .ok (.getfield 15, 3) := by decide +kernel
theorem dX3_beginMethod_61 : decode cX3_beginMethod 61 = .ok (.getfield 51, 3) := by decide +kernel
theorem dX3_beginMethod_64 : decode cX3_beginMethod 64 = .ok (.invokevirtual 110, 3) := by decide +kernel
theorem dX3_beginMethod_67 : decode cX3_beginMethod 67 = .ok (.ireturn, 1) := by decide +kernel
set_option maxHeartbeats 4000000 in
set_option maxRecDepth 100000 in
theorem c_R_beginMethod0 (l : Launch) (D : va_G) (g : Nat → ClassId) (h tk lo ca cp pg t0 t1 t2 t3 t4 q4 ql qc sz : Nat) (a_t va le fp r1 r2 : Int32) (f : Nat → Int32)  : vz_Mi l D (tyG g) yX3_beginMethod cX3_beginMethod 1 2 42 0 0 .int [.ref h] sz [(h, .inr (3, [.ref tk, .ref lo, .ref ca, .ref cp, .ref pg, .int a_t, .int 0, .int va, .int 0, .int le, .int 0, .int fp])), tT lo ql (nI 1) (nI 6) r1, tT ca qc (nI 1) (nI 6) r2, (pg, .inr (2, [.ref t0, .ref t1, .ref t2, .ref t3, .ref t4])), tT t4 q4 (nI 2) (nI 8) 0, tA g q4 16 f] (fun r (u : Nat → Int32) => r = nI 0) (fun u => [(h, .inr (3, [.ref tk, .ref lo, .ref ca, .ref cp, .ref pg, .int a_t, .int 1, .int va, .int 0, .int le, .int 1, .int 0])), tT lo ql (nI 1) (nI 6) 0, tT ca qc (nI 1) (nI 6) 0, (pg, .inr (2, [.ref t0, .ref t1, .ref t2, .ref t3, .ref t4])), tT t4 q4 (nI 2) (nI 8) (nI 1), tA g q4 16 u]) := by
  refine vz_si (by decide) (Nat.le_of_ble_eq_true rfl) (fun p e s m args below meth c hx hb hr hml hts hown hlk hin hK hsz A hA H locs hP hD hS ls hl => ?_)
  have hl : lv_has ls 1 [(0, .ref h)] := hl
  refine lv_aload_n hx hb dX3_beginMethod_0 rfl (lv_at hl 0 rfl) ?_
  refine va_get (D := D) (ci := 3) (v := .int 0) (C := RX3) (T := TX3) (N := 12) hx hb hts inlX3 hown hK hP 0 rfl rfl 6 (by decide) (hts _ q443) (fun _ h => h) rfl dX3_beginMethod_1 ?_
  refine lv_sipush (v := 130) hx hb dX3_beginMethod_4 (by decide) ?_
  refine lv_icmp_ne (tgt := 30) hx hb dX3_beginMethod_7 (by decide) (fun _ => ?_) (fun h9 => absurd h9 (by decide))
  refine lv_aload_n hx hb dX3_beginMethod_30 rfl (lv_at hl 0 rfl) ?_
  refine lv_sipush (v := 130) hx hb dX3_beginMethod_31 (by decide) ?_
  refine vz_Vv (wr := [tT lo ql (nI 1) (nI 6) r1, tT ca qc (nI 1) (nI 6) r2, (pg, .inr (2, [.ref t0, .ref t1, .ref t2, .ref t3, .ref t4])), tT t4 q4 (nI 2) (nI 8) 0, tA g q4 16 f]) (As := [.int 130]) (rest := []) hx hb hml hown hts hK hA hP hD hS (c_R_expect0 l D g h tk lo ca cp pg H.size a_t 0 va le fp 130 (by decide)) kv_X3_64 (⟨Nat.le_of_ble_eq_true rfl, Nat.le_of_ble_eq_true rfl⟩) (q0 := 0) (ci := 3) rfl rfl rfl [0] [1, 2, 3, 4, 5] rfl rfl (by decide) hl.1 (Nat.le_of_ble_eq_true rfl) dX3_beginMethod_34 (⟨Nat.le_of_ble_eq_true rfl, Nat.le_of_ble_eq_true rfl⟩) rfl (fun _ H locs _ _ hP hD hS => ?_)
  have hP : va_P D vwCl [tT lo ql (nI 1) (nI 6) r1, tT ca qc (nI 1) (nI 6) r2, (pg, .inr (2, [.ref t0, .ref t1, .ref t2, .ref t3, .ref t4])), tT t4 q4 (nI 2) (nI 8) 0, tA g q4 16 f, (h, .inr (3, [.ref tk, .ref lo, .ref ca, .ref cp, .ref pg, .int a_t, .int 1, .int va, .int 0, .int le, .int 1, .int 0]))] H := hP
  have hD : va_D A [tT lo ql (nI 1) (nI 6) r1, tT ca qc (nI 1) (nI 6) r2, (pg, .inr (2, [.ref t0, .ref t1, .ref t2, .ref t3, .ref t4])), tT t4 q4 (nI 2) (nI 8) 0, tA g q4 16 f, (h, .inr (3, [.ref tk, .ref lo, .ref ca, .ref cp, .ref pg, .int a_t, .int 1, .int va, .int 0, .int le, .int 1, .int 0]))] := hD
  refine lv_aload_n hx hb dX3_beginMethod_37 rfl (lv_at hl 0 rfl) ?_
  refine lv_bipush (v := 123) hx hb dX3_beginMethod_38 (by decide) ?_
  refine vz_Vv (wr := [tT lo ql (nI 1) (nI 6) r1, tT ca qc (nI 1) (nI 6) r2, (pg, .inr (2, [.ref t0, .ref t1, .ref t2, .ref t3, .ref t4])), tT t4 q4 (nI 2) (nI 8) 0, tA g q4 16 f]) (As := [.int 123]) (rest := []) hx hb hml hown hts hK hA hP hD hS (c_R_expect1 l D g h tk lo ca cp pg H.size a_t 1 va le 0 123 (by decide)) kv_X3_64 (⟨Nat.le_of_ble_eq_true rfl, Nat.le_of_ble_eq_true rfl⟩) (q0 := 5) (ci := 3) rfl rfl rfl [5] [0, 1, 2, 3, 4] rfl rfl (by decide) hl.1 (Nat.le_of_ble_eq_true rfl) dX3_beginMethod_40 (⟨Nat.le_of_ble_eq_true rfl, Nat.le_of_ble_eq_true rfl⟩) rfl (fun _ H locs _ _ hP hD hS => ?_)
  have hP : va_P D vwCl [tT lo ql (nI 1) (nI 6) r1, tT ca qc (nI 1) (nI 6) r2, (pg, .inr (2, [.ref t0, .ref t1, .ref t2, .ref t3, .ref t4])), tT t4 q4 (nI 2) (nI 8) 0, tA g q4 16 f, (h, .inr (3, [.ref tk, .ref lo, .ref ca, .ref cp, .ref pg, .int a_t, .int 1, .int va, .int 0, .int le, .int 1, .int 0]))] H := hP
  have hD : va_D A [tT lo ql (nI 1) (nI 6) r1, tT ca qc (nI 1) (nI 6) r2, (pg, .inr (2, [.ref t0, .ref t1, .ref t2, .ref t3, .ref t4])), tT t4 q4 (nI 2) (nI 8) 0, tA g q4 16 f, (h, .inr (3, [.ref tk, .ref lo, .ref ca, .ref cp, .ref pg, .int a_t, .int 1, .int va, .int 0, .int le, .int 1, .int 0]))] := hD
  refine lv_aload_n hx hb dX3_beginMethod_43 rfl (lv_at hl 0 rfl) ?_
  refine va_get (D := D) (ci := 3) (v := .ref lo) (C := RX3) (T := TX3) (N := 12) hx hb hts inlX3 hown hK hP 5 rfl rfl 1 (by decide) (hts _ q99) (fun _ h => h) rfl dX3_beginMethod_44 ?_
  refine vz_Vv (wr := [tT ca qc (nI 1) (nI 6) r2, (pg, .inr (2, [.ref t0, .ref t1, .ref t2, .ref t3, .ref t4])), tT t4 q4 (nI 2) (nI 8) 0, tA g q4 16 f, (h, .inr (3, [.ref tk, .ref lo, .ref ca, .ref cp, .ref pg, .int a_t, .int 1, .int va, .int 0, .int le, .int 1, .int 0]))]) (As := []) (rest := []) hx hb hml hown hts hK hA hP hD hS (c_T_reset l D g lo ql H.size (nI 1) (nI 6) r1) kv_X3_116 (⟨Nat.le_of_ble_eq_true rfl, Nat.le_of_ble_eq_true rfl⟩) (q0 := 0) (ci := 6) rfl rfl rfl [0] [1, 2, 3, 4, 5] rfl rfl (by decide) hl.1 (Nat.le_of_ble_eq_true rfl) dX3_beginMethod_47 (⟨Nat.le_of_ble_eq_true rfl, Nat.le_of_ble_eq_true rfl⟩) rfl (fun _ H locs _ _ hP hD hS => ?_)
  have hP : va_P D vwCl [tT ca qc (nI 1) (nI 6) r2, (pg, .inr (2, [.ref t0, .ref t1, .ref t2, .ref t3, .ref t4])), tT t4 q4 (nI 2) (nI 8) 0, tA g q4 16 f, (h, .inr (3, [.ref tk, .ref lo, .ref ca, .ref cp, .ref pg, .int a_t, .int 1, .int va, .int 0, .int le, .int 1, .int 0])), tT lo ql (nI 1) (nI 6) 0] H := hP
  have hD : va_D A [tT ca qc (nI 1) (nI 6) r2, (pg, .inr (2, [.ref t0, .ref t1, .ref t2, .ref t3, .ref t4])), tT t4 q4 (nI 2) (nI 8) 0, tA g q4 16 f, (h, .inr (3, [.ref tk, .ref lo, .ref ca, .ref cp, .ref pg, .int a_t, .int 1, .int va, .int 0, .int le, .int 1, .int 0])), tT lo ql (nI 1) (nI 6) 0] := hD
  refine lv_aload_n hx hb dX3_beginMethod_50 rfl (lv_at hl 0 rfl) ?_
  refine va_get (D := D) (ci := 3) (v := .ref ca) (C := RX3) (T := TX3) (N := 12) hx hb hts inlX3 hown hK hP 4 rfl rfl 2 (by decide) (hts _ q100) (fun _ h => h) rfl dX3_beginMethod_51 ?_
  refine vz_Vv (wr := [(pg, .inr (2, [.ref t0, .ref t1, .ref t2, .ref t3, .ref t4])), tT t4 q4 (nI 2) (nI 8) 0, tA g q4 16 f, (h, .inr (3, [.ref tk, .ref lo, .ref ca, .ref cp, .ref pg, .int a_t, .int 1, .int va, .int 0, .int le, .int 1, .int 0])), tT lo ql (nI 1) (nI 6) 0]) (As := []) (rest := []) hx hb hml hown hts hK hA hP hD hS (c_T_reset l D g ca qc H.size (nI 1) (nI 6) r2) kv_X3_116 (⟨Nat.le_of_ble_eq_true rfl, Nat.le_of_ble_eq_true rfl⟩) (q0 := 0) (ci := 6) rfl rfl rfl [0] [1, 2, 3, 4, 5] rfl rfl (by decide) hl.1 (Nat.le_of_ble_eq_true rfl) dX3_beginMethod_54 (⟨Nat.le_of_ble_eq_true rfl, Nat.le_of_ble_eq_true rfl⟩) rfl (fun _ H locs _ _ hP hD hS => ?_)
  have hP : va_P D vwCl [(pg, .inr (2, [.ref t0, .ref t1, .ref t2, .ref t3, .ref t4])), tT t4 q4 (nI 2) (nI 8) 0, tA g q4 16 f, (h, .inr (3, [.ref tk, .ref lo, .ref ca, .ref cp, .ref pg, .int a_t, .int 1, .int va, .int 0, .int le, .int 1, .int 0])), tT lo ql (nI 1) (nI 6) 0, tT ca qc (nI 1) (nI 6) 0] H := hP
  have hD : va_D A [(pg, .inr (2, [.ref t0, .ref t1, .ref t2, .ref t3, .ref t4])), tT t4 q4 (nI 2) (nI 8) 0, tA g q4 16 f, (h, .inr (3, [.ref tk, .ref lo, .ref ca, .ref cp, .ref pg, .int a_t, .int 1, .int va, .int 0, .int le, .int 1, .int 0])), tT lo ql (nI 1) (nI 6) 0, tT ca qc (nI 1) (nI 6) 0] := hD
  refine lv_aload_n hx hb dX3_beginMethod_57 rfl (lv_at hl 0 rfl) ?_
  refine va_get (D := D) (ci := 3) (v := .ref pg) (C := RX3) (T := TX3) (N := 12) hx hb hts inlX3 hown hK hP 3 rfl rfl 4 (by decide) (hts _ q97) (fun _ h => h) rfl dX3_beginMethod_58 ?_
  refine va_get (D := D) (ci := 2) (v := .ref t4) (C := RX2) (T := TX2) (N := 5) hx hb hts inlX2 hown hK hP 0 rfl rfl 4 (by decide) (hts _ q444) (fun _ h => h) rfl dX3_beginMethod_61 ?_
  refine vz_Vi (wr := [(pg, .inr (2, [.ref t0, .ref t1, .ref t2, .ref t3, .ref t4])), (h, .inr (3, [.ref tk, .ref lo, .ref ca, .ref cp, .ref pg, .int a_t, .int 1, .int va, .int 0, .int le, .int 1, .int 0])), tT lo ql (nI 1) (nI 6) 0, tT ca qc (nI 1) (nI 6) 0]) (As := []) (rest := []) hx hb hml hown hts hK hA hP hD hS (c_T_add l D g t4 q4 H.size 2 8 0 16 f (by decide +kernel)) kv_X3_110 (⟨Nat.le_of_ble_eq_true rfl, Nat.le_of_ble_eq_true rfl⟩) (q0 := 1) (ci := 6) rfl rfl rfl [1, 2] [0, 3, 4, 5] rfl rfl (by decide) hl.1 (Nat.le_of_ble_eq_true rfl) dX3_beginMethod_64 (⟨Nat.le_of_ble_eq_true rfl, Nat.le_of_ble_eq_true rfl⟩) rfl (fun r1 ⟨u2R, u2f⟩ H locs e3 _ hP hD hS => ?_)
  obtain ⟨-, e31, e32, e33⟩ | ⟨h9, -⟩ := e3
  case inr => exact absurd h9 (by decide)
  dsimp only at e32 e33 hP hD
  subst e31 e32 e33
  have hP : va_P D vwCl [(pg, .inr (2, [.ref t0, .ref t1, .ref t2, .ref t3, .ref t4])), (h, .inr (3, [.ref tk, .ref lo, .ref ca, .ref cp, .ref pg, .int a_t, .int 1, .int va, .int 0, .int le, .int 1, .int 0])), tT lo ql (nI 1) (nI 6) 0, tT ca qc (nI 1) (nI 6) 0, tT t4 q4 (nI 2) (nI 8) (nI 1), tA g q4 16 (tf f (0 * 2) ((0 + 1) * 2) (-9))] H := hP
  have hD : va_D A [(pg, .inr (2, [.ref t0, .ref t1, .ref t2, .ref t3, .ref t4])), (h, .inr (3, [.ref tk, .ref lo, .ref ca, .ref cp, .ref pg, .int a_t, .int 1, .int va, .int 0, .int le, .int 1, .int 0])), tT lo ql (nI 1) (nI 6) 0, tT ca qc (nI 1) (nI 6) 0, tT t4 q4 (nI 2) (nI 8) (nI 1), tA g q4 16 (tf f (0 * 2) ((0 + 1) * 2) (-9))] := hD
  exact vz_iret hx hb hr hlk hK hP hD hS ((tf f (0 * 2) ((0 + 1) * 2) (-9))) (rfl) [1, 2, 3, 0, 4, 5] rfl (by decide) (Nat.le_refl 0) (Nat.le_refl 0) dX3_beginMethod_67
theorem q452 : Cond.methodLink RX3 80 yX2_reset ∈ wsL_law := mT_3 (List.mem_of_getElem? (i := 129) rfl) rfl
theorem q453 : Cond.instanceMethod yX2_reset ∈ wsL_law := mT_3 (List.mem_of_getElem? (i := 130) rfl) rfl
theorem q454 : Cond.selects RX2 yX2_reset yX2_reset ∈ wsL_law := mT_3 (List.mem_of_getElem? (i := 131) rfl) rfl
theorem q23 : Cond.initialized RX2 ∈ wsL_law := mT_1 (List.mem_of_getElem? (i := 5) rfl) rfl
theorem q455 : Cond.code yX2_reset cX2_reset 3 none ∈ wsL_law := mT_3 (List.mem_of_getElem? (i := 132) rfl) rfl
theorem kv_X3_80 : vz_cv RX3 80 yX2_reset cX2_reset 3 none 0 := ⟨q452, q453, q454, q23, q455, by decide +kernel⟩
theorem q459 : Cond.methodLink RX3 83 yX6_fill ∈ wsL_law := mT_3 (List.mem_of_getElem? (i := 136) rfl) rfl
theorem kv_X3_83 : vz_cv RX3 83 yX6_fill cX6_fill 4 none 2 := ⟨q459, q142, q143, q15, q144, by decide +kernel⟩
theorem q460 : Cond.methodLink RX3 89 yX3_advance ∈ wsL_law := mT_3 (List.mem_of_getElem? (i := 137) rfl) rfl
theorem q461 : Cond.instanceMethod yX3_advance ∈ wsL_law := mT_3 (List.mem_of_getElem? (i := 139) rfl) rfl
theorem q462 : Cond.selects RX3 yX3_advance yX3_advance ∈ wsL_law := mS_1 (q := (yX3_advance, 12)) (List.mem_of_getElem? (i := 5) rfl) rfl
theorem q463 : Cond.code yX3_advance cX3_advance 1 none ∈ wsL_law := mT_3 (List.mem_of_getElem? (i := 140) rfl) rfl
theorem kv_X3_89 : vz_cv RX3 89 yX3_advance cX3_advance 1 none 0 := ⟨q460, q461, q462, q28, q463, by decide +kernel⟩
theorem dX3_start_0 : decode cX3_start 0 = .ok (.aload_n 0, 1) := by decide +kernel
theorem dX3_start_1 : decode cX3_start 1 = .ok (.aload_n 1, 1) := by decide +kernel
theorem dX3_start_2 : decode cX3_start 2 = .ok (.putfield 15, 3) := by decide +kernel
theorem dX3_start_5 : decode cX3_start 5 = .ok (.aload_n 0, 1) := by decide +kernel
theorem dX3_start_6 : decode cX3_start 6 = .ok (.getfield 15, 3) := by decide +kernel
theorem dX3_start_9 : decode cX3_start 9 = .ok (.invokevirtual 80, 3) := by decide +kernel
theorem dX3_start_12 : decode cX3_start 12 = .ok (.aload_n 0, 1) := by decide +kernel
theorem dX3_start_13 : decode cX3_start 13 = .ok (.getfield 30, 3) := by decide +kernel
theorem dX3_start_16 : decode cX3_start 16 = .ok (.bipush 80, 2) := by decide +kernel
theorem dX3_start_18 : decode cX3_start 18 = .ok (.bipush (-9), 2) := by decide +kernel
theorem dX3_start_20 : decode cX3_start 20 = .ok (.invokevirtual 83, 3) := by decide +kernel
theorem dX3_start_23 : decode cX3_start 23 = .ok (.aload_n 0, 1) := by decide +kernel
theorem dX3_start_24 : decode cX3_start 24 = .ok (.iconst 0, 1) := by decide +kernel
theorem dX3_start_25 : decode cX3_start 25 = .ok (.putfield 74, 3) := by decide +kernel
theorem dX3_start_28 : decode cX3_start 28 = .ok (.aload_n 0, 1) := by decide +kernel
theorem dX3_start_29 : decode cX3_start 29 = .ok (.iconst 0, 1) := by decide +kernel
theorem dX3_start_30 : decode cX3_start 30 = .ok (.putfield 77, 3) := by decide +kernel
theorem dX3_start_33 : decode cX3_start 33 = .ok (.aload_n 0, 1) := by decide +kernel
theorem dX3_start_34 : decode cX3_start 34 = .ok (.bipush (-9), 2) := by decide +kernel
theorem dX3_start_36 : decode cX3_start 36 = .ok (.putfield 33, 3) := by decide +kernel
theorem dX3_start_39 : decode cX3_start 39 = .ok (.aload_n 0, 1) := by decide +kernel
theorem dX3_start_40 : decode cX3_start 40 = .ok (.iconst (-1), 1) := by decide +kernel
theorem dX3_start_41 : decode cX3_start 41 = .ok (.putfield 86, 3) := by decide +kernel
theorem dX3_start_44 : decode cX3_start 44 = .ok (.aload_n 0, 1) := by decide +kernel
theorem dX3_start_45 : decode cX3_start 45 = .ok (.invokevirtual 89, 3) := by decide +kernel
theorem dX3_start_48 : decode cX3_start 48 = .ok (.return_, 1) := by decide +kernel
set_option maxHeartbeats 4000000 in
set_option maxRecDepth 100000 in
theorem c_R_start0 (l : Launch) (D : va_G) (g : Nat → ClassId) (h tk lo ca cp pg p9 q qp t0 t1 t2 t3 t4 q0 q1 q2 q3 q4 sz : Nat) (a_t to va pl le fa fp : Int32) (f fc fk : Nat → Int32) (hf0 : f 0 = 0) (hf1 : f 1 = 0) (hf2 : f 2 = 0) : vz_Mv l D (tyG g) yX3_start cX3_start 2 3 60 0 0 [.ref h, .ref pg] sz [(h, .inr (3, [.ref tk, .ref lo, .ref ca, .ref cp, .ref p9, .int a_t, .int to, .int va, .int pl, .int le, .int fa, .int fp])), tT tk q (nI 3) (nI 1001) (nI 1), tA g q 3003 f, tT cp qp (nI 1) (nI 80) 0, tA g qp 80 fc, (pg, .inr (2, [.ref t0, .ref t1, .ref t2, .ref t3, .ref t4])), tT t0 q0 (nI 12) (nI 80) 0, tT t1 q1 (nI 5) (nI 1000) 0, tT t2 q2 (nI 5) (nI 112) 0, tT t3 q3 (nI 1) (nI 16) 0, tT t4 q4 (nI 2) (nI 8) 0, tA g q3 16 fk] (fun u : Nat → Nat → Int32 => True) (fun u => [(h, .inr (3, [.ref tk, .ref lo, .ref ca, .ref cp, .ref pg, .int 0, .int 0, .int 0, .int 0, .int (-9), .int 0, .int 0])), tT tk q (nI 3) (nI 1001) (nI 1), tA g q 3003 f, tT cp qp (nI 1) (nI 80) (nI 80), tA g qp 80 (u 0), (pg, .inr (2, [.ref t0, .ref t1, .ref t2, .ref t3, .ref t4])), tT t0 q0 (nI 12) (nI 80) 0, tT t1 q1 (nI 5) (nI 1000) 0, tT t2 q2 (nI 5) (nI 112) 0, tT t3 q3 (nI 1) (nI 16) (nI 7), tT t4 q4 (nI 2) (nI 8) 0, tA g q3 16 (u 1)]) := by
  refine vz_sv (by decide) (Nat.le_of_ble_eq_true rfl) (fun p e s m args below meth c hx hb hr hml hts hown hlk hin hK hsz A hA H locs hP hD hS ls hl => ?_)
  have hl : lv_has ls 2 [(0, .ref h), (1, .ref pg)] := hl
  refine lv_aload_n hx hb dX3_start_0 rfl (lv_at hl 0 rfl) ?_
  refine lv_aload_n hx hb dX3_start_1 rfl (lv_at hl 1 rfl) ?_
  refine va_put (D := D) (ci := 3) (v := .ref pg) (ty := .object "WaysAtlas$Program") (C := RX3) (T := TX3) (N := 12) hx hb hts inlX3 tyX3 tyX3_ok nmX3 hown hK hP hD hS 0 rfl rfl 4 (by decide) (hts _ q97) (fun _ h => h) rfl (by decide +kernel) rfl rfl (Nat.le_of_ble_eq_true rfl) dX3_start_2 (fun H locs hP hD hS => ?_)
  have hP : va_P D vwCl [(h, .inr (3, [.ref tk, .ref lo, .ref ca, .ref cp, .ref pg, .int a_t, .int to, .int va, .int pl, .int le, .int fa, .int fp])), tT tk q (nI 3) (nI 1001) (nI 1), tA g q 3003 f, tT cp qp (nI 1) (nI 80) 0, tA g qp 80 fc, (pg, .inr (2, [.ref t0, .ref t1, .ref t2, .ref t3, .ref t4])), tT t0 q0 (nI 12) (nI 80) 0, tT t1 q1 (nI 5) (nI 1000) 0, tT t2 q2 (nI 5) (nI 112) 0, tT t3 q3 (nI 1) (nI 16) 0, tT t4 q4 (nI 2) (nI 8) 0, tA g q3 16 fk] H := hP
  have hD : va_D A [(h, .inr (3, [.ref tk, .ref lo, .ref ca, .ref cp, .ref pg, .int a_t, .int to, .int va, .int pl, .int le, .int fa, .int fp])), tT tk q (nI 3) (nI 1001) (nI 1), tA g q 3003 f, tT cp qp (nI 1) (nI 80) 0, tA g qp 80 fc, (pg, .inr (2, [.ref t0, .ref t1, .ref t2, .ref t3, .ref t4])), tT t0 q0 (nI 12) (nI 80) 0, tT t1 q1 (nI 5) (nI 1000) 0, tT t2 q2 (nI 5) (nI 112) 0, tT t3 q3 (nI 1) (nI 16) 0, tT t4 q4 (nI 2) (nI 8) 0, tA g q3 16 fk] := hD
  refine lv_aload_n hx hb dX3_start_5 rfl (lv_at hl 0 rfl) ?_
  refine va_get (D := D) (ci := 3) (v := .ref pg) (C := RX3) (T := TX3) (N := 12) hx hb hts inlX3 hown hK hP 0 rfl rfl 4 (by decide) (hts _ q97) (fun _ h => h) rfl dX3_start_6 ?_
  refine vz_Vv (wr := [(h, .inr (3, [.ref tk, .ref lo, .ref ca, .ref cp, .ref pg, .int a_t, .int to, .int va, .int pl, .int le, .int fa, .int fp])), tT tk q (nI 3) (nI 1001) (nI 1), tA g q 3003 f, tT cp qp (nI 1) (nI 80) 0, tA g qp 80 fc]) (As := []) (rest := []) hx hb hml hown hts hK hA hP hD hS (c_P_reset l D g pg t0 t1 t2 t3 t4 q0 q1 q2 q3 q4 H.size 0 0 0 0 0 fk) kv_X3_80 (⟨Nat.le_of_ble_eq_true rfl, Nat.le_of_ble_eq_true rfl⟩) (q0 := 5) (ci := 2) rfl rfl rfl [5, 6, 7, 8, 9, 10, 11] [0, 1, 2, 3, 4] rfl rfl (by decide) hl.1 (Nat.le_of_ble_eq_true rfl) dX3_start_9 (⟨Nat.le_of_ble_eq_true rfl, Nat.le_of_ble_eq_true rfl⟩) rfl (fun f1 H locs _ _ hP hD hS => ?_)
  have hP : va_P D vwCl [(h, .inr (3, [.ref tk, .ref lo, .ref ca, .ref cp, .ref pg, .int a_t, .int to, .int va, .int pl, .int le, .int fa, .int fp])), tT tk q (nI 3) (nI 1001) (nI 1), tA g q 3003 f, tT cp qp (nI 1) (nI 80) 0, tA g qp 80 fc, (pg, .inr (2, [.ref t0, .ref t1, .ref t2, .ref t3, .ref t4])), tT t0 q0 (nI 12) (nI 80) 0, tT t1 q1 (nI 5) (nI 1000) 0, tT t2 q2 (nI 5) (nI 112) 0, tT t3 q3 (nI 1) (nI 16) (nI 7), tT t4 q4 (nI 2) (nI 8) 0, tA g q3 16 f1] H := hP
  have hD : va_D A [(h, .inr (3, [.ref tk, .ref lo, .ref ca, .ref cp, .ref pg, .int a_t, .int to, .int va, .int pl, .int le, .int fa, .int fp])), tT tk q (nI 3) (nI 1001) (nI 1), tA g q 3003 f, tT cp qp (nI 1) (nI 80) 0, tA g qp 80 fc, (pg, .inr (2, [.ref t0, .ref t1, .ref t2, .ref t3, .ref t4])), tT t0 q0 (nI 12) (nI 80) 0, tT t1 q1 (nI 5) (nI 1000) 0, tT t2 q2 (nI 5) (nI 112) 0, tT t3 q3 (nI 1) (nI 16) (nI 7), tT t4 q4 (nI 2) (nI 8) 0, tA g q3 16 f1] := hD
  refine lv_aload_n hx hb dX3_start_12 rfl (lv_at hl 0 rfl) ?_
  refine va_get (D := D) (ci := 3) (v := .ref cp) (C := RX3) (T := TX3) (N := 12) hx hb hts inlX3 hown hK hP 0 rfl rfl 3 (by decide) (hts _ q101) (fun _ h => h) rfl dX3_start_13 ?_
  refine lv_bipush (v := 80) hx hb dX3_start_16 (by decide) ?_
  refine lv_bipush (v := (-9)) hx hb dX3_start_18 (by decide) ?_
  refine vz_Vv (wr := [(h, .inr (3, [.ref tk, .ref lo, .ref ca, .ref cp, .ref pg, .int a_t, .int to, .int va, .int pl, .int le, .int fa, .int fp])), tT tk q (nI 3) (nI 1001) (nI 1), tA g q 3003 f, (pg, .inr (2, [.ref t0, .ref t1, .ref t2, .ref t3, .ref t4])), tT t0 q0 (nI 12) (nI 80) 0, tT t1 q1 (nI 5) (nI 1000) 0, tT t2 q2 (nI 5) (nI 112) 0, tT t3 q3 (nI 1) (nI 16) (nI 7), tT t4 q4 (nI 2) (nI 8) 0, tA g q3 16 f1]) (As := [.int 80, .int (-9)]) (rest := []) hx hb hml hown hts hK hA hP hD hS (c_T_fill l D g cp qp H.size 1 80 0 80 fc 80 (-9) (by decide) (by decide +kernel)) kv_X3_83 (⟨Nat.le_of_ble_eq_true rfl, Nat.le_of_ble_eq_true rfl⟩) (q0 := 3) (ci := 6) rfl rfl rfl [3, 4] [0, 1, 2, 5, 6, 7, 8, 9, 10, 11] rfl rfl (by decide) hl.1 (Nat.le_of_ble_eq_true rfl) dX3_start_20 (⟨Nat.le_of_ble_eq_true rfl, Nat.le_of_ble_eq_true rfl⟩) rfl (fun f2 H locs e3 _ hP hD hS => ?_)
  subst e3
  have hP : va_P D vwCl [(h, .inr (3, [.ref tk, .ref lo, .ref ca, .ref cp, .ref pg, .int a_t, .int to, .int va, .int pl, .int le, .int fa, .int fp])), tT tk q (nI 3) (nI 1001) (nI 1), tA g q 3003 f, (pg, .inr (2, [.ref t0, .ref t1, .ref t2, .ref t3, .ref t4])), tT t0 q0 (nI 12) (nI 80) 0, tT t1 q1 (nI 5) (nI 1000) 0, tT t2 q2 (nI 5) (nI 112) 0, tT t3 q3 (nI 1) (nI 16) (nI 7), tT t4 q4 (nI 2) (nI 8) 0, tA g q3 16 f1, tT cp qp (nI 1) (nI 80) (nI 80), tA g qp 80 (tf fc 0 (80 * 1) (-9))] H := hP
  have hD : va_D A [(h, .inr (3, [.ref tk, .ref lo, .ref ca, .ref cp, .ref pg, .int a_t, .int to, .int va, .int pl, .int le, .int fa, .int fp])), tT tk q (nI 3) (nI 1001) (nI 1), tA g q 3003 f, (pg, .inr (2, [.ref t0, .ref t1, .ref t2, .ref t3, .ref t4])), tT t0 q0 (nI 12) (nI 80) 0, tT t1 q1 (nI 5) (nI 1000) 0, tT t2 q2 (nI 5) (nI 112) 0, tT t3 q3 (nI 1) (nI 16) (nI 7), tT t4 q4 (nI 2) (nI 8) 0, tA g q3 16 f1, tT cp qp (nI 1) (nI 80) (nI 80), tA g qp 80 (tf fc 0 (80 * 1) (-9))] := hD
  refine lv_aload_n hx hb dX3_start_23 rfl (lv_at hl 0 rfl) ?_
  refine lv_iconst (v := 0) hx hb dX3_start_24 (by decide) ?_
  refine va_put (D := D) (ci := 3) (v := .int 0) (ty := .int) (C := RX3) (T := TX3) (N := 12) hx hb hts inlX3 tyX3 tyX3_ok nmX3 hown hK hP hD hS 0 rfl rfl 10 (by decide) (hts _ q445) (fun _ h => h) rfl (by decide +kernel) rfl rfl (Nat.le_of_ble_eq_true rfl) dX3_start_25 (fun H locs hP hD hS => ?_)
  have hP : va_P D vwCl [(h, .inr (3, [.ref tk, .ref lo, .ref ca, .ref cp, .ref pg, .int a_t, .int to, .int va, .int pl, .int le, .int 0, .int fp])), tT tk q (nI 3) (nI 1001) (nI 1), tA g q 3003 f, (pg, .inr (2, [.ref t0, .ref t1, .ref t2, .ref t3, .ref t4])), tT t0 q0 (nI 12) (nI 80) 0, tT t1 q1 (nI 5) (nI 1000) 0, tT t2 q2 (nI 5) (nI 112) 0, tT t3 q3 (nI 1) (nI 16) (nI 7), tT t4 q4 (nI 2) (nI 8) 0, tA g q3 16 f1, tT cp qp (nI 1) (nI 80) (nI 80), tA g qp 80 (tf fc 0 (80 * 1) (-9))] H := hP
  have hD : va_D A [(h, .inr (3, [.ref tk, .ref lo, .ref ca, .ref cp, .ref pg, .int a_t, .int to, .int va, .int pl, .int le, .int 0, .int fp])), tT tk q (nI 3) (nI 1001) (nI 1), tA g q 3003 f, (pg, .inr (2, [.ref t0, .ref t1, .ref t2, .ref t3, .ref t4])), tT t0 q0 (nI 12) (nI 80) 0, tT t1 q1 (nI 5) (nI 1000) 0, tT t2 q2 (nI 5) (nI 112) 0, tT t3 q3 (nI 1) (nI 16) (nI 7), tT t4 q4 (nI 2) (nI 8) 0, tA g q3 16 f1, tT cp qp (nI 1) (nI 80) (nI 80), tA g qp 80 (tf fc 0 (80 * 1) (-9))] := hD
  refine lv_aload_n hx hb dX3_start_28 rfl (lv_at hl 0 rfl) ?_
  refine lv_iconst (v := 0) hx hb dX3_start_29 (by decide) ?_
  refine va_put (D := D) (ci := 3) (v := .int 0) (ty := .int) (C := RX3) (T := TX3) (N := 12) hx hb hts inlX3 tyX3 tyX3_ok nmX3 hown hK hP hD hS 0 rfl rfl 11 (by decide) (hts _ q446) (fun _ h => h) rfl (by decide +kernel) rfl rfl (Nat.le_of_ble_eq_true rfl) dX3_start_30 (fun H locs hP hD hS => ?_)
  have hP : va_P D vwCl [(h, .inr (3, [.ref tk, .ref lo, .ref ca, .ref cp, .ref pg, .int a_t, .int to, .int va, .int pl, .int le, .int 0, .int 0])), tT tk q (nI 3) (nI 1001) (nI 1), tA g q 3003 f, (pg, .inr (2, [.ref t0, .ref t1, .ref t2, .ref t3, .ref t4])), tT t0 q0 (nI 12) (nI 80) 0, tT t1 q1 (nI 5) (nI 1000) 0, tT t2 q2 (nI 5) (nI 112) 0, tT t3 q3 (nI 1) (nI 16) (nI 7), tT t4 q4 (nI 2) (nI 8) 0, tA g q3 16 f1, tT cp qp (nI 1) (nI 80) (nI 80), tA g qp 80 (tf fc 0 (80 * 1) (-9))] H := hP
  have hD : va_D A [(h, .inr (3, [.ref tk, .ref lo, .ref ca, .ref cp, .ref pg, .int a_t, .int to, .int va, .int pl, .int le, .int 0, .int 0])), tT tk q (nI 3) (nI 1001) (nI 1), tA g q 3003 f, (pg, .inr (2, [.ref t0, .ref t1, .ref t2, .ref t3, .ref t4])), tT t0 q0 (nI 12) (nI 80) 0, tT t1 q1 (nI 5) (nI 1000) 0, tT t2 q2 (nI 5) (nI 112) 0, tT t3 q3 (nI 1) (nI 16) (nI 7), tT t4 q4 (nI 2) (nI 8) 0, tA g q3 16 f1, tT cp qp (nI 1) (nI 80) (nI 80), tA g qp 80 (tf fc 0 (80 * 1) (-9))] := hD
  refine lv_aload_n hx hb dX3_start_33 rfl (lv_at hl 0 rfl) ?_
  refine lv_bipush (v := (-9)) hx hb dX3_start_34 (by decide) ?_
  refine va_put (D := D) (ci := 3) (v := .int (-9)) (ty := .int) (C := RX3) (T := TX3) (N := 12) hx hb hts inlX3 tyX3 tyX3_ok nmX3 hown hK hP hD hS 0 rfl rfl 9 (by decide) (hts _ q102) (fun _ h => h) rfl (by decide +kernel) rfl rfl (Nat.le_of_ble_eq_true rfl) dX3_start_36 (fun H locs hP hD hS => ?_)
  have hP : va_P D vwCl [(h, .inr (3, [.ref tk, .ref lo, .ref ca, .ref cp, .ref pg, .int a_t, .int to, .int va, .int pl, .int (-9), .int 0, .int 0])), tT tk q (nI 3) (nI 1001) (nI 1), tA g q 3003 f, (pg, .inr (2, [.ref t0, .ref t1, .ref t2, .ref t3, .ref t4])), tT t0 q0 (nI 12) (nI 80) 0, tT t1 q1 (nI 5) (nI 1000) 0, tT t2 q2 (nI 5) (nI 112) 0, tT t3 q3 (nI 1) (nI 16) (nI 7), tT t4 q4 (nI 2) (nI 8) 0, tA g q3 16 f1, tT cp qp (nI 1) (nI 80) (nI 80), tA g qp 80 (tf fc 0 (80 * 1) (-9))] H := hP
  have hD : va_D A [(h, .inr (3, [.ref tk, .ref lo, .ref ca, .ref cp, .ref pg, .int a_t, .int to, .int va, .int pl, .int (-9), .int 0, .int 0])), tT tk q (nI 3) (nI 1001) (nI 1), tA g q 3003 f, (pg, .inr (2, [.ref t0, .ref t1, .ref t2, .ref t3, .ref t4])), tT t0 q0 (nI 12) (nI 80) 0, tT t1 q1 (nI 5) (nI 1000) 0, tT t2 q2 (nI 5) (nI 112) 0, tT t3 q3 (nI 1) (nI 16) (nI 7), tT t4 q4 (nI 2) (nI 8) 0, tA g q3 16 f1, tT cp qp (nI 1) (nI 80) (nI 80), tA g qp 80 (tf fc 0 (80 * 1) (-9))] := hD
  refine lv_aload_n hx hb dX3_start_39 rfl (lv_at hl 0 rfl) ?_
  refine lv_iconst (v := (-1)) hx hb dX3_start_40 (by decide) ?_
  refine va_put (D := D) (ci := 3) (v := .int (-1)) (ty := .int) (C := RX3) (T := TX3) (N := 12) hx hb hts inlX3 tyX3 tyX3_ok nmX3 hown hK hP hD hS 0 rfl rfl 5 (by decide) (hts _ q451) (fun _ h => h) rfl (by decide +kernel) rfl rfl (Nat.le_of_ble_eq_true rfl) dX3_start_41 (fun H locs hP hD hS => ?_)
  have hP : va_P D vwCl [(h, .inr (3, [.ref tk, .ref lo, .ref ca, .ref cp, .ref pg, .int (-1), .int to, .int va, .int pl, .int (-9), .int 0, .int 0])), tT tk q (nI 3) (nI 1001) (nI 1), tA g q 3003 f, (pg, .inr (2, [.ref t0, .ref t1, .ref t2, .ref t3, .ref t4])), tT t0 q0 (nI 12) (nI 80) 0, tT t1 q1 (nI 5) (nI 1000) 0, tT t2 q2 (nI 5) (nI 112) 0, tT t3 q3 (nI 1) (nI 16) (nI 7), tT t4 q4 (nI 2) (nI 8) 0, tA g q3 16 f1, tT cp qp (nI 1) (nI 80) (nI 80), tA g qp 80 (tf fc 0 (80 * 1) (-9))] H := hP
  have hD : va_D A [(h, .inr (3, [.ref tk, .ref lo, .ref ca, .ref cp, .ref pg, .int (-1), .int to, .int va, .int pl, .int (-9), .int 0, .int 0])), tT tk q (nI 3) (nI 1001) (nI 1), tA g q 3003 f, (pg, .inr (2, [.ref t0, .ref t1, .ref t2, .ref t3, .ref t4])), tT t0 q0 (nI 12) (nI 80) 0, tT t1 q1 (nI 5) (nI 1000) 0, tT t2 q2 (nI 5) (nI 112) 0, tT t3 q3 (nI 1) (nI 16) (nI 7), tT t4 q4 (nI 2) (nI 8) 0, tA g q3 16 f1, tT cp qp (nI 1) (nI 80) (nI 80), tA g qp 80 (tf fc 0 (80 * 1) (-9))] := hD
  refine lv_aload_n hx hb dX3_start_44 rfl (lv_at hl 0 rfl) ?_
  refine vz_Vv (wr := [(pg, .inr (2, [.ref t0, .ref t1, .ref t2, .ref t3, .ref t4])), tT t0 q0 (nI 12) (nI 80) 0, tT t1 q1 (nI 5) (nI 1000) 0, tT t2 q2 (nI 5) (nI 112) 0, tT t3 q3 (nI 1) (nI 16) (nI 7), tT t4 q4 (nI 2) (nI 8) 0, tA g q3 16 f1, tT cp qp (nI 1) (nI 80) (nI 80), tA g qp 80 (tf fc 0 (80 * 1) (-9))]) (As := []) (rest := []) hx hb hml hown hts hK hA hP hD hS (c_R_advance0 l D g h tk lo ca cp pg q H.size to va pl (-9) 0 f hf0 hf1 hf2) kv_X3_89 (⟨Nat.le_of_ble_eq_true rfl, Nat.le_of_ble_eq_true rfl⟩) (q0 := 0) (ci := 3) rfl rfl rfl [0, 1, 2] [3, 4, 5, 6, 7, 8, 9, 10, 11] rfl rfl (by decide) hl.1 (Nat.le_of_ble_eq_true rfl) dX3_start_45 (⟨Nat.le_of_ble_eq_true rfl, Nat.le_of_ble_eq_true rfl⟩) rfl (fun _ H locs _ _ hP hD hS => ?_)
  have hP : va_P D vwCl [(pg, .inr (2, [.ref t0, .ref t1, .ref t2, .ref t3, .ref t4])), tT t0 q0 (nI 12) (nI 80) 0, tT t1 q1 (nI 5) (nI 1000) 0, tT t2 q2 (nI 5) (nI 112) 0, tT t3 q3 (nI 1) (nI 16) (nI 7), tT t4 q4 (nI 2) (nI 8) 0, tA g q3 16 f1, tT cp qp (nI 1) (nI 80) (nI 80), tA g qp 80 (tf fc 0 (80 * 1) (-9)), (h, .inr (3, [.ref tk, .ref lo, .ref ca, .ref cp, .ref pg, .int 0, .int 0, .int 0, .int 0, .int (-9), .int 0, .int 0])), tT tk q (nI 3) (nI 1001) (nI 1), tA g q 3003 f] H := hP
  have hD : va_D A [(pg, .inr (2, [.ref t0, .ref t1, .ref t2, .ref t3, .ref t4])), tT t0 q0 (nI 12) (nI 80) 0, tT t1 q1 (nI 5) (nI 1000) 0, tT t2 q2 (nI 5) (nI 112) 0, tT t3 q3 (nI 1) (nI 16) (nI 7), tT t4 q4 (nI 2) (nI 8) 0, tA g q3 16 f1, tT cp qp (nI 1) (nI 80) (nI 80), tA g qp 80 (tf fc 0 (80 * 1) (-9)), (h, .inr (3, [.ref tk, .ref lo, .ref ca, .ref cp, .ref pg, .int 0, .int 0, .int 0, .int 0, .int (-9), .int 0, .int 0])), tT tk q (nI 3) (nI 1001) (nI 1), tA g q 3003 f] := hD
  exact vz_vret hx hb hr hlk hK hP hD hS (fun k => if k = 0 then (tf fc 0 (80 * 1) (-9)) else f1) (trivial) [9, 10, 11, 7, 8, 0, 1, 2, 3, 4, 5, 6] rfl (by decide) (Nat.le_refl 0) (Nat.le_refl 0) dX3_start_48
theorem q447 : Cond.methodLink RX3 37 yX3_start ∈ wsL_law := mT_3 (List.mem_of_getElem? (i := 125) rfl) rfl
theorem q448 : Cond.instanceMethod yX3_start ∈ wsL_law := mT_3 (List.mem_of_getElem? (i := 127) rfl) rfl
theorem q449 : Cond.selects RX3 yX3_start yX3_start ∈ wsL_law := mS_1 (q := (yX3_start, 12)) (List.mem_of_getElem? (i := 4) rfl) rfl
theorem q450 : Cond.code yX3_start cX3_start 2 none ∈ wsL_law := mT_3 (List.mem_of_getElem? (i := 128) rfl) rfl
theorem kv_X3_37 : vz_cv RX3 37 yX3_start cX3_start 2 none 1 := ⟨q447, q448, q449, q28, q450, by decide +kernel⟩
theorem q491 : Cond.methodLink RX3 47 yX3_beginMethod ∈ wsL_law := mT_3 (List.mem_of_getElem? (i := 164) rfl) rfl
theorem q492 : Cond.instanceMethod yX3_beginMethod ∈ wsL_law := mT_3 (List.mem_of_getElem? (i := 166) rfl) rfl
theorem q493 : Cond.selects RX3 yX3_beginMethod yX3_beginMethod ∈ wsL_law := mS_1 (q := (yX3_beginMethod, 12)) (List.mem_of_getElem? (i := 11) rfl) rfl
theorem q494 : Cond.code yX3_beginMethod cX3_beginMethod 1 (some .int) ∈ wsL_law := mT_3 (List.mem_of_getElem? (i := 167) rfl) rfl
theorem kv_X3_47 : vz_cv RX3 47 yX3_beginMethod cX3_beginMethod 1 (some .int) 0 := ⟨q491, q492, q493, q28, q494, by decide +kernel⟩
theorem q496 : Cond.methodLink RX3 56 yX3_readStatements ∈ wsL_law := mT_3 (List.mem_of_getElem? (i := 169) rfl) rfl
theorem q497 : Cond.instanceMethod yX3_readStatements ∈ wsL_law := mT_3 (List.mem_of_getElem? (i := 171) rfl) rfl
theorem q498 : Cond.selects RX3 yX3_readStatements yX3_readStatements ∈ wsL_law := mS_1 (q := (yX3_readStatements, 12)) (List.mem_of_getElem? (i := 12) rfl) rfl
theorem q499 : Cond.code yX3_readStatements cX3_readStatements 7 (some .int) ∈ wsL_law := mT_3 (List.mem_of_getElem? (i := 172) rfl) rfl
theorem kv_X3_56 : vz_cv RX3 56 yX3_readStatements cX3_readStatements 7 (some .int) 2 := ⟨q496, q497, q498, q28, q499, by decide +kernel⟩
theorem q490 : Cond.methodLink RX3 60 yX6_set ∈ wsL_law := mT_3 (List.mem_of_getElem? (i := 163) rfl) rfl
theorem kv_X3_60 : vz_cv RX3 60 yX6_set cX6_set 5 none 3 := ⟨q490, q265, q266, q15, q267, by decide +kernel⟩
theorem q606 : Cond.methodLink RX3 71 yX3_checkCalls ∈ wsL_law := mT_4 (List.mem_of_getElem? (i := 36) rfl) rfl
theorem q607 : Cond.instanceMethod yX3_checkCalls ∈ wsL_law := mT_4 (List.mem_of_getElem? (i := 38) rfl) rfl
theorem q608 : Cond.selects RX3 yX3_checkCalls yX3_checkCalls ∈ wsL_law := mS_3 (q := (yX3_checkCalls, 12)) (List.mem_of_getElem? (i := 2) rfl) rfl
theorem q609 : Cond.code yX3_checkCalls cX3_checkCalls 2 none ∈ wsL_law := mT_4 (List.mem_of_getElem? (i := 39) rfl) rfl
theorem kv_X3_71 : vz_cv RX3 71 yX3_checkCalls cX3_checkCalls 2 none 0 := ⟨q606, q607, q608, q28, q609, by decide +kernel⟩
theorem dX3_read_0 : decode cX3_read 0 = .ok (.aload_n 0, 1) := by decide +kernel
theorem dX3_read_1 : decode cX3_read 1 = .ok (.aload_n 1, 1) := by decide +kernel
theorem dX3_read_2 : decode cX3_read 2 = .ok (.invokevirtual 37, 3) := by decide +kernel
theorem dX3_read_5 : decode cX3_read 5 = .ok (.iconst 0, 1) := by decide +kernel
theorem dX3_read_6 : decode cX3_read 6 = .ok (.istore_n 2, 1) := by decide +kernel
theorem dX3_read_7 : decode cX3_read 7 = .ok (.iload_n 2, 1) := by decide +kernel
theorem dX3_read_8 : decode cX3_read 8 = .ok (.bipush 16, 2) := by decide +kernel
theorem dX3_read_10 : decode cX3_read 10 = .ok (.if_icmp .gt 23, 3) := by decide +kernel
theorem dX3_read_13 : decode cX3_read 13 = .ok (.aload_n 0, 1) := by decide +kernel
theorem dX3_read_14 : decode cX3_read 14 = .ok (.getfield 41, 3) := by decide +kernel
theorem dX3_read_17 : decode cX3_read 17 = .ok (.sipush 128, 3) := by decide +kernel
theorem dX3_read_20 : decode cX3_read 20 = .ok (.if_icmp .ne 13, 3) := by decide +kernel
theorem dX3_read_33 : decode cX3_read 33 = .ok (.iconst 1, 1) := by decide +kernel
theorem dX3_read_34 : decode cX3_read 34 = .ok (.istore_n 2, 1) := by decide +kernel
theorem dX3_read_35 : decode cX3_read 35 = .ok (.iconst 0, 1) := by decide +kernel
theorem dX3_read_36 : decode cX3_read 36 = .ok (.istore_n 3, 1) := by decide +kernel
theorem dX3_read_37 : decode cX3_read 37 = .ok (.iload_n 3, 1) := by decide +kernel
theorem dX3_read_38 : decode cX3_read 38 = .ok (.bipush 8, 2) := by decide +kernel
theorem dX3_read_40 : decode cX3_read 40 = .ok (.if_icmp .gt 61, 3) := by decide +kernel
theorem dX3_read_43 : decode cX3_read 43 = .ok (.iload_n 2, 1) := by decide +kernel
theorem dX3_read_44 : decode cX3_read 44 = .ok (.ifCond .eq 57, 3) := by decide +kernel
theorem dX3_read_47 : decode cX3_read 47 = .ok (.aload_n 0, 1) := by decide +kernel
theorem dX3_read_48 : decode cX3_read 48 = .ok (.invokevirtual 47, 3) := by decide +kernel
theorem dX3_read_51 : decode cX3_read 51 = .ok (.istore 4, 2) := by decide +kernel
theorem dX3_read_53 : decode cX3_read 53 = .ok (.aload_n 0, 1) := by decide +kernel
theorem dX3_read_54 : decode cX3_read 54 = .ok (.getfield 15, 3) := by decide +kernel
theorem dX3_read_57 : decode cX3_read 57 = .ok (.getfield 51, 3) := by decide +kernel
theorem dX3_read_60 : decode cX3_read 60 = .ok (.iload 4, 2) := by decide +kernel
theorem dX3_read_62 : decode cX3_read 62 = .ok (.iconst 0, 1) := by decide +kernel
theorem dX3_read_63 : decode cX3_read 63 = .ok (.aload_n 0, 1) := by decide +kernel
theorem dX3_read_64 : decode cX3_read 64 = .ok (.bipush (-9), 2) := by decide +kernel
theorem dX3_read_66 : decode cX3_read 66 = .ok (.iconst 0, 1) := by decide +kernel
theorem dX3_read_67 : decode cX3_read 67 = .ok (.invokevirtual 56, 3) := by decide +kernel
theorem dX3_read_70 : decode cX3_read 70 = .ok (.invokevirtual 60, 3) := by decide +kernel
theorem dX3_read_73 : decode cX3_read 73 = .ok (.aload_n 0, 1) := by decide +kernel
theorem dX3_read_74 : decode cX3_read 74 = .ok (.bipush 125, 2) := by decide +kernel
theorem dX3_read_76 : decode cX3_read 76 = .ok (.invokevirtual 64, 3) := by decide +kernel
theorem dX3_read_79 : decode cX3_read 79 = .ok (.aload_n 0, 1) := by decide +kernel
theorem dX3_read_80 : decode cX3_read 80 = .ok (.getfield 41, 3) := by decide +kernel
theorem dX3_read_83 : decode cX3_read 83 = .ok (.sipush 130, 3) := by decide +kernel
theorem dX3_read_86 : decode cX3_read 86 = .ok (.if_icmp .ne 7, 3) := by decide +kernel
theorem dX3_read_93 : decode cX3_read 93 = .ok (.iconst 0, 1) := by decide +kernel
theorem dX3_read_94 : decode cX3_read 94 = .ok (.istore_n 2, 1) := by decide +kernel
theorem dX3_read_95 : decode cX3_read 95 = .ok (.iinc 3 1, 3) := by decide +kernel
theorem dX3_read_98 : decode cX3_read 98 = .ok (.goto (-61), 3) := by decide +kernel
theorem dX3_read_101 : decode cX3_read 101 = .ok (.aload_n 0, 1) := by decide +kernel
theorem dX3_read_102 : decode cX3_read 102 = .ok (.getfield 41, 3) := by decide +kernel
theorem dX3_read_105 : decode cX3_read 105 = .ok (.ifCond .eq 8, 3) := by decide +kernel
theorem dX3_read_108 : decode cX3_read 108 = .ok (.aload_n 0, 1) := by decide +kernel
theorem dX3_read_109 : decode cX3_read 109 = .ok (.iconst 1, 1) := by decide +kernel
theorem dX3_read_110 : decode cX3_read 110 = .ok (.invokevirtual 68, 3) := by decide +kernel
theorem dX3_read_113 : decode cX3_read 113 = .ok (.aload_n 0, 1) := by decide +kernel
theorem dX3_read_114 : decode cX3_read 114 = .ok (.invokevirtual 71, 3) := by decide +kernel
theorem dX3_read_117 : decode cX3_read 117 = .ok (.aload_n 0, 1) := by decide +kernel
theorem dX3_read_118 : decode cX3_read 118 = .ok (.getfield 74, 3) := by decide +kernel
theorem dX3_read_121 : decode cX3_read 121 = .ok (.ifCond .ne 25, 3) := by decide +kernel
theorem dX3_read_146 : decode cX3_read 146 = .ok (.return_, 1) := by decide +kernel
set_option maxHeartbeats 4000000 in
set_option maxRecDepth 100000 in
theorem c_R_read0 (l : Launch) (D : va_G) (g : Nat → ClassId) (h tk lo ca cp pg p9 q ql qc qp t0 t1 t2 t3 t4 q0 q1 q2 q3 q4 sz : Nat) (a_t to va pl le fa fp : Int32) (f fc fk fm : Nat → Int32) (hf0 : f 0 = 0) (hf1 : f 1 = 0) (hf2 : f 2 = 0) : vz_Mv l D (tyG g) yX3_read cX3_read 5 4 90 0 0 [.ref h, .ref pg] sz [(h, .inr (3, [.ref tk, .ref lo, .ref ca, .ref cp, .ref p9, .int a_t, .int to, .int va, .int pl, .int le, .int fa, .int fp])), tT tk q (nI 3) (nI 1001) (nI 1), tA g q 3003 f, tT lo ql (nI 1) (nI 6) 0, tT ca qc (nI 1) (nI 6) 0, tT cp qp (nI 1) (nI 80) 0, tA g qp 80 fc, (pg, .inr (2, [.ref t0, .ref t1, .ref t2, .ref t3, .ref t4])), tT t0 q0 (nI 12) (nI 80) 0, tT t1 q1 (nI 5) (nI 1000) 0, tT t2 q2 (nI 5) (nI 112) 0, tT t3 q3 (nI 1) (nI 16) 0, tT t4 q4 (nI 2) (nI 8) 0, tA g q3 16 fk, tA g q4 16 fm] (fun u : Unit => True) (fun u => [(h, .inr (3, [.ref tk, .ref lo, .ref ca, .ref cp, .ref pg, .int 0, .int 1, .int 0, .int 0, .int (-9), .int 1, .int 0]))]) := by
  refine vz_sv (by decide) (Nat.le_of_ble_eq_true rfl) (fun p e s m args below meth c hx hb hr hml hts hown hlk hin hK hsz A hA H locs hP hD hS ls hl => ?_)
  have hl : lv_has ls 5 [(0, .ref h), (1, .ref pg)] := hl
  refine lv_aload_n hx hb dX3_read_0 rfl (lv_at hl 0 rfl) ?_
  refine lv_aload_n hx hb dX3_read_1 rfl (lv_at hl 1 rfl) ?_
  refine vz_Vv (wr := [tT lo ql (nI 1) (nI 6) 0, tT ca qc (nI 1) (nI 6) 0, tA g q4 16 fm]) (As := [.ref pg]) (rest := []) hx hb hml hown hts hK hA hP hD hS (c_R_start0 l D g h tk lo ca cp pg p9 q qp t0 t1 t2 t3 t4 q0 q1 q2 q3 q4 H.size a_t to va pl le fa fp f fc fk hf0 hf1 hf2) kv_X3_37 (⟨Nat.le_of_ble_eq_true rfl, Nat.le_of_ble_eq_true rfl⟩) (q0 := 0) (ci := 3) rfl rfl rfl [0, 1, 2, 5, 6, 7, 8, 9, 10, 11, 12, 13] [3, 4, 14] rfl rfl (by decide) hl.1 (Nat.le_of_ble_eq_true rfl) dX3_read_2 (⟨Nat.le_of_ble_eq_true rfl, Nat.le_of_ble_eq_true rfl⟩) rfl (fun us H locs _ _ hP hD hS => ?_)
  have hP : va_P D vwCl [tT lo ql (nI 1) (nI 6) 0, tT ca qc (nI 1) (nI 6) 0, tA g q4 16 fm, (h, .inr (3, [.ref tk, .ref lo, .ref ca, .ref cp, .ref pg, .int 0, .int 0, .int 0, .int 0, .int (-9), .int 0, .int 0])), tT tk q (nI 3) (nI 1001) (nI 1), tA g q 3003 f, tT cp qp (nI 1) (nI 80) (nI 80), tA g qp 80 (us 0), (pg, .inr (2, [.ref t0, .ref t1, .ref t2, .ref t3, .ref t4])), tT t0 q0 (nI 12) (nI 80) 0, tT t1 q1 (nI 5) (nI 1000) 0, tT t2 q2 (nI 5) (nI 112) 0, tT t3 q3 (nI 1) (nI 16) (nI 7), tT t4 q4 (nI 2) (nI 8) 0, tA g q3 16 (us 1)] H := hP
  have hD : va_D A [tT lo ql (nI 1) (nI 6) 0, tT ca qc (nI 1) (nI 6) 0, tA g q4 16 fm, (h, .inr (3, [.ref tk, .ref lo, .ref ca, .ref cp, .ref pg, .int 0, .int 0, .int 0, .int 0, .int (-9), .int 0, .int 0])), tT tk q (nI 3) (nI 1001) (nI 1), tA g q 3003 f, tT cp qp (nI 1) (nI 80) (nI 80), tA g qp 80 (us 0), (pg, .inr (2, [.ref t0, .ref t1, .ref t2, .ref t3, .ref t4])), tT t0 q0 (nI 12) (nI 80) 0, tT t1 q1 (nI 5) (nI 1000) 0, tT t2 q2 (nI 5) (nI 112) 0, tT t3 q3 (nI 1) (nI 16) (nI 7), tT t4 q4 (nI 2) (nI 8) 0, tA g q3 16 (us 1)] := hD
  refine lv_iconst (v := 0) hx hb dX3_read_5 (by decide) ?_
  refine lv_istore_n (lv' := [(2, .int 0), (0, .ref h), (1, .ref pg)]) hx hb dX3_read_6 rfl hl (by decide) rfl (fun ls hl => ?_)
  refine lv_iload_n hx hb dX3_read_7 rfl (lv_at hl 0 rfl) ?_
  refine lv_bipush (v := 16) hx hb dX3_read_8 (by decide) ?_
  refine lv_icmp_gt (tgt := 33) hx hb dX3_read_10 (by decide) (fun h9 => absurd h9 (by decide)) (fun _ => ?_)
  refine lv_aload_n hx hb dX3_read_13 rfl (lv_at hl 1 rfl) ?_
  refine va_get (D := D) (ci := 3) (v := .int 0) (C := RX3) (T := TX3) (N := 12) hx hb hts inlX3 hown hK hP 3 rfl rfl 6 (by decide) (hts _ q443) (fun _ h => h) rfl dX3_read_14 ?_
  refine lv_sipush (v := 128) hx hb dX3_read_17 (by decide) ?_
  refine lv_icmp_ne (tgt := 33) hx hb dX3_read_20 (by decide) (fun _ => ?_) (fun h9 => absurd h9 (by decide))
  refine lv_iconst (v := 1) hx hb dX3_read_33 (by decide) ?_
  refine lv_istore_n (lv' := [(2, .int 1), (0, .ref h), (1, .ref pg)]) hx hb dX3_read_34 rfl hl (by decide) rfl (fun ls hl => ?_)
  refine lv_iconst (v := 0) hx hb dX3_read_35 (by decide) ?_
  refine lv_istore_n (lv' := [(3, .int 0), (2, .int 1), (0, .ref h), (1, .ref pg)]) hx hb dX3_read_36 rfl hl (by decide) rfl (fun ls hl => ?_)
  refine lv_iload_n hx hb dX3_read_37 rfl (lv_at hl 0 rfl) ?_
  refine lv_bipush (v := 8) hx hb dX3_read_38 (by decide) ?_
  refine lv_icmp_gt (tgt := 101) hx hb dX3_read_40 (by decide) (fun h9 => absurd h9 (by decide)) (fun _ => ?_)
  refine lv_iload_n hx hb dX3_read_43 rfl (lv_at hl 1 rfl) ?_
  refine lv_if_eq (tgt := 101) hx hb dX3_read_44 (by decide) (fun h9 => absurd h9 (by decide)) (fun _ => ?_)
  refine lv_aload_n hx hb dX3_read_47 rfl (lv_at hl 2 rfl) ?_
  refine vz_Vi (wr := [tT tk q (nI 3) (nI 1001) (nI 1), tA g q 3003 f, tT cp qp (nI 1) (nI 80) (nI 80), tA g qp 80 (us 0), tT t0 q0 (nI 12) (nI 80) 0, tT t1 q1 (nI 5) (nI 1000) 0, tT t2 q2 (nI 5) (nI 112) 0, tT t3 q3 (nI 1) (nI 16) (nI 7), tA g q3 16 (us 1)]) (As := []) (rest := []) hx hb hml hown hts hK hA hP hD hS (c_R_beginMethod0 l D g h tk lo ca cp pg t0 t1 t2 t3 t4 q4 ql qc H.size 0 0 (-9) 0 0 0 fm) kv_X3_47 (⟨Nat.le_of_ble_eq_true rfl, Nat.le_of_ble_eq_true rfl⟩) (q0 := 3) (ci := 3) rfl rfl rfl [3, 0, 1, 8, 13, 2] [4, 5, 6, 7, 9, 10, 11, 12, 14] rfl rfl (by decide) hl.1 (Nat.le_of_ble_eq_true rfl) dX3_read_48 (⟨Nat.le_of_ble_eq_true rfl, Nat.le_of_ble_eq_true rfl⟩) rfl (fun rb fb H locs eb _ hP hD hS => ?_)
  subst eb
  have hP : va_P D vwCl [tT tk q (nI 3) (nI 1001) (nI 1), tA g q 3003 f, tT cp qp (nI 1) (nI 80) (nI 80), tA g qp 80 (us 0), tT t0 q0 (nI 12) (nI 80) 0, tT t1 q1 (nI 5) (nI 1000) 0, tT t2 q2 (nI 5) (nI 112) 0, tT t3 q3 (nI 1) (nI 16) (nI 7), tA g q3 16 (us 1), (h, .inr (3, [.ref tk, .ref lo, .ref ca, .ref cp, .ref pg, .int 0, .int 1, .int 0, .int 0, .int (-9), .int 1, .int 0])), tT lo ql (nI 1) (nI 6) 0, tT ca qc (nI 1) (nI 6) 0, (pg, .inr (2, [.ref t0, .ref t1, .ref t2, .ref t3, .ref t4])), tT t4 q4 (nI 2) (nI 8) (nI 1), tA g q4 16 fb] H := hP
  have hD : va_D A [tT tk q (nI 3) (nI 1001) (nI 1), tA g q 3003 f, tT cp qp (nI 1) (nI 80) (nI 80), tA g qp 80 (us 0), tT t0 q0 (nI 12) (nI 80) 0, tT t1 q1 (nI 5) (nI 1000) 0, tT t2 q2 (nI 5) (nI 112) 0, tT t3 q3 (nI 1) (nI 16) (nI 7), tA g q3 16 (us 1), (h, .inr (3, [.ref tk, .ref lo, .ref ca, .ref cp, .ref pg, .int 0, .int 1, .int 0, .int 0, .int (-9), .int 1, .int 0])), tT lo ql (nI 1) (nI 6) 0, tT ca qc (nI 1) (nI 6) 0, (pg, .inr (2, [.ref t0, .ref t1, .ref t2, .ref t3, .ref t4])), tT t4 q4 (nI 2) (nI 8) (nI 1), tA g q4 16 fb] := hD
  refine lv_istore (lv' := [(4, .int (nI 0)), (3, .int 0), (2, .int 1), (0, .ref h), (1, .ref pg)]) hx hb dX3_read_51 hl (by decide) rfl (fun ls hl => ?_)
  refine lv_aload_n hx hb dX3_read_53 rfl (lv_at hl 3 rfl) ?_
  refine va_get (D := D) (ci := 3) (v := .ref pg) (C := RX3) (T := TX3) (N := 12) hx hb hts inlX3 hown hK hP 9 rfl rfl 4 (by decide) (hts _ q97) (fun _ h => h) rfl dX3_read_54 ?_
  refine va_get (D := D) (ci := 2) (v := .ref t4) (C := RX2) (T := TX2) (N := 5) hx hb hts inlX2 hown hK hP 12 rfl rfl 4 (by decide) (hts _ q444) (fun _ h => h) rfl dX3_read_57 ?_
  refine lv_iload hx hb dX3_read_60 (lv_at hl 0 rfl) ?_
  refine lv_iconst (v := 0) hx hb dX3_read_62 (by decide) ?_
  refine lv_aload_n hx hb dX3_read_63 rfl (lv_at hl 3 rfl) ?_
  refine lv_bipush (v := (-9)) hx hb dX3_read_64 (by decide) ?_
  refine lv_iconst (v := 0) hx hb dX3_read_66 (by decide) ?_
  refine vz_Vi (wr := [tT tk q (nI 3) (nI 1001) (nI 1), tA g q 3003 f, tT cp qp (nI 1) (nI 80) (nI 80), tA g qp 80 (us 0), tT t0 q0 (nI 12) (nI 80) 0, tT t1 q1 (nI 5) (nI 1000) 0, tT t2 q2 (nI 5) (nI 112) 0, tT t3 q3 (nI 1) (nI 16) (nI 7), tA g q3 16 (us 1), tT lo ql (nI 1) (nI 6) 0, tT ca qc (nI 1) (nI 6) 0, (pg, .inr (2, [.ref t0, .ref t1, .ref t2, .ref t3, .ref t4])), tT t4 q4 (nI 2) (nI 8) (nI 1), tA g q4 16 fb]) (As := [.int (-9), .int 0]) (rest := [.int 0, .int (nI 0), .ref t4]) hx hb hml hown hts hK hA hP hD hS (c_R_readStatements1 l D g h tk lo ca cp pg H.size 0 1 0 0 (-9) 0 (-9) 0) kv_X3_56 (⟨Nat.le_of_ble_eq_true rfl, Nat.le_of_ble_eq_true rfl⟩) (q0 := 9) (ci := 3) rfl rfl rfl [9] [0, 1, 2, 3, 4, 5, 6, 7, 8, 10, 11, 12, 13, 14] rfl rfl (by decide) hl.1 (Nat.le_of_ble_eq_true rfl) dX3_read_67 (⟨Nat.le_of_ble_eq_true rfl, Nat.le_of_ble_eq_true rfl⟩) rfl (fun rs _ H locs es _ hP hD hS => ?_)
  subst es
  have hP : va_P D vwCl [tT tk q (nI 3) (nI 1001) (nI 1), tA g q 3003 f, tT cp qp (nI 1) (nI 80) (nI 80), tA g qp 80 (us 0), tT t0 q0 (nI 12) (nI 80) 0, tT t1 q1 (nI 5) (nI 1000) 0, tT t2 q2 (nI 5) (nI 112) 0, tT t3 q3 (nI 1) (nI 16) (nI 7), tA g q3 16 (us 1), tT lo ql (nI 1) (nI 6) 0, tT ca qc (nI 1) (nI 6) 0, (pg, .inr (2, [.ref t0, .ref t1, .ref t2, .ref t3, .ref t4])), tT t4 q4 (nI 2) (nI 8) (nI 1), tA g q4 16 fb, (h, .inr (3, [.ref tk, .ref lo, .ref ca, .ref cp, .ref pg, .int 0, .int 1, .int 0, .int 0, .int (-9), .int 1, .int 0]))] H := hP
  have hD : va_D A [tT tk q (nI 3) (nI 1001) (nI 1), tA g q 3003 f, tT cp qp (nI 1) (nI 80) (nI 80), tA g qp 80 (us 0), tT t0 q0 (nI 12) (nI 80) 0, tT t1 q1 (nI 5) (nI 1000) 0, tT t2 q2 (nI 5) (nI 112) 0, tT t3 q3 (nI 1) (nI 16) (nI 7), tA g q3 16 (us 1), tT lo ql (nI 1) (nI 6) 0, tT ca qc (nI 1) (nI 6) 0, (pg, .inr (2, [.ref t0, .ref t1, .ref t2, .ref t3, .ref t4])), tT t4 q4 (nI 2) (nI 8) (nI 1), tA g q4 16 fb, (h, .inr (3, [.ref tk, .ref lo, .ref ca, .ref cp, .ref pg, .int 0, .int 1, .int 0, .int 0, .int (-9), .int 1, .int 0]))] := hD
  refine vz_Vv (wr := [tT tk q (nI 3) (nI 1001) (nI 1), tA g q 3003 f, tT cp qp (nI 1) (nI 80) (nI 80), tA g qp 80 (us 0), tT t0 q0 (nI 12) (nI 80) 0, tT t1 q1 (nI 5) (nI 1000) 0, tT t2 q2 (nI 5) (nI 112) 0, tT t3 q3 (nI 1) (nI 16) (nI 7), tA g q3 16 (us 1), tT lo ql (nI 1) (nI 6) 0, tT ca qc (nI 1) (nI 6) 0, (pg, .inr (2, [.ref t0, .ref t1, .ref t2, .ref t3, .ref t4])), (h, .inr (3, [.ref tk, .ref lo, .ref ca, .ref cp, .ref pg, .int 0, .int 1, .int 0, .int 0, .int (-9), .int 1, .int 0]))]) (As := [.int (nI 0), .int 0, .int (-9)]) (rest := []) hx hb hml hown hts hK hA hP hD hS (c_T_set l D g t4 q4 H.size 2 8 1 16 fb (nI 0) 0 (-9) (by decide +kernel)) kv_X3_60 (⟨Nat.le_of_ble_eq_true rfl, Nat.le_of_ble_eq_true rfl⟩) (q0 := 12) (ci := 6) rfl rfl rfl [12, 13] [0, 1, 2, 3, 4, 5, 6, 7, 8, 9, 10, 11, 14] rfl rfl (by decide) hl.1 (Nat.le_of_ble_eq_true rfl) dX3_read_70 (⟨Nat.le_of_ble_eq_true rfl, Nat.le_of_ble_eq_true rfl⟩) rfl (fun f1 H locs e2 _ hP hD hS => ?_)
  rw [ts_c 0 (by decide) (by decide)] at e2
  subst e2
  have hP : va_P D vwCl [tT tk q (nI 3) (nI 1001) (nI 1), tA g q 3003 f, tT cp qp (nI 1) (nI 80) (nI 80), tA g qp 80 (us 0), tT t0 q0 (nI 12) (nI 80) 0, tT t1 q1 (nI 5) (nI 1000) 0, tT t2 q2 (nI 5) (nI 112) 0, tT t3 q3 (nI 1) (nI 16) (nI 7), tA g q3 16 (us 1), tT lo ql (nI 1) (nI 6) 0, tT ca qc (nI 1) (nI 6) 0, (pg, .inr (2, [.ref t0, .ref t1, .ref t2, .ref t3, .ref t4])), (h, .inr (3, [.ref tk, .ref lo, .ref ca, .ref cp, .ref pg, .int 0, .int 1, .int 0, .int 0, .int (-9), .int 1, .int 0])), tT t4 q4 (nI 2) (nI 8) (nI 1), tA g q4 16 (upd fb 0 (-9))] H := hP
  have hD : va_D A [tT tk q (nI 3) (nI 1001) (nI 1), tA g q 3003 f, tT cp qp (nI 1) (nI 80) (nI 80), tA g qp 80 (us 0), tT t0 q0 (nI 12) (nI 80) 0, tT t1 q1 (nI 5) (nI 1000) 0, tT t2 q2 (nI 5) (nI 112) 0, tT t3 q3 (nI 1) (nI 16) (nI 7), tA g q3 16 (us 1), tT lo ql (nI 1) (nI 6) 0, tT ca qc (nI 1) (nI 6) 0, (pg, .inr (2, [.ref t0, .ref t1, .ref t2, .ref t3, .ref t4])), (h, .inr (3, [.ref tk, .ref lo, .ref ca, .ref cp, .ref pg, .int 0, .int 1, .int 0, .int 0, .int (-9), .int 1, .int 0])), tT t4 q4 (nI 2) (nI 8) (nI 1), tA g q4 16 (upd fb 0 (-9))] := hD
  refine lv_aload_n hx hb dX3_read_73 rfl (lv_at hl 3 rfl) ?_
  refine lv_bipush (v := 125) hx hb dX3_read_74 (by decide) ?_
  refine vz_Vv (wr := [tT tk q (nI 3) (nI 1001) (nI 1), tA g q 3003 f, tT cp qp (nI 1) (nI 80) (nI 80), tA g qp 80 (us 0), tT t0 q0 (nI 12) (nI 80) 0, tT t1 q1 (nI 5) (nI 1000) 0, tT t2 q2 (nI 5) (nI 112) 0, tT t3 q3 (nI 1) (nI 16) (nI 7), tA g q3 16 (us 1), tT lo ql (nI 1) (nI 6) 0, tT ca qc (nI 1) (nI 6) 0, (pg, .inr (2, [.ref t0, .ref t1, .ref t2, .ref t3, .ref t4])), tT t4 q4 (nI 2) (nI 8) (nI 1), tA g q4 16 (upd fb 0 (-9))]) (As := [.int 125]) (rest := []) hx hb hml hown hts hK hA hP hD hS (c_R_expect1 l D g h tk lo ca cp pg H.size 0 1 0 (-9) 0 125 (by decide)) kv_X3_64 (⟨Nat.le_of_ble_eq_true rfl, Nat.le_of_ble_eq_true rfl⟩) (q0 := 12) (ci := 3) rfl rfl rfl [12] [0, 1, 2, 3, 4, 5, 6, 7, 8, 9, 10, 11, 13, 14] rfl rfl (by decide) hl.1 (Nat.le_of_ble_eq_true rfl) dX3_read_76 (⟨Nat.le_of_ble_eq_true rfl, Nat.le_of_ble_eq_true rfl⟩) rfl (fun _ H locs _ _ hP hD hS => ?_)
  have hP : va_P D vwCl [tT tk q (nI 3) (nI 1001) (nI 1), tA g q 3003 f, tT cp qp (nI 1) (nI 80) (nI 80), tA g qp 80 (us 0), tT t0 q0 (nI 12) (nI 80) 0, tT t1 q1 (nI 5) (nI 1000) 0, tT t2 q2 (nI 5) (nI 112) 0, tT t3 q3 (nI 1) (nI 16) (nI 7), tA g q3 16 (us 1), tT lo ql (nI 1) (nI 6) 0, tT ca qc (nI 1) (nI 6) 0, (pg, .inr (2, [.ref t0, .ref t1, .ref t2, .ref t3, .ref t4])), tT t4 q4 (nI 2) (nI 8) (nI 1), tA g q4 16 (upd fb 0 (-9)), (h, .inr (3, [.ref tk, .ref lo, .ref ca, .ref cp, .ref pg, .int 0, .int 1, .int 0, .int 0, .int (-9), .int 1, .int 0]))] H := hP
  have hD : va_D A [tT tk q (nI 3) (nI 1001) (nI 1), tA g q 3003 f, tT cp qp (nI 1) (nI 80) (nI 80), tA g qp 80 (us 0), tT t0 q0 (nI 12) (nI 80) 0, tT t1 q1 (nI 5) (nI 1000) 0, tT t2 q2 (nI 5) (nI 112) 0, tT t3 q3 (nI 1) (nI 16) (nI 7), tA g q3 16 (us 1), tT lo ql (nI 1) (nI 6) 0, tT ca qc (nI 1) (nI 6) 0, (pg, .inr (2, [.ref t0, .ref t1, .ref t2, .ref t3, .ref t4])), tT t4 q4 (nI 2) (nI 8) (nI 1), tA g q4 16 (upd fb 0 (-9)), (h, .inr (3, [.ref tk, .ref lo, .ref ca, .ref cp, .ref pg, .int 0, .int 1, .int 0, .int 0, .int (-9), .int 1, .int 0]))] := hD
  refine lv_aload_n hx hb dX3_read_79 rfl (lv_at hl 3 rfl) ?_
  refine va_get (D := D) (ci := 3) (v := .int 1) (C := RX3) (T := TX3) (N := 12) hx hb hts inlX3 hown hK hP 14 rfl rfl 6 (by decide) (hts _ q443) (fun _ h => h) rfl dX3_read_80 ?_
  refine lv_sipush (v := 130) hx hb dX3_read_83 (by decide) ?_
  refine lv_icmp_ne (tgt := 93) hx hb dX3_read_86 (by decide) (fun _ => ?_) (fun h9 => absurd h9 (by decide))
  refine lv_iconst (v := 0) hx hb dX3_read_93 (by decide) ?_
  refine lv_istore_n (lv' := [(2, .int 0), (4, .int (nI 0)), (3, .int 0), (0, .ref h), (1, .ref pg)]) hx hb dX3_read_94 rfl hl (by decide) rfl (fun ls hl => ?_)
  refine lv_iinc (v := 1) (lv' := [(3, .int 1), (2, .int 0), (4, .int (nI 0)), (0, .ref h), (1, .ref pg)]) hx hb dX3_read_95 hl (k := 2) rfl (by decide) (by decide) rfl (fun ls hl => ?_)
  refine lv_goto (tgt := 37) hx hb dX3_read_98 (by decide) ?_
  refine lv_iload_n hx hb dX3_read_37 rfl (lv_at hl 0 rfl) ?_
  refine lv_bipush (v := 8) hx hb dX3_read_38 (by decide) ?_
  refine lv_icmp_gt (tgt := 101) hx hb dX3_read_40 (by decide) (fun h9 => absurd h9 (by decide)) (fun _ => ?_)
  refine lv_iload_n hx hb dX3_read_43 rfl (lv_at hl 1 rfl) ?_
  refine lv_if_eq (tgt := 101) hx hb dX3_read_44 (by decide) (fun _ => ?_) (fun h9 => absurd (by decide) h9)
  refine lv_aload_n hx hb dX3_read_101 rfl (lv_at hl 3 rfl) ?_
  refine va_get (D := D) (ci := 3) (v := .int 1) (C := RX3) (T := TX3) (N := 12) hx hb hts inlX3 hown hK hP 14 rfl rfl 6 (by decide) (hts _ q443) (fun _ h => h) rfl dX3_read_102 ?_
  refine lv_if_eq (tgt := 113) hx hb dX3_read_105 (by decide) (fun h9 => absurd h9 (by decide)) (fun _ => ?_)
  refine lv_aload_n hx hb dX3_read_108 rfl (lv_at hl 3 rfl) ?_
  refine lv_iconst (v := 1) hx hb dX3_read_109 (by decide) ?_
  refine vz_Vv (wr := [tT tk q (nI 3) (nI 1001) (nI 1), tA g q 3003 f, tT cp qp (nI 1) (nI 80) (nI 80), tA g qp 80 (us 0), tT t0 q0 (nI 12) (nI 80) 0, tT t1 q1 (nI 5) (nI 1000) 0, tT t2 q2 (nI 5) (nI 112) 0, tT t3 q3 (nI 1) (nI 16) (nI 7), tA g q3 16 (us 1), tT lo ql (nI 1) (nI 6) 0, tT ca qc (nI 1) (nI 6) 0, (pg, .inr (2, [.ref t0, .ref t1, .ref t2, .ref t3, .ref t4])), tT t4 q4 (nI 2) (nI 8) (nI 1), tA g q4 16 (upd fb 0 (-9))]) (As := [.int 1]) (rest := []) hx hb hml hown hts hK hA hP hD hS (c_R_fail l D g h tk lo ca cp pg H.size 0 1 0 0 (-9) 1 0 1) kv_X3_68 (⟨Nat.le_of_ble_eq_true rfl, Nat.le_of_ble_eq_true rfl⟩) (q0 := 14) (ci := 3) rfl rfl rfl [14] [0, 1, 2, 3, 4, 5, 6, 7, 8, 9, 10, 11, 12, 13] rfl rfl (by decide) hl.1 (Nat.le_of_ble_eq_true rfl) dX3_read_110 (⟨Nat.le_of_ble_eq_true rfl, Nat.le_of_ble_eq_true rfl⟩) rfl (fun u3 H locs e4 _ hP hD hS => ?_)
  obtain ⟨h9, -⟩ | ⟨-, e41⟩ := e4
  case inl => exact absurd h9 (by decide)
  subst e41
  have hP : va_P D vwCl [tT tk q (nI 3) (nI 1001) (nI 1), tA g q 3003 f, tT cp qp (nI 1) (nI 80) (nI 80), tA g qp 80 (us 0), tT t0 q0 (nI 12) (nI 80) 0, tT t1 q1 (nI 5) (nI 1000) 0, tT t2 q2 (nI 5) (nI 112) 0, tT t3 q3 (nI 1) (nI 16) (nI 7), tA g q3 16 (us 1), tT lo ql (nI 1) (nI 6) 0, tT ca qc (nI 1) (nI 6) 0, (pg, .inr (2, [.ref t0, .ref t1, .ref t2, .ref t3, .ref t4])), tT t4 q4 (nI 2) (nI 8) (nI 1), tA g q4 16 (upd fb 0 (-9)), (h, .inr (3, [.ref tk, .ref lo, .ref ca, .ref cp, .ref pg, .int 0, .int 1, .int 0, .int 0, .int (-9), .int 1, .int 0]))] H := hP
  have hD : va_D A [tT tk q (nI 3) (nI 1001) (nI 1), tA g q 3003 f, tT cp qp (nI 1) (nI 80) (nI 80), tA g qp 80 (us 0), tT t0 q0 (nI 12) (nI 80) 0, tT t1 q1 (nI 5) (nI 1000) 0, tT t2 q2 (nI 5) (nI 112) 0, tT t3 q3 (nI 1) (nI 16) (nI 7), tA g q3 16 (us 1), tT lo ql (nI 1) (nI 6) 0, tT ca qc (nI 1) (nI 6) 0, (pg, .inr (2, [.ref t0, .ref t1, .ref t2, .ref t3, .ref t4])), tT t4 q4 (nI 2) (nI 8) (nI 1), tA g q4 16 (upd fb 0 (-9)), (h, .inr (3, [.ref tk, .ref lo, .ref ca, .ref cp, .ref pg, .int 0, .int 1, .int 0, .int 0, .int (-9), .int 1, .int 0]))] := hD
  refine lv_aload_n hx hb dX3_read_113 rfl (lv_at hl 3 rfl) ?_
  refine vz_Vv (wr := [tT tk q (nI 3) (nI 1001) (nI 1), tA g q 3003 f, tT cp qp (nI 1) (nI 80) (nI 80), tA g qp 80 (us 0), tT t1 q1 (nI 5) (nI 1000) 0, tT t2 q2 (nI 5) (nI 112) 0, tT t3 q3 (nI 1) (nI 16) (nI 7), tA g q3 16 (us 1), tT lo ql (nI 1) (nI 6) 0, tT ca qc (nI 1) (nI 6) 0, tT t4 q4 (nI 2) (nI 8) (nI 1), tA g q4 16 (upd fb 0 (-9))]) (As := []) (rest := []) hx hb hml hown hts hK hA hP hD hS (c_R_checkCalls0 l D g h tk lo ca cp pg t0 t1 t2 t3 t4 q0 H.size 0 1 0 0 (-9) 1 0) kv_X3_71 (⟨Nat.le_of_ble_eq_true rfl, Nat.le_of_ble_eq_true rfl⟩) (q0 := 14) (ci := 3) rfl rfl rfl [14, 11, 4] [0, 1, 2, 3, 5, 6, 7, 8, 9, 10, 12, 13] rfl rfl (by decide) hl.1 (Nat.le_of_ble_eq_true rfl) dX3_read_114 (⟨Nat.le_of_ble_eq_true rfl, Nat.le_of_ble_eq_true rfl⟩) rfl (fun _ H locs _ _ hP hD hS => ?_)
  have hP : va_P D vwCl [tT tk q (nI 3) (nI 1001) (nI 1), tA g q 3003 f, tT cp qp (nI 1) (nI 80) (nI 80), tA g qp 80 (us 0), tT t1 q1 (nI 5) (nI 1000) 0, tT t2 q2 (nI 5) (nI 112) 0, tT t3 q3 (nI 1) (nI 16) (nI 7), tA g q3 16 (us 1), tT lo ql (nI 1) (nI 6) 0, tT ca qc (nI 1) (nI 6) 0, tT t4 q4 (nI 2) (nI 8) (nI 1), tA g q4 16 (upd fb 0 (-9)), (h, .inr (3, [.ref tk, .ref lo, .ref ca, .ref cp, .ref pg, .int 0, .int 1, .int 0, .int 0, .int (-9), .int 1, .int 0])), (pg, .inr (2, [.ref t0, .ref t1, .ref t2, .ref t3, .ref t4])), tT t0 q0 (nI 12) (nI 80) 0] H := hP
  have hD : va_D A [tT tk q (nI 3) (nI 1001) (nI 1), tA g q 3003 f, tT cp qp (nI 1) (nI 80) (nI 80), tA g qp 80 (us 0), tT t1 q1 (nI 5) (nI 1000) 0, tT t2 q2 (nI 5) (nI 112) 0, tT t3 q3 (nI 1) (nI 16) (nI 7), tA g q3 16 (us 1), tT lo ql (nI 1) (nI 6) 0, tT ca qc (nI 1) (nI 6) 0, tT t4 q4 (nI 2) (nI 8) (nI 1), tA g q4 16 (upd fb 0 (-9)), (h, .inr (3, [.ref tk, .ref lo, .ref ca, .ref cp, .ref pg, .int 0, .int 1, .int 0, .int 0, .int (-9), .int 1, .int 0])), (pg, .inr (2, [.ref t0, .ref t1, .ref t2, .ref t3, .ref t4])), tT t0 q0 (nI 12) (nI 80) 0] := hD
  refine lv_aload_n hx hb dX3_read_117 rfl (lv_at hl 3 rfl) ?_
  refine va_get (D := D) (ci := 3) (v := .int 1) (C := RX3) (T := TX3) (N := 12) hx hb hts inlX3 hown hK hP 12 rfl rfl 10 (by decide) (hts _ q445) (fun _ h => h) rfl dX3_read_118 ?_
  refine lv_if_ne (tgt := 146) hx hb dX3_read_121 (by decide) (fun _ => ?_) (fun h9 => absurd h9 (by decide))
  exact vz_vret hx hb hr hlk hK hP hD hS (()) (trivial) [12] rfl (by decide) (Nat.le_refl 0) (Nat.le_refl 0) dX3_read_146
end
section
theorem q10 : Cond.methodLink RX9 1 objectInit ∈ wsL_law := mT_1 (List.mem_of_getElem? (i := 23) rfl) rfl
theorem q13 : Cond.classLink RX9 7 RX6 ∈ wsL_law := mT_1 (List.mem_of_getElem? (i := 26) rfl) rfl
theorem q60 : Cond.methodLink RX9 11 yX6_init ∈ wsL_law := mT_1 (List.mem_of_getElem? (i := 28) rfl) rfl
theorem ki_X9_11 : vz_ci RX9 11 yX6_init cX6_init 3 2 := ⟨q60, q61, q15, q62, by decide +kernel⟩
theorem q16 : Cond.fieldLink RX9 14 "WaysAtlas" "text" "LWaysAtlas$Table;" ∈ wsL_law := mT_2 (List.mem_of_getElem? (i := 138) rfl) rfl
theorem q17 : Cond.classLink RX9 18 RX5 ∈ wsL_law := mT_1 (List.mem_of_getElem? (i := 56) rfl) rfl
theorem q18 : Cond.instantiable RX5 2 ∈ wsL_law := mT_1 (List.mem_of_getElem? (i := 57) rfl) rfl
theorem q73 : Cond.methodLink RX9 20 yX5_init ∈ wsL_law := mT_1 (List.mem_of_getElem? (i := 58) rfl) rfl
theorem q74 : Cond.instanceMethod yX5_init ∈ wsL_law := mT_1 (List.mem_of_getElem? (i := 59) rfl) rfl
theorem q75 : Cond.code yX5_init cX5_init 1 none ∈ wsL_law := mT_1 (List.mem_of_getElem? (i := 60) rfl) rfl
theorem ki_X9_20 : vz_ci RX9 20 yX5_init cX5_init 1 0 := ⟨q73, q74, q19, q75, by decide +kernel⟩
theorem q20 : Cond.fieldLink RX9 21 "WaysAtlas" "scanner" "LWaysAtlas$Scanner;" ∈ wsL_law := mT_2 (List.mem_of_getElem? (i := 139) rfl) rfl
theorem q21 : Cond.classLink RX9 25 RX2 ∈ wsL_law := mT_1 (List.mem_of_getElem? (i := 72) rfl) rfl
theorem q22 : Cond.instantiable RX2 5 ∈ wsL_law := mT_1 (List.mem_of_getElem? (i := 73) rfl) rfl
theorem q81 : Cond.methodLink RX9 27 yX2_init ∈ wsL_law := mT_1 (List.mem_of_getElem? (i := 74) rfl) rfl
theorem q82 : Cond.instanceMethod yX2_init ∈ wsL_law := mT_1 (List.mem_of_getElem? (i := 75) rfl) rfl
theorem q83 : Cond.code yX2_init cX2_init 1 none ∈ wsL_law := mT_1 (List.mem_of_getElem? (i := 76) rfl) rfl
theorem ki_X9_27 : vz_ci RX9 27 yX2_init cX2_init 1 0 := ⟨q81, q82, q23, q83, by decide +kernel⟩
theorem q24 : Cond.fieldLink RX9 28 "WaysAtlas" "present" "LWaysAtlas$Program;" ∈ wsL_law := mT_2 (List.mem_of_getElem? (i := 152) rfl) rfl
theorem q25 : Cond.fieldLink RX9 32 "WaysAtlas" "spare" "LWaysAtlas$Program;" ∈ wsL_law := mT_2 (List.mem_of_getElem? (i := 153) rfl) rfl
theorem q26 : Cond.classLink RX9 35 RX3 ∈ wsL_law := mT_1 (List.mem_of_getElem? (i := 116) rfl) rfl
theorem q27 : Cond.instantiable RX3 12 ∈ wsL_law := mT_1 (List.mem_of_getElem? (i := 117) rfl) rfl
theorem q29 : Cond.fieldLink RX9 37 "WaysAtlas$Scanner" "tokens" "LWaysAtlas$Table;" ∈ wsL_law := mT_1 (List.mem_of_getElem? (i := 65) rfl) rfl
theorem q92 : Cond.methodLink RX9 40 yX3_init ∈ wsL_law := mT_1 (List.mem_of_getElem? (i := 118) rfl) rfl
theorem q93 : Cond.instanceMethod yX3_init ∈ wsL_law := mT_1 (List.mem_of_getElem? (i := 119) rfl) rfl
theorem q94 : Cond.code yX3_init cX3_init 3 none ∈ wsL_law := mT_1 (List.mem_of_getElem? (i := 120) rfl) rfl
theorem ki_X9_40 : vz_ci RX9 40 yX3_init cX3_init 3 2 := ⟨q92, q93, q28, q94, by decide +kernel⟩
theorem q30 : Cond.fieldLink RX9 43 "WaysAtlas" "reader" "LWaysAtlas$Reader;" ∈ wsL_law := mT_2 (List.mem_of_getElem? (i := 140) rfl) rfl
theorem q31 : Cond.classLink RX9 47 RX0 ∈ wsL_law := mT_1 (List.mem_of_getElem? (i := 163) rfl) rfl
theorem q32 : Cond.instantiable RX0 8 ∈ wsL_law := mT_1 (List.mem_of_getElem? (i := 164) rfl) rfl
theorem q33 : Cond.initialized RX0 ∈ wsL_law := mT_1 (List.mem_of_getElem? (i := 7) rfl) rfl
theorem q104 : Cond.methodLink RX9 49 yX0_init ∈ wsL_law := mT_1 (List.mem_of_getElem? (i := 165) rfl) rfl
theorem q105 : Cond.instanceMethod yX0_init ∈ wsL_law := mT_1 (List.mem_of_getElem? (i := 166) rfl) rfl
theorem q106 : Cond.code yX0_init cX0_init 2 none ∈ wsL_law := mT_1 (List.mem_of_getElem? (i := 167) rfl) rfl
theorem ki_X9_49 : vz_ci RX9 49 yX0_init cX0_init 2 1 := ⟨q104, q105, q33, q106, by decide +kernel⟩
theorem q34 : Cond.fieldLink RX9 52 "WaysAtlas" "coder" "LWaysAtlas$Coder;" ∈ wsL_law := mT_2 (List.mem_of_getElem? (i := 141) rfl) rfl
theorem q35 : Cond.fieldLink RX9 56 "WaysAtlas" "plan" "LWaysAtlas$Table;" ∈ wsL_law := mT_2 (List.mem_of_getElem? (i := 145) rfl) rfl
theorem q36 : Cond.fieldLink RX9 59 "WaysAtlas" "alone" "LWaysAtlas$Table;" ∈ wsL_law := mT_2 (List.mem_of_getElem? (i := 146) rfl) rfl
theorem q37 : Cond.fieldLink RX9 62 "WaysAtlas" "outcomes" "LWaysAtlas$Table;" ∈ wsL_law := mT_2 (List.mem_of_getElem? (i := 147) rfl) rfl
theorem q38 : Cond.classLink RX9 65 RX4 ∈ wsL_law := mT_1 (List.mem_of_getElem? (i := 198) rfl) rfl
theorem q39 : Cond.instantiable RX4 12 ∈ wsL_law := mT_1 (List.mem_of_getElem? (i := 199) rfl) rfl
theorem q40 : Cond.initialized RX4 ∈ wsL_law := mT_1 (List.mem_of_getElem? (i := 8) rfl) rfl
theorem q114 : Cond.methodLink RX9 67 yX4_init ∈ wsL_law := mT_1 (List.mem_of_getElem? (i := 200) rfl) rfl
theorem q115 : Cond.instanceMethod yX4_init ∈ wsL_law := mT_1 (List.mem_of_getElem? (i := 201) rfl) rfl
theorem q116 : Cond.code yX4_init cX4_init 1 none ∈ wsL_law := mT_1 (List.mem_of_getElem? (i := 202) rfl) rfl
theorem ki_X9_67 : vz_ci RX9 67 yX4_init cX4_init 1 0 := ⟨q114, q115, q40, q116, by decide +kernel⟩
theorem q41 : Cond.fieldLink RX9 68 "WaysAtlas" "codeRun" "LWaysAtlas$RunRecord;" ∈ wsL_law := mT_2 (List.mem_of_getElem? (i := 148) rfl) rfl
theorem q42 : Cond.fieldLink RX9 72 "WaysAtlas" "treeRun" "LWaysAtlas$RunRecord;" ∈ wsL_law := mT_2 (List.mem_of_getElem? (i := 149) rfl) rfl
theorem q43 : Cond.fieldLink RX9 75 "WaysAtlas" "trial" "LWaysAtlas$RunRecord;" ∈ wsL_law := mT_2 (List.mem_of_getElem? (i := 150) rfl) rfl
theorem q44 : Cond.fieldLink RX9 78 "WaysAtlas" "secondTrial" "LWaysAtlas$RunRecord;" ∈ wsL_law := mT_2 (List.mem_of_getElem? (i := 151) rfl) rfl
theorem q45 : Cond.classLink RX9 81 RX8 ∈ wsL_law := mT_2 (List.mem_of_getElem? (i := 23) rfl) rfl
theorem q46 : Cond.instantiable RX8 11 ∈ wsL_law := mT_2 (List.mem_of_getElem? (i := 24) rfl) rfl
theorem q47 : Cond.initialized RX8 ∈ wsL_law := mT_1 (List.mem_of_getElem? (i := 9) rfl) rfl
theorem q126 : Cond.methodLink RX9 83 yX8_init ∈ wsL_law := mT_2 (List.mem_of_getElem? (i := 25) rfl) rfl
theorem q127 : Cond.instanceMethod yX8_init ∈ wsL_law := mT_2 (List.mem_of_getElem? (i := 26) rfl) rfl
theorem q128 : Cond.code yX8_init cX8_init 4 none ∈ wsL_law := mT_2 (List.mem_of_getElem? (i := 27) rfl) rfl
theorem ki_X9_83 : vz_ci RX9 83 yX8_init cX8_init 4 3 := ⟨q126, q127, q47, q128, by decide +kernel⟩
theorem q48 : Cond.fieldLink RX9 86 "WaysAtlas" "world" "LWaysAtlas$World;" ∈ wsL_law := mT_2 (List.mem_of_getElem? (i := 142) rfl) rfl
theorem q49 : Cond.classLink RX9 90 RX7 ∈ wsL_law := mT_2 (List.mem_of_getElem? (i := 80) rfl) rfl
theorem q50 : Cond.instantiable RX7 7 ∈ wsL_law := mT_2 (List.mem_of_getElem? (i := 81) rfl) rfl
theorem q51 : Cond.initialized RX7 ∈ wsL_law := mT_1 (List.mem_of_getElem? (i := 10) rfl) rfl
theorem q148 : Cond.methodLink RX9 92 yX7_init ∈ wsL_law := mT_2 (List.mem_of_getElem? (i := 82) rfl) rfl
theorem q149 : Cond.instanceMethod yX7_init ∈ wsL_law := mT_2 (List.mem_of_getElem? (i := 83) rfl) rfl
theorem q150 : Cond.code yX7_init cX7_init 2 none ∈ wsL_law := mT_2 (List.mem_of_getElem? (i := 84) rfl) rfl
theorem ki_X9_92 : vz_ci RX9 92 yX7_init cX7_init 2 1 := ⟨q148, q149, q51, q150, by decide +kernel⟩
theorem q52 : Cond.fieldLink RX9 95 "WaysAtlas" "walker" "LWaysAtlas$Walker;" ∈ wsL_law := mT_2 (List.mem_of_getElem? (i := 143) rfl) rfl
theorem q53 : Cond.classLink RX9 99 RX1 ∈ wsL_law := mT_2 (List.mem_of_getElem? (i := 108) rfl) rfl
theorem q54 : Cond.instantiable RX1 7 ∈ wsL_law := mT_2 (List.mem_of_getElem? (i := 109) rfl) rfl
theorem q55 : Cond.initialized RX1 ∈ wsL_law := mT_1 (List.mem_of_getElem? (i := 11) rfl) rfl
theorem q56 : Cond.fieldLink RX9 101 "WaysAtlas$Coder" "code" "LWaysAtlas$Table;" ∈ wsL_law := mT_1 (List.mem_of_getElem? (i := 172) rfl) rfl
theorem q57 : Cond.fieldLink RX9 104 "WaysAtlas$Coder" "handlers" "LWaysAtlas$Table;" ∈ wsL_law := mT_1 (List.mem_of_getElem? (i := 174) rfl) rfl
theorem q155 : Cond.methodLink RX9 107 yX1_init ∈ wsL_law := mT_2 (List.mem_of_getElem? (i := 110) rfl) rfl
theorem q156 : Cond.instanceMethod yX1_init ∈ wsL_law := mT_2 (List.mem_of_getElem? (i := 111) rfl) rfl
theorem q157 : Cond.code yX1_init cX1_init 4 none ∈ wsL_law := mT_2 (List.mem_of_getElem? (i := 112) rfl) rfl
theorem ki_X9_107 : vz_ci RX9 107 yX1_init cX1_init 4 3 := ⟨q155, q156, q55, q157, by decide +kernel⟩
theorem q58 : Cond.fieldLink RX9 110 "WaysAtlas" "machine" "LWaysAtlas$Machine;" ∈ wsL_law := mT_2 (List.mem_of_getElem? (i := 144) rfl) rfl
theorem q59 : Cond.fieldLink RX9 114 "WaysAtlas" "fault" "I" ∈ wsL_law := mT_2 (List.mem_of_getElem? (i := 154) rfl) rfl
theorem dX9_init_0 : decode cX9_init 0 = .ok (.aload_n 0, 1) := by decide +kernel
theorem dX9_init_1 : decode cX9_init 1 = .ok (.invokespecial 1, 3) := by decide +kernel
theorem dX9_init_4 : decode cX9_init 4 = .ok (.aload_n 0, 1) := by decide +kernel
theorem dX9_init_5 : decode cX9_init 5 = .ok (.new 7, 3) := by decide +kernel
theorem dX9_init_8 : decode cX9_init 8 = .ok (.dup, 1) := by decide +kernel
theorem dX9_init_9 : decode cX9_init 9 = .ok (.sipush 1000, 3) := by decide +kernel
theorem dX9_init_12 : decode cX9_init 12 = .ok (.iconst 1, 1) := by decide +kernel
theorem dX9_init_13 : decode cX9_init 13 = .ok (.invokespecial 11, 3) := by decide +kernel
theorem dX9_init_16 : decode cX9_init 16 = .ok (.putfield 14, 3) := by decide +kernel
theorem dX9_init_19 : decode cX9_init 19 = .ok (.aload_n 0, 1) := by decide +kernel
theorem dX9_init_20 : decode cX9_init 20 = .ok (.new 18, 3) := by decide +kernel
theorem dX9_init_23 : decode cX9_init 23 = .ok (.dup, 1) := by decide +kernel
theorem dX9_init_24 : decode cX9_init 24 = .ok (.invokespecial 20, 3) := by decide +kernel
theorem dX9_init_27 : decode cX9_init 27 = .ok (.putfield 21, 3) := by decide +kernel
theorem dX9_init_30 : decode cX9_init 30 = .ok (.aload_n 0, 1) := by decide +kernel
theorem dX9_init_31 : decode cX9_init 31 = .ok (.new 25, 3) := by decide +kernel
theorem dX9_init_34 : decode cX9_init 34 = .ok (.dup, 1) := by decide +kernel
theorem dX9_init_35 : decode cX9_init 35 = .ok (.invokespecial 27, 3) := by decide +kernel
theorem dX9_init_38 : decode cX9_init 38 = .ok (.putfield 28, 3) := by decide +kernel
theorem dX9_init_41 : decode cX9_init 41 = .ok (.aload_n 0, 1) := by decide +kernel
theorem dX9_init_42 : decode cX9_init 42 = .ok (.new 25, 3) := by decide +kernel
theorem dX9_init_45 : decode cX9_init 45 = .ok (.dup, 1) := by decide +kernel
theorem dX9_init_46 : decode cX9_init 46 = .ok (.invokespecial 27, 3) := by decide +kernel
theorem dX9_init_49 : decode cX9_init 49 = .ok (.putfield 32, 3) := by decide +kernel
theorem dX9_init_52 : decode cX9_init 52 = .ok (.aload_n 0, 1) := by decide +kernel
theorem dX9_init_53 : decode cX9_init 53 = .ok (.new 35, 3) := by decide +kernel
theorem dX9_init_56 : decode cX9_init 56 = .ok (.dup, 1) := by decide +kernel
theorem dX9_init_57 : decode cX9_init 57 = .ok (.aload_n 0, 1) := by decide +kernel
theorem dX9_init_58 : decode cX9_init 58 = .ok (.getfield 21, 3) := by decide +kernel
theorem dX9_init_61 : decode cX9_init 61 = .ok (.getfield 37, 3) := by decide +kernel
theorem dX9_init_64 : decode cX9_init 64 = .ok (.aload_n 0, 1) := by decide +kernel
theorem dX9_init_65 : decode cX9_init 65 = .ok (.getfield 32, 3) := by decide +kernel
theorem dX9_init_68 : decode cX9_init 68 = .ok (.invokespecial 40, 3) := by decide +kernel
theorem dX9_init_71 : decode cX9_init 71 = .ok (.putfield 43, 3) := by decide +kernel
theorem dX9_init_74 : decode cX9_init 74 = .ok (.aload_n 0, 1) := by decide +kernel
theorem dX9_init_75 : decode cX9_init 75 = .ok (.new 47, 3) := by decide +kernel
theorem dX9_init_78 : decode cX9_init 78 = .ok (.dup, 1) := by decide +kernel
theorem dX9_init_79 : decode cX9_init 79 = .ok (.aload_n 0, 1) := by decide +kernel
theorem dX9_init_80 : decode cX9_init 80 = .ok (.getfield 28, 3) := by decide +kernel
theorem dX9_init_83 : decode cX9_init 83 = .ok (.invokespecial 49, 3) := by decide +kernel
theorem dX9_init_86 : decode cX9_init 86 = .ok (.putfield 52, 3) := by decide +kernel
theorem dX9_init_89 : decode cX9_init 89 = .ok (.aload_n 0, 1) := by decide +kernel
theorem dX9_init_90 : decode cX9_init 90 = .ok (.new 7, 3) := by decide +kernel
theorem dX9_init_93 : decode cX9_init 93 = .ok (.dup, 1) := by decide +kernel
theorem dX9_init_94 : decode cX9_init 94 = .ok (.bipush 30, 2) := by decide +kernel
theorem dX9_init_96 : decode cX9_init 96 = .ok (.iconst 4, 1) := by decide +kernel
theorem dX9_init_97 : decode cX9_init 97 = .ok (.invokespecial 11, 3) := by decide +kernel
theorem dX9_init_100 : decode cX9_init 100 = .ok (.putfield 56, 3) := by decide +kernel
theorem dX9_init_103 : decode cX9_init 103 = .ok (.aload_n 0, 1) := by decide +kernel
theorem dX9_init_104 : decode cX9_init 104 = .ok (.new 7, 3) := by decide +kernel
theorem dX9_init_107 : decode cX9_init 107 = .ok (.dup, 1) := by decide +kernel
theorem dX9_init_108 : decode cX9_init 108 = .ok (.iconst 1, 1) := by decide +kernel
theorem dX9_init_109 : decode cX9_init 109 = .ok (.iconst 4, 1) := by decide +kernel
theorem dX9_init_110 : decode cX9_init 110 = .ok (.invokespecial 11, 3) := by decide +kernel
theorem dX9_init_113 : decode cX9_init 113 = .ok (.putfield 59, 3) := by decide +kernel
theorem dX9_init_116 : decode cX9_init 116 = .ok (.aload_n 0, 1) := by decide +kernel
theorem dX9_init_117 : decode cX9_init 117 = .ok (.new 7, 3) := by decide +kernel
theorem dX9_init_120 : decode cX9_init 120 = .ok (.dup, 1) := by decide +kernel
theorem dX9_init_121 : decode cX9_init 121 = .ok (.bipush 61, 2) := by decide +kernel
theorem dX9_init_123 : decode cX9_init 123 = .ok (.iconst 4, 1) := by decide +kernel
theorem dX9_init_124 : decode cX9_init 124 = .ok (.invokespecial 11, 3) := by decide +kernel
theorem dX9_init_127 : decode cX9_init 127 = .ok (.putfield 62, 3) := by decide +kernel
theorem dX9_init_130 : decode cX9_init 130 = .ok (.aload_n 0, 1) := by decide +kernel
theorem dX9_init_131 : decode cX9_init 131 = .ok (.new 65, 3) := by decide +kernel
theorem dX9_init_134 : decode cX9_init 134 = .ok (.dup, 1) := by decide +kernel
theorem dX9_init_135 : decode cX9_init 135 = .ok (.invokespecial 67, 3) := by decide +kernel
theorem dX9_init_138 : decode cX9_init 138 = .ok (.putfield 68, 3) := by decide +kernel
theorem dX9_init_141 : decode cX9_init 141 = .ok (.aload_n 0, 1) := by decide +kernel
theorem dX9_init_142 : decode cX9_init 142 = .ok (.new 65, 3) := by decide +kernel
theorem dX9_init_145 : decode cX9_init 145 = .ok (.dup, 1) := by decide +kernel
theorem dX9_init_146 : decode cX9_init 146 = .ok (.invokespecial 67, 3) := by decide +kernel
theorem dX9_init_149 : decode cX9_init 149 = .ok (.putfield 72, 3) := by decide +kernel
theorem dX9_init_152 : decode cX9_init 152 = .ok (.aload_n 0, 1) := by decide +kernel
theorem dX9_init_153 : decode cX9_init 153 = .ok (.new 65, 3) := by decide +kernel
theorem dX9_init_156 : decode cX9_init 156 = .ok (.dup, 1) := by decide +kernel
theorem dX9_init_157 : decode cX9_init 157 = .ok (.invokespecial 67, 3) := by decide +kernel
theorem dX9_init_160 : decode cX9_init 160 = .ok (.putfield 75, 3) := by decide +kernel
theorem dX9_init_163 : decode cX9_init 163 = .ok (.aload_n 0, 1) := by decide +kernel
theorem dX9_init_164 : decode cX9_init 164 = .ok (.new 65, 3) := by decide +kernel
theorem dX9_init_167 : decode cX9_init 167 = .ok (.dup, 1) := by decide +kernel
theorem dX9_init_168 : decode cX9_init 168 = .ok (.invokespecial 67, 3) := by decide +kernel
theorem dX9_init_171 : decode cX9_init 171 = .ok (.putfield 78, 3) := by decide +kernel
theorem dX9_init_174 : decode cX9_init 174 = .ok (.aload_n 0, 1) := by decide +kernel
theorem dX9_init_175 : decode cX9_init 175 = .ok (.new 81, 3) := by decide +kernel
theorem dX9_init_178 : decode cX9_init 178 = .ok (.dup, 1) := by decide +kernel
theorem dX9_init_179 : decode cX9_init 179 = .ok (.aload_n 0, 1) := by decide +kernel
theorem dX9_init_180 : decode cX9_init 180 = .ok (.getfield 28, 3) := by decide +kernel
theorem dX9_init_183 : decode cX9_init 183 = .ok (.aload_n 0, 1) := by decide +kernel
theorem dX9_init_184 : decode cX9_init 184 = .ok (.getfield 56, 3) := by decide +kernel
theorem dX9_init_187 : decode cX9_init 187 = .ok (.aload_n 0, 1) := by decide +kernel
theorem dX9_init_188 : decode cX9_init 188 = .ok (.getfield 68, 3) := by decide +kernel
theorem dX9_init_191 : decode cX9_init 191 = .ok (.invokespecial 83, 3) := by decide +kernel
theorem dX9_init_194 : decode cX9_init 194 = .ok (.putfield 86, 3) := by decide +kernel
theorem dX9_init_197 : decode cX9_init 197 = .ok (.aload_n 0, 1) := by decide +kernel
theorem dX9_init_198 : decode cX9_init 198 = .ok (.new 90, 3) := by decide +kernel
theorem dX9_init_201 : decode cX9_init 201 = .ok (.dup, 1) := by decide +kernel
theorem dX9_init_202 : decode cX9_init 202 = .ok (.aload_n 0, 1) := by decide +kernel
theorem dX9_init_203 : decode cX9_init 203 = .ok (.getfield 86, 3) := by decide +kernel
theorem dX9_init_206 : decode cX9_init 206 = .ok (.invokespecial 92, 3) := by decide +kernel
theorem dX9_init_209 : decode cX9_init 209 = .ok (.putfield 95, 3) := by decide +kernel
theorem dX9_init_212 : decode cX9_init 212 = .ok (.aload_n 0, 1) := by decide +kernel
theorem dX9_init_213 : decode cX9_init 213 = .ok (.new 99, 3) := by decide +kernel
theorem dX9_init_216 : decode cX9_init 216 = .ok (.dup, 1) := by decide +kernel
theorem dX9_init_217 : decode cX9_init 217 = .ok (.aload_n 0, 1) := by decide +kernel
theorem dX9_init_218 : decode cX9_init 218 = .ok (.getfield 86, 3) := by decide +kernel
theorem dX9_init_221 : decode cX9_init 221 = .ok (.aload_n 0, 1) := by decide +kernel
theorem dX9_init_222 : decode cX9_init 222 = .ok (.getfield 52, 3) := by decide +kernel
theorem dX9_init_225 : decode cX9_init 225 = .ok (.getfield 101, 3) := by decide +kernel
theorem dX9_init_228 : decode cX9_init 228 = .ok (.aload_n 0, 1) := by decide +kernel
theorem dX9_init_229 : decode cX9_init 229 = .ok (.getfield 52, 3) := by decide +kernel
theorem dX9_init_232 : decode cX9_init 232 = .ok (.getfield 104, 3) := by decide +kernel
theorem dX9_init_235 : decode cX9_init 235 = .ok (.invokespecial 107, 3) := by decide +kernel
theorem dX9_init_238 : decode cX9_init 238 = .ok (.putfield 110, 3) := by decide +kernel
theorem dX9_init_241 : decode cX9_init 241 = .ok (.aload_n 0, 1) := by decide +kernel
theorem dX9_init_242 : decode cX9_init 242 = .ok (.iconst 0, 1) := by decide +kernel
theorem dX9_init_243 : decode cX9_init 243 = .ok (.putfield 114, 3) := by decide +kernel
theorem dX9_init_246 : decode cX9_init 246 = .ok (.return_, 1) := by decide +kernel
set_option maxHeartbeats 4000000 in
set_option maxRecDepth 100000 in
theorem c_A_init (l : Launch) (D : va_G) (g : Nat → ClassId) (h sz : Nat) : vz_Mv l D (tyG g) yX9_init cX9_init 1 3 70 106 62616 [.ref h] sz [(h, .inr (9, [.null, .null, .null, .null, .null, .null, .null, .null, .null, .null, .null, .null, .null, .null, .null, .null, .int 0]))] (fun _ : Nat → Nat => True) (fun a => [(h, .inr (9, [.ref (a 0), .ref (a 2), .ref (a 5), .ref (a 27), .ref (a 28), .ref (a 29), .ref (a 30), .ref (a 24), .ref (a 31), .ref (a 32), .ref (a 25), .ref (a 26), .ref (a 33), .ref (a 34), .ref (a 18), .ref (a 10), .int 0])), tT (a 0) (a 1) (nI 1) (nI 1000) 0, tA g (a 1) 1000 (fun _ => 0), ((a 2), .inr (5, [.ref (a 3), .int 0])), tT (a 3) (a 4) (nI 3) (nI 1001) 0, tA g (a 4) 3003 (fun _ => 0), ((a 5), .inr (3, [.ref (a 3), .ref (a 6), .ref (a 7), .ref (a 8), .ref (a 10), .int 0, .int 0, .int 0, .int 0, .int (-9), .int 0, .int 0])), tT (a 6) (a 35) (nI 1) (nI 6) 0, tT (a 7) (a 36) (nI 1) (nI 6) 0, tT (a 8) (a 9) (nI 1) (nI 80) 0, tA g (a 9) 80 (fun _ => 0), ((a 10), .inr (2, [.ref (a 11), .ref (a 12), .ref (a 13), .ref (a 14), .ref (a 16)])), tT (a 11) (a 37) (nI 12) (nI 80) 0, tT (a 12) (a 38) (nI 5) (nI 1000) 0, tT (a 13) (a 39) (nI 5) (nI 112) 0, tT (a 14) (a 15) (nI 1) (nI 16) 0, tA g (a 15) 16 (fun _ => 0), tT (a 16) (a 17) (nI 2) (nI 8) 0, tA g (a 17) 16 (fun _ => 0), ((a 18), .inr (2, [.ref (a 19), .ref (a 22), .ref (a 20), .ref (a 23), .ref (a 21)])), tT (a 19) (a 40) (nI 12) (nI 80) 0, tT (a 20) (a 41) (nI 5) (nI 112) 0, tT (a 21) (a 42) (nI 2) (nI 8) 0, tT (a 24) (a 43) (nI 4) (nI 30) 0, ((a 25), .inr (4, [.ref (a 44), .ref (a 45), .ref (a 46), .ref (a 47), .ref (a 48), .int (-9), .int 0, .int 0, .int 0, .int 0, .int 0, .int 0])), ((a 26), .inr (4, [.ref (a 49), .ref (a 50), .ref (a 51), .ref (a 52), .ref (a 53), .int (-9), .int 0, .int 0, .int 0, .int 0, .int 0, .int 0]))]) := by
  refine vz_sv (by decide) (Nat.le_of_ble_eq_true rfl) (fun p e s m args below meth c hx hb hr hml hts hown hlk hin hK hsz A hA H locs hP hD hS ls hl => ?_)
  have hl : lv_has ls 1 [(0, .ref h)] := hl
  refine lv_aload_n hx hb dX9_init_0 rfl (lv_at hl 0 rfl) ?_
  refine W.objInit hx hb hown (hts _ q10) (hts _ q11) (hts _ q12) rfl (hl.1.trans hml.symm) rfl dX9_init_1 (Nat.le_of_ble_eq_true rfl) (Nat.le_of_ble_eq_true rfl) ?_
  refine W.eq (g2 := F0 m 4 ls []) rfl ?_
  refine lv_aload_n hx hb dX9_init_4 rfl (lv_at hl 0 rfl) ?_
  refine va_new (ci := 6) (fs := [.null, .int 0, .int 0, .int 0]) (C := RX6) (T := TX6) (N := 4) hx hb hts inlX6 tyX6 tyX6_ok hown (hts _ q13) (hts _ q14) (hts _ q15) hK hP hD hS hA rfl (lt_s (lt_s (lt_s (lt_s (lt_0) rfl) rfl) rfl) rfl) (Nat.le_of_ble_eq_true rfl) (Nat.le_of_ble_eq_true rfl) dX9_init_5 (fun qq1 H hP hD hS => ?_)
  refine W.cs (cells' := 1) (slots' := 4) rfl rfl ?_
  have hP : va_P D vwCl [(h, .inr (9, [.null, .null, .null, .null, .null, .null, .null, .null, .null, .null, .null, .null, .null, .null, .null, .null, .int 0])), (qq1, .inr (6, [.null, .int 0, .int 0, .int 0]))] H := hP
  have hD : va_D A [(h, .inr (9, [.null, .null, .null, .null, .null, .null, .null, .null, .null, .null, .null, .null, .null, .null, .null, .null, .int 0])), (qq1, .inr (6, [.null, .int 0, .int 0, .int 0]))] := hD
  refine lv_dup hx hb dX9_init_8 rfl ?_
  refine lv_sipush (v := 1000) hx hb dX9_init_9 (by decide) ?_
  refine lv_iconst (v := 1) hx hb dX9_init_12 (by decide) ?_
  refine vz_Iv (wr := [(h, .inr (9, [.null, .null, .null, .null, .null, .null, .null, .null, .null, .null, .null, .null, .null, .null, .null, .null, .int 0]))]) (As := [.int 1000, .int 1]) (rest := [.ref qq1, .ref h]) hx hb hml hown hts hK hA hP hD hS (c_T_init l D g qq1 H.size 1 1000 1000 (by decide +kernel)) ki_X9_11 (⟨Nat.le_of_ble_eq_true rfl, Nat.le_of_ble_eq_true rfl⟩) [1] [0] rfl rfl (by decide) hl.1 (Nat.le_of_ble_eq_true rfl) dX9_init_13 (⟨Nat.le_of_ble_eq_true rfl, Nat.le_of_ble_eq_true rfl⟩) rfl (fun aq2 H locs _ _ hP hD hS => ?_)
  refine W.cs (cells' := 2) (slots' := 1004) rfl rfl ?_
  have hP : va_P D vwCl [(h, .inr (9, [.null, .null, .null, .null, .null, .null, .null, .null, .null, .null, .null, .null, .null, .null, .null, .null, .int 0])), tT qq1 aq2 (nI 1) (nI 1000) 0, tA g aq2 1000 (fun _ => 0)] H := hP
  have hD : va_D A [(h, .inr (9, [.null, .null, .null, .null, .null, .null, .null, .null, .null, .null, .null, .null, .null, .null, .null, .null, .int 0])), tT qq1 aq2 (nI 1) (nI 1000) 0, tA g aq2 1000 (fun _ => 0)] := hD
  refine va_putF (D := D) (ci := 9) (v := .ref qq1) (ty := .object "WaysAtlas$Table") (C := RX9) (T := TX9) (N := 17) hx hb hts inlX9 tyX9 tyX9_ok nmX9 hown hK hP hD hS 0 rfl rfl 0 (by decide) (hts _ q16) (fun _ h => h) rfl hin rfl (by decide +kernel) rfl rfl (Nat.le_of_ble_eq_true rfl) dX9_init_16 (fun H locs hP hD hS => ?_)
  have hP : va_P D vwCl [(h, .inr (9, [.ref qq1, .null, .null, .null, .null, .null, .null, .null, .null, .null, .null, .null, .null, .null, .null, .null, .int 0])), tT qq1 aq2 (nI 1) (nI 1000) 0, tA g aq2 1000 (fun _ => 0)] H := hP
  have hD : va_D A [(h, .inr (9, [.ref qq1, .null, .null, .null, .null, .null, .null, .null, .null, .null, .null, .null, .null, .null, .null, .null, .int 0])), tT qq1 aq2 (nI 1) (nI 1000) 0, tA g aq2 1000 (fun _ => 0)] := hD
  refine lv_aload_n hx hb dX9_init_19 rfl (lv_at hl 0 rfl) ?_
  refine va_new (ci := 5) (fs := [.null, .int 0]) (C := RX5) (T := TX5) (N := 2) hx hb hts inlX5 tyX5 tyX5_ok hown (hts _ q17) (hts _ q18) (hts _ q19) hK hP hD hS hA rfl (lt_s (lt_s (lt_0) rfl) rfl) (Nat.le_of_ble_eq_true rfl) (Nat.le_of_ble_eq_true rfl) dX9_init_20 (fun qq3 H hP hD hS => ?_)
  refine W.cs (cells' := 3) (slots' := 1006) rfl rfl ?_
  have hP : va_P D vwCl [(h, .inr (9, [.ref qq1, .null, .null, .null, .null, .null, .null, .null, .null, .null, .null, .null, .null, .null, .null, .null, .int 0])), tT qq1 aq2 (nI 1) (nI 1000) 0, tA g aq2 1000 (fun _ => 0), (qq3, .inr (5, [.null, .int 0]))] H := hP
  have hD : va_D A [(h, .inr (9, [.ref qq1, .null, .null, .null, .null, .null, .null, .null, .null, .null, .null, .null, .null, .null, .null, .null, .int 0])), tT qq1 aq2 (nI 1) (nI 1000) 0, tA g aq2 1000 (fun _ => 0), (qq3, .inr (5, [.null, .int 0]))] := hD
  refine lv_dup hx hb dX9_init_23 rfl ?_
  refine vz_Iv (wr := [(h, .inr (9, [.ref qq1, .null, .null, .null, .null, .null, .null, .null, .null, .null, .null, .null, .null, .null, .null, .null, .int 0])), tT qq1 aq2 (nI 1) (nI 1000) 0, tA g aq2 1000 (fun _ => 0)]) (As := []) (rest := [.ref qq3, .ref h]) hx hb hml hown hts hK hA hP hD hS (c_S_init l D g qq3 H.size ) ki_X9_20 (⟨Nat.le_of_ble_eq_true rfl, Nat.le_of_ble_eq_true rfl⟩) [3] [0, 1, 2] rfl rfl (by decide) hl.1 (Nat.le_of_ble_eq_true rfl) dX9_init_24 (⟨Nat.le_of_ble_eq_true rfl, Nat.le_of_ble_eq_true rfl⟩) rfl (fun a4 H locs _ _ hP hD hS => ?_)
  refine W.cs (cells' := 5) (slots' := 4013) rfl rfl ?_
  have hP : va_P D vwCl [(h, .inr (9, [.ref qq1, .null, .null, .null, .null, .null, .null, .null, .null, .null, .null, .null, .null, .null, .null, .null, .int 0])), tT qq1 aq2 (nI 1) (nI 1000) 0, tA g aq2 1000 (fun _ => 0), (qq3, .inr (5, [.ref (a4 0), .int 0])), tT (a4 0) (a4 1) (nI 3) (nI 1001) 0, tA g (a4 1) 3003 (fun _ => 0)] H := hP
  have hD : va_D A [(h, .inr (9, [.ref qq1, .null, .null, .null, .null, .null, .null, .null, .null, .null, .null, .null, .null, .null, .null, .null, .int 0])), tT qq1 aq2 (nI 1) (nI 1000) 0, tA g aq2 1000 (fun _ => 0), (qq3, .inr (5, [.ref (a4 0), .int 0])), tT (a4 0) (a4 1) (nI 3) (nI 1001) 0, tA g (a4 1) 3003 (fun _ => 0)] := hD
  refine va_putF (D := D) (ci := 9) (v := .ref qq3) (ty := .object "WaysAtlas$Scanner") (C := RX9) (T := TX9) (N := 17) hx hb hts inlX9 tyX9 tyX9_ok nmX9 hown hK hP hD hS 0 rfl rfl 1 (by decide) (hts _ q20) (fun _ h => h) rfl hin rfl (by decide +kernel) rfl rfl (Nat.le_of_ble_eq_true rfl) dX9_init_27 (fun H locs hP hD hS => ?_)
  have hP : va_P D vwCl [(h, .inr (9, [.ref qq1, .ref qq3, .null, .null, .null, .null, .null, .null, .null, .null, .null, .null, .null, .null, .null, .null, .int 0])), tT qq1 aq2 (nI 1) (nI 1000) 0, tA g aq2 1000 (fun _ => 0), (qq3, .inr (5, [.ref (a4 0), .int 0])), tT (a4 0) (a4 1) (nI 3) (nI 1001) 0, tA g (a4 1) 3003 (fun _ => 0)] H := hP
  have hD : va_D A [(h, .inr (9, [.ref qq1, .ref qq3, .null, .null, .null, .null, .null, .null, .null, .null, .null, .null, .null, .null, .null, .null, .int 0])), tT qq1 aq2 (nI 1) (nI 1000) 0, tA g aq2 1000 (fun _ => 0), (qq3, .inr (5, [.ref (a4 0), .int 0])), tT (a4 0) (a4 1) (nI 3) (nI 1001) 0, tA g (a4 1) 3003 (fun _ => 0)] := hD
  refine lv_aload_n hx hb dX9_init_30 rfl (lv_at hl 0 rfl) ?_
  refine va_new (ci := 2) (fs := [.null, .null, .null, .null, .null]) (C := RX2) (T := TX2) (N := 5) hx hb hts inlX2 tyX2 tyX2_ok hown (hts _ q21) (hts _ q22) (hts _ q23) hK hP hD hS hA rfl (lt_s (lt_s (lt_s (lt_s (lt_s (lt_0) rfl) rfl) rfl) rfl) rfl) (Nat.le_of_ble_eq_true rfl) (Nat.le_of_ble_eq_true rfl) dX9_init_31 (fun qq5 H hP hD hS => ?_)
  refine W.cs (cells' := 6) (slots' := 4018) rfl rfl ?_
  have hP : va_P D vwCl [(h, .inr (9, [.ref qq1, .ref qq3, .null, .null, .null, .null, .null, .null, .null, .null, .null, .null, .null, .null, .null, .null, .int 0])), tT qq1 aq2 (nI 1) (nI 1000) 0, tA g aq2 1000 (fun _ => 0), (qq3, .inr (5, [.ref (a4 0), .int 0])), tT (a4 0) (a4 1) (nI 3) (nI 1001) 0, tA g (a4 1) 3003 (fun _ => 0), (qq5, .inr (2, [.null, .null, .null, .null, .null]))] H := hP
  have hD : va_D A [(h, .inr (9, [.ref qq1, .ref qq3, .null, .null, .null, .null, .null, .null, .null, .null, .null, .null, .null, .null, .null, .null, .int 0])), tT qq1 aq2 (nI 1) (nI 1000) 0, tA g aq2 1000 (fun _ => 0), (qq3, .inr (5, [.ref (a4 0), .int 0])), tT (a4 0) (a4 1) (nI 3) (nI 1001) 0, tA g (a4 1) 3003 (fun _ => 0), (qq5, .inr (2, [.null, .null, .null, .null, .null]))] := hD
  refine lv_dup hx hb dX9_init_34 rfl ?_
  refine vz_Iv (wr := [(h, .inr (9, [.ref qq1, .ref qq3, .null, .null, .null, .null, .null, .null, .null, .null, .null, .null, .null, .null, .null, .null, .int 0])), tT qq1 aq2 (nI 1) (nI 1000) 0, tA g aq2 1000 (fun _ => 0), (qq3, .inr (5, [.ref (a4 0), .int 0])), tT (a4 0) (a4 1) (nI 3) (nI 1001) 0, tA g (a4 1) 3003 (fun _ => 0)]) (As := []) (rest := [.ref qq5, .ref h]) hx hb hml hown hts hK hA hP hD hS (c_P_init l D g qq5 H.size ) ki_X9_27 (⟨Nat.le_of_ble_eq_true rfl, Nat.le_of_ble_eq_true rfl⟩) [6] [0, 1, 2, 3, 4, 5] rfl rfl (by decide) hl.1 (Nat.le_of_ble_eq_true rfl) dX9_init_35 (⟨Nat.le_of_ble_eq_true rfl, Nat.le_of_ble_eq_true rfl⟩) rfl (fun a6 H locs _ _ hP hD hS => ?_)
  refine W.cs (cells' := 16) (slots' := 10590) rfl rfl ?_
  have hP : va_P D vwCl [(h, .inr (9, [.ref qq1, .ref qq3, .null, .null, .null, .null, .null, .null, .null, .null, .null, .null, .null, .null, .null, .null, .int 0])), tT qq1 aq2 (nI 1) (nI 1000) 0, tA g aq2 1000 (fun _ => 0), (qq3, .inr (5, [.ref (a4 0), .int 0])), tT (a4 0) (a4 1) (nI 3) (nI 1001) 0, tA g (a4 1) 3003 (fun _ => 0), (qq5, .inr (2, [.ref (a6 0), .ref (a6 2), .ref (a6 4), .ref (a6 6), .ref (a6 8)])), tT (a6 0) (a6 1) (nI 12) (nI 80) 0, tA g (a6 1) 960 (fun _ => 0), tT (a6 2) (a6 3) (nI 5) (nI 1000) 0, tA g (a6 3) 5000 (fun _ => 0), tT (a6 4) (a6 5) (nI 5) (nI 112) 0, tA g (a6 5) 560 (fun _ => 0), tT (a6 6) (a6 7) (nI 1) (nI 16) 0, tA g (a6 7) 16 (fun _ => 0), tT (a6 8) (a6 9) (nI 2) (nI 8) 0, tA g (a6 9) 16 (fun _ => 0)] H := hP
  have hD : va_D A [(h, .inr (9, [.ref qq1, .ref qq3, .null, .null, .null, .null, .null, .null, .null, .null, .null, .null, .null, .null, .null, .null, .int 0])), tT qq1 aq2 (nI 1) (nI 1000) 0, tA g aq2 1000 (fun _ => 0), (qq3, .inr (5, [.ref (a4 0), .int 0])), tT (a4 0) (a4 1) (nI 3) (nI 1001) 0, tA g (a4 1) 3003 (fun _ => 0), (qq5, .inr (2, [.ref (a6 0), .ref (a6 2), .ref (a6 4), .ref (a6 6), .ref (a6 8)])), tT (a6 0) (a6 1) (nI 12) (nI 80) 0, tA g (a6 1) 960 (fun _ => 0), tT (a6 2) (a6 3) (nI 5) (nI 1000) 0, tA g (a6 3) 5000 (fun _ => 0), tT (a6 4) (a6 5) (nI 5) (nI 112) 0, tA g (a6 5) 560 (fun _ => 0), tT (a6 6) (a6 7) (nI 1) (nI 16) 0, tA g (a6 7) 16 (fun _ => 0), tT (a6 8) (a6 9) (nI 2) (nI 8) 0, tA g (a6 9) 16 (fun _ => 0)] := hD
  have hP : va_P D vwCl [(h, .inr (9, [.ref qq1, .ref qq3, .null, .null, .null, .null, .null, .null, .null, .null, .null, .null, .null, .null, .null, .null, .int 0])), tT qq1 aq2 (nI 1) (nI 1000) 0, tA g aq2 1000 (fun _ => 0), (qq3, .inr (5, [.ref (a4 0), .int 0])), tT (a4 0) (a4 1) (nI 3) (nI 1001) 0, tA g (a4 1) 3003 (fun _ => 0), (qq5, .inr (2, [.ref (a6 0), .ref (a6 2), .ref (a6 4), .ref (a6 6), .ref (a6 8)])), tT (a6 0) (a6 1) (nI 12) (nI 80) 0, tT (a6 4) (a6 5) (nI 5) (nI 112) 0, tT (a6 8) (a6 9) (nI 2) (nI 8) 0] H := vz_pickP hP [0, 1, 2, 3, 4, 5, 6, 7, 11, 15] rfl
  have hD : va_D A [(h, .inr (9, [.ref qq1, .ref qq3, .null, .null, .null, .null, .null, .null, .null, .null, .null, .null, .null, .null, .null, .null, .int 0])), tT qq1 aq2 (nI 1) (nI 1000) 0, tA g aq2 1000 (fun _ => 0), (qq3, .inr (5, [.ref (a4 0), .int 0])), tT (a4 0) (a4 1) (nI 3) (nI 1001) 0, tA g (a4 1) 3003 (fun _ => 0), (qq5, .inr (2, [.ref (a6 0), .ref (a6 2), .ref (a6 4), .ref (a6 6), .ref (a6 8)])), tT (a6 0) (a6 1) (nI 12) (nI 80) 0, tT (a6 4) (a6 5) (nI 5) (nI 112) 0, tT (a6 8) (a6 9) (nI 2) (nI 8) 0] := hD.sub [0, 1, 2, 3, 4, 5, 6, 7, 11, 15] (by decide) rfl
  refine va_put (D := D) (ci := 9) (v := .ref qq5) (ty := .object "WaysAtlas$Program") (C := RX9) (T := TX9) (N := 17) hx hb hts inlX9 tyX9 tyX9_ok nmX9 hown hK hP hD hS 0 rfl rfl 14 (by decide) (hts _ q24) (fun _ h => h) rfl (by decide +kernel) rfl rfl (Nat.le_of_ble_eq_true rfl) dX9_init_38 (fun H locs hP hD hS => ?_)
  have hP : va_P D vwCl [(h, .inr (9, [.ref qq1, .ref qq3, .null, .null, .null, .null, .null, .null, .null, .null, .null, .null, .null, .null, .ref qq5, .null, .int 0])), tT qq1 aq2 (nI 1) (nI 1000) 0, tA g aq2 1000 (fun _ => 0), (qq3, .inr (5, [.ref (a4 0), .int 0])), tT (a4 0) (a4 1) (nI 3) (nI 1001) 0, tA g (a4 1) 3003 (fun _ => 0), (qq5, .inr (2, [.ref (a6 0), .ref (a6 2), .ref (a6 4), .ref (a6 6), .ref (a6 8)])), tT (a6 0) (a6 1) (nI 12) (nI 80) 0, tT (a6 4) (a6 5) (nI 5) (nI 112) 0, tT (a6 8) (a6 9) (nI 2) (nI 8) 0] H := hP
  have hD : va_D A [(h, .inr (9, [.ref qq1, .ref qq3, .null, .null, .null, .null, .null, .null, .null, .null, .null, .null, .null, .null, .ref qq5, .null, .int 0])), tT qq1 aq2 (nI 1) (nI 1000) 0, tA g aq2 1000 (fun _ => 0), (qq3, .inr (5, [.ref (a4 0), .int 0])), tT (a4 0) (a4 1) (nI 3) (nI 1001) 0, tA g (a4 1) 3003 (fun _ => 0), (qq5, .inr (2, [.ref (a6 0), .ref (a6 2), .ref (a6 4), .ref (a6 6), .ref (a6 8)])), tT (a6 0) (a6 1) (nI 12) (nI 80) 0, tT (a6 4) (a6 5) (nI 5) (nI 112) 0, tT (a6 8) (a6 9) (nI 2) (nI 8) 0] := hD
  refine lv_aload_n hx hb dX9_init_41 rfl (lv_at hl 0 rfl) ?_
  refine va_new (ci := 2) (fs := [.null, .null, .null, .null, .null]) (C := RX2) (T := TX2) (N := 5) hx hb hts inlX2 tyX2 tyX2_ok hown (hts _ q21) (hts _ q22) (hts _ q23) hK hP hD hS hA rfl (lt_s (lt_s (lt_s (lt_s (lt_s (lt_0) rfl) rfl) rfl) rfl) rfl) (Nat.le_of_ble_eq_true rfl) (Nat.le_of_ble_eq_true rfl) dX9_init_42 (fun qq7 H hP hD hS => ?_)
  refine W.cs (cells' := 17) (slots' := 10595) rfl rfl ?_
  have hP : va_P D vwCl [(h, .inr (9, [.ref qq1, .ref qq3, .null, .null, .null, .null, .null, .null, .null, .null, .null, .null, .null, .null, .ref qq5, .null, .int 0])), tT qq1 aq2 (nI 1) (nI 1000) 0, tA g aq2 1000 (fun _ => 0), (qq3, .inr (5, [.ref (a4 0), .int 0])), tT (a4 0) (a4 1) (nI 3) (nI 1001) 0, tA g (a4 1) 3003 (fun _ => 0), (qq5, .inr (2, [.ref (a6 0), .ref (a6 2), .ref (a6 4), .ref (a6 6), .ref (a6 8)])), tT (a6 0) (a6 1) (nI 12) (nI 80) 0, tT (a6 4) (a6 5) (nI 5) (nI 112) 0, tT (a6 8) (a6 9) (nI 2) (nI 8) 0, (qq7, .inr (2, [.null, .null, .null, .null, .null]))] H := hP
  have hD : va_D A [(h, .inr (9, [.ref qq1, .ref qq3, .null, .null, .null, .null, .null, .null, .null, .null, .null, .null, .null, .null, .ref qq5, .null, .int 0])), tT qq1 aq2 (nI 1) (nI 1000) 0, tA g aq2 1000 (fun _ => 0), (qq3, .inr (5, [.ref (a4 0), .int 0])), tT (a4 0) (a4 1) (nI 3) (nI 1001) 0, tA g (a4 1) 3003 (fun _ => 0), (qq5, .inr (2, [.ref (a6 0), .ref (a6 2), .ref (a6 4), .ref (a6 6), .ref (a6 8)])), tT (a6 0) (a6 1) (nI 12) (nI 80) 0, tT (a6 4) (a6 5) (nI 5) (nI 112) 0, tT (a6 8) (a6 9) (nI 2) (nI 8) 0, (qq7, .inr (2, [.null, .null, .null, .null, .null]))] := hD
  refine lv_dup hx hb dX9_init_45 rfl ?_
  refine vz_Iv (wr := [(h, .inr (9, [.ref qq1, .ref qq3, .null, .null, .null, .null, .null, .null, .null, .null, .null, .null, .null, .null, .ref qq5, .null, .int 0])), tT qq1 aq2 (nI 1) (nI 1000) 0, tA g aq2 1000 (fun _ => 0), (qq3, .inr (5, [.ref (a4 0), .int 0])), tT (a4 0) (a4 1) (nI 3) (nI 1001) 0, tA g (a4 1) 3003 (fun _ => 0), (qq5, .inr (2, [.ref (a6 0), .ref (a6 2), .ref (a6 4), .ref (a6 6), .ref (a6 8)])), tT (a6 0) (a6 1) (nI 12) (nI 80) 0, tT (a6 4) (a6 5) (nI 5) (nI 112) 0, tT (a6 8) (a6 9) (nI 2) (nI 8) 0]) (As := []) (rest := [.ref qq7, .ref h]) hx hb hml hown hts hK hA hP hD hS (c_P_init l D g qq7 H.size ) ki_X9_27 (⟨Nat.le_of_ble_eq_true rfl, Nat.le_of_ble_eq_true rfl⟩) [10] [0, 1, 2, 3, 4, 5, 6, 7, 8, 9] rfl rfl (by decide) hl.1 (Nat.le_of_ble_eq_true rfl) dX9_init_46 (⟨Nat.le_of_ble_eq_true rfl, Nat.le_of_ble_eq_true rfl⟩) rfl (fun a8 H locs _ _ hP hD hS => ?_)
  refine W.cs (cells' := 27) (slots' := 17167) rfl rfl ?_
  have hP : va_P D vwCl [(h, .inr (9, [.ref qq1, .ref qq3, .null, .null, .null, .null, .null, .null, .null, .null, .null, .null, .null, .null, .ref qq5, .null, .int 0])), tT qq1 aq2 (nI 1) (nI 1000) 0, tA g aq2 1000 (fun _ => 0), (qq3, .inr (5, [.ref (a4 0), .int 0])), tT (a4 0) (a4 1) (nI 3) (nI 1001) 0, tA g (a4 1) 3003 (fun _ => 0), (qq5, .inr (2, [.ref (a6 0), .ref (a6 2), .ref (a6 4), .ref (a6 6), .ref (a6 8)])), tT (a6 0) (a6 1) (nI 12) (nI 80) 0, tT (a6 4) (a6 5) (nI 5) (nI 112) 0, tT (a6 8) (a6 9) (nI 2) (nI 8) 0, (qq7, .inr (2, [.ref (a8 0), .ref (a8 2), .ref (a8 4), .ref (a8 6), .ref (a8 8)])), tT (a8 0) (a8 1) (nI 12) (nI 80) 0, tA g (a8 1) 960 (fun _ => 0), tT (a8 2) (a8 3) (nI 5) (nI 1000) 0, tA g (a8 3) 5000 (fun _ => 0), tT (a8 4) (a8 5) (nI 5) (nI 112) 0, tA g (a8 5) 560 (fun _ => 0), tT (a8 6) (a8 7) (nI 1) (nI 16) 0, tA g (a8 7) 16 (fun _ => 0), tT (a8 8) (a8 9) (nI 2) (nI 8) 0, tA g (a8 9) 16 (fun _ => 0)] H := hP
  have hD : va_D A [(h, .inr (9, [.ref qq1, .ref qq3, .null, .null, .null, .null, .null, .null, .null, .null, .null, .null, .null, .null, .ref qq5, .null, .int 0])), tT qq1 aq2 (nI 1) (nI 1000) 0, tA g aq2 1000 (fun _ => 0), (qq3, .inr (5, [.ref (a4 0), .int 0])), tT (a4 0) (a4 1) (nI 3) (nI 1001) 0, tA g (a4 1) 3003 (fun _ => 0), (qq5, .inr (2, [.ref (a6 0), .ref (a6 2), .ref (a6 4), .ref (a6 6), .ref (a6 8)])), tT (a6 0) (a6 1) (nI 12) (nI 80) 0, tT (a6 4) (a6 5) (nI 5) (nI 112) 0, tT (a6 8) (a6 9) (nI 2) (nI 8) 0, (qq7, .inr (2, [.ref (a8 0), .ref (a8 2), .ref (a8 4), .ref (a8 6), .ref (a8 8)])), tT (a8 0) (a8 1) (nI 12) (nI 80) 0, tA g (a8 1) 960 (fun _ => 0), tT (a8 2) (a8 3) (nI 5) (nI 1000) 0, tA g (a8 3) 5000 (fun _ => 0), tT (a8 4) (a8 5) (nI 5) (nI 112) 0, tA g (a8 5) 560 (fun _ => 0), tT (a8 6) (a8 7) (nI 1) (nI 16) 0, tA g (a8 7) 16 (fun _ => 0), tT (a8 8) (a8 9) (nI 2) (nI 8) 0, tA g (a8 9) 16 (fun _ => 0)] := hD
  have hP : va_P D vwCl [(h, .inr (9, [.ref qq1, .ref qq3, .null, .null, .null, .null, .null, .null, .null, .null, .null, .null, .null, .null, .ref qq5, .null, .int 0])), tT qq1 aq2 (nI 1) (nI 1000) 0, tA g aq2 1000 (fun _ => 0), (qq3, .inr (5, [.ref (a4 0), .int 0])), tT (a4 0) (a4 1) (nI 3) (nI 1001) 0, tA g (a4 1) 3003 (fun _ => 0), (qq5, .inr (2, [.ref (a6 0), .ref (a6 2), .ref (a6 4), .ref (a6 6), .ref (a6 8)])), tT (a6 0) (a6 1) (nI 12) (nI 80) 0, tT (a6 4) (a6 5) (nI 5) (nI 112) 0, tT (a6 8) (a6 9) (nI 2) (nI 8) 0, (qq7, .inr (2, [.ref (a8 0), .ref (a8 2), .ref (a8 4), .ref (a8 6), .ref (a8 8)])), tT (a8 0) (a8 1) (nI 12) (nI 80) 0, tT (a8 2) (a8 3) (nI 5) (nI 1000) 0, tT (a8 4) (a8 5) (nI 5) (nI 112) 0, tT (a8 6) (a8 7) (nI 1) (nI 16) 0, tA g (a8 7) 16 (fun _ => 0), tT (a8 8) (a8 9) (nI 2) (nI 8) 0, tA g (a8 9) 16 (fun _ => 0)] H := vz_pickP hP [0, 1, 2, 3, 4, 5, 6, 7, 8, 9, 10, 11, 13, 15, 17, 18, 19, 20] rfl
  have hD : va_D A [(h, .inr (9, [.ref qq1, .ref qq3, .null, .null, .null, .null, .null, .null, .null, .null, .null, .null, .null, .null, .ref qq5, .null, .int 0])), tT qq1 aq2 (nI 1) (nI 1000) 0, tA g aq2 1000 (fun _ => 0), (qq3, .inr (5, [.ref (a4 0), .int 0])), tT (a4 0) (a4 1) (nI 3) (nI 1001) 0, tA g (a4 1) 3003 (fun _ => 0), (qq5, .inr (2, [.ref (a6 0), .ref (a6 2), .ref (a6 4), .ref (a6 6), .ref (a6 8)])), tT (a6 0) (a6 1) (nI 12) (nI 80) 0, tT (a6 4) (a6 5) (nI 5) (nI 112) 0, tT (a6 8) (a6 9) (nI 2) (nI 8) 0, (qq7, .inr (2, [.ref (a8 0), .ref (a8 2), .ref (a8 4), .ref (a8 6), .ref (a8 8)])), tT (a8 0) (a8 1) (nI 12) (nI 80) 0, tT (a8 2) (a8 3) (nI 5) (nI 1000) 0, tT (a8 4) (a8 5) (nI 5) (nI 112) 0, tT (a8 6) (a8 7) (nI 1) (nI 16) 0, tA g (a8 7) 16 (fun _ => 0), tT (a8 8) (a8 9) (nI 2) (nI 8) 0, tA g (a8 9) 16 (fun _ => 0)] := hD.sub [0, 1, 2, 3, 4, 5, 6, 7, 8, 9, 10, 11, 13, 15, 17, 18, 19, 20] (by decide) rfl
  refine va_put (D := D) (ci := 9) (v := .ref qq7) (ty := .object "WaysAtlas$Program") (C := RX9) (T := TX9) (N := 17) hx hb hts inlX9 tyX9 tyX9_ok nmX9 hown hK hP hD hS 0 rfl rfl 15 (by decide) (hts _ q25) (fun _ h => h) rfl (by decide +kernel) rfl rfl (Nat.le_of_ble_eq_true rfl) dX9_init_49 (fun H locs hP hD hS => ?_)
  have hP : va_P D vwCl [(h, .inr (9, [.ref qq1, .ref qq3, .null, .null, .null, .null, .null, .null, .null, .null, .null, .null, .null, .null, .ref qq5, .ref qq7, .int 0])), tT qq1 aq2 (nI 1) (nI 1000) 0, tA g aq2 1000 (fun _ => 0), (qq3, .inr (5, [.ref (a4 0), .int 0])), tT (a4 0) (a4 1) (nI 3) (nI 1001) 0, tA g (a4 1) 3003 (fun _ => 0), (qq5, .inr (2, [.ref (a6 0), .ref (a6 2), .ref (a6 4), .ref (a6 6), .ref (a6 8)])), tT (a6 0) (a6 1) (nI 12) (nI 80) 0, tT (a6 4) (a6 5) (nI 5) (nI 112) 0, tT (a6 8) (a6 9) (nI 2) (nI 8) 0, (qq7, .inr (2, [.ref (a8 0), .ref (a8 2), .ref (a8 4), .ref (a8 6), .ref (a8 8)])), tT (a8 0) (a8 1) (nI 12) (nI 80) 0, tT (a8 2) (a8 3) (nI 5) (nI 1000) 0, tT (a8 4) (a8 5) (nI 5) (nI 112) 0, tT (a8 6) (a8 7) (nI 1) (nI 16) 0, tA g (a8 7) 16 (fun _ => 0), tT (a8 8) (a8 9) (nI 2) (nI 8) 0, tA g (a8 9) 16 (fun _ => 0)] H := hP
  have hD : va_D A [(h, .inr (9, [.ref qq1, .ref qq3, .null, .null, .null, .null, .null, .null, .null, .null, .null, .null, .null, .null, .ref qq5, .ref qq7, .int 0])), tT qq1 aq2 (nI 1) (nI 1000) 0, tA g aq2 1000 (fun _ => 0), (qq3, .inr (5, [.ref (a4 0), .int 0])), tT (a4 0) (a4 1) (nI 3) (nI 1001) 0, tA g (a4 1) 3003 (fun _ => 0), (qq5, .inr (2, [.ref (a6 0), .ref (a6 2), .ref (a6 4), .ref (a6 6), .ref (a6 8)])), tT (a6 0) (a6 1) (nI 12) (nI 80) 0, tT (a6 4) (a6 5) (nI 5) (nI 112) 0, tT (a6 8) (a6 9) (nI 2) (nI 8) 0, (qq7, .inr (2, [.ref (a8 0), .ref (a8 2), .ref (a8 4), .ref (a8 6), .ref (a8 8)])), tT (a8 0) (a8 1) (nI 12) (nI 80) 0, tT (a8 2) (a8 3) (nI 5) (nI 1000) 0, tT (a8 4) (a8 5) (nI 5) (nI 112) 0, tT (a8 6) (a8 7) (nI 1) (nI 16) 0, tA g (a8 7) 16 (fun _ => 0), tT (a8 8) (a8 9) (nI 2) (nI 8) 0, tA g (a8 9) 16 (fun _ => 0)] := hD
  refine lv_aload_n hx hb dX9_init_52 rfl (lv_at hl 0 rfl) ?_
  refine va_new (ci := 3) (fs := [.null, .null, .null, .null, .null, .int 0, .int 0, .int 0, .int 0, .int 0, .int 0, .int 0]) (C := RX3) (T := TX3) (N := 12) hx hb hts inlX3 tyX3 tyX3_ok hown (hts _ q26) (hts _ q27) (hts _ q28) hK hP hD hS hA rfl (lt_s (lt_s (lt_s (lt_s (lt_s (lt_s (lt_s (lt_s (lt_s (lt_s (lt_s (lt_s (lt_0) rfl) rfl) rfl) rfl) rfl) rfl) rfl) rfl) rfl) rfl) rfl) rfl) (Nat.le_of_ble_eq_true rfl) (Nat.le_of_ble_eq_true rfl) dX9_init_53 (fun qq9 H hP hD hS => ?_)
  refine W.cs (cells' := 28) (slots' := 17179) rfl rfl ?_
  have hP : va_P D vwCl [(h, .inr (9, [.ref qq1, .ref qq3, .null, .null, .null, .null, .null, .null, .null, .null, .null, .null, .null, .null, .ref qq5, .ref qq7, .int 0])), tT qq1 aq2 (nI 1) (nI 1000) 0, tA g aq2 1000 (fun _ => 0), (qq3, .inr (5, [.ref (a4 0), .int 0])), tT (a4 0) (a4 1) (nI 3) (nI 1001) 0, tA g (a4 1) 3003 (fun _ => 0), (qq5, .inr (2, [.ref (a6 0), .ref (a6 2), .ref (a6 4), .ref (a6 6), .ref (a6 8)])), tT (a6 0) (a6 1) (nI 12) (nI 80) 0, tT (a6 4) (a6 5) (nI 5) (nI 112) 0, tT (a6 8) (a6 9) (nI 2) (nI 8) 0, (qq7, .inr (2, [.ref (a8 0), .ref (a8 2), .ref (a8 4), .ref (a8 6), .ref (a8 8)])), tT (a8 0) (a8 1) (nI 12) (nI 80) 0, tT (a8 2) (a8 3) (nI 5) (nI 1000) 0, tT (a8 4) (a8 5) (nI 5) (nI 112) 0, tT (a8 6) (a8 7) (nI 1) (nI 16) 0, tA g (a8 7) 16 (fun _ => 0), tT (a8 8) (a8 9) (nI 2) (nI 8) 0, tA g (a8 9) 16 (fun _ => 0), (qq9, .inr (3, [.null, .null, .null, .null, .null, .int 0, .int 0, .int 0, .int 0, .int 0, .int 0, .int 0]))] H := hP
  have hD : va_D A [(h, .inr (9, [.ref qq1, .ref qq3, .null, .null, .null, .null, .null, .null, .null, .null, .null, .null, .null, .null, .ref qq5, .ref qq7, .int 0])), tT qq1 aq2 (nI 1) (nI 1000) 0, tA g aq2 1000 (fun _ => 0), (qq3, .inr (5, [.ref (a4 0), .int 0])), tT (a4 0) (a4 1) (nI 3) (nI 1001) 0, tA g (a4 1) 3003 (fun _ => 0), (qq5, .inr (2, [.ref (a6 0), .ref (a6 2), .ref (a6 4), .ref (a6 6), .ref (a6 8)])), tT (a6 0) (a6 1) (nI 12) (nI 80) 0, tT (a6 4) (a6 5) (nI 5) (nI 112) 0, tT (a6 8) (a6 9) (nI 2) (nI 8) 0, (qq7, .inr (2, [.ref (a8 0), .ref (a8 2), .ref (a8 4), .ref (a8 6), .ref (a8 8)])), tT (a8 0) (a8 1) (nI 12) (nI 80) 0, tT (a8 2) (a8 3) (nI 5) (nI 1000) 0, tT (a8 4) (a8 5) (nI 5) (nI 112) 0, tT (a8 6) (a8 7) (nI 1) (nI 16) 0, tA g (a8 7) 16 (fun _ => 0), tT (a8 8) (a8 9) (nI 2) (nI 8) 0, tA g (a8 9) 16 (fun _ => 0), (qq9, .inr (3, [.null, .null, .null, .null, .null, .int 0, .int 0, .int 0, .int 0, .int 0, .int 0, .int 0]))] := hD
  refine lv_dup hx hb dX9_init_56 rfl ?_
  refine lv_aload_n hx hb dX9_init_57 rfl (lv_at hl 0 rfl) ?_
  refine va_get (D := D) (ci := 9) (v := .ref qq3) (C := RX9) (T := TX9) (N := 17) hx hb hts inlX9 hown hK hP 0 rfl rfl 1 (by decide) (hts _ q20) (fun _ h => h) rfl dX9_init_58 ?_
  refine va_get (D := D) (ci := 5) (v := .ref (a4 0)) (C := RX5) (T := TX5) (N := 2) hx hb hts inlX5 hown hK hP 3 rfl rfl 0 (by decide) (hts _ q29) (fun _ h => h) rfl dX9_init_61 ?_
  refine lv_aload_n hx hb dX9_init_64 rfl (lv_at hl 0 rfl) ?_
  refine va_get (D := D) (ci := 9) (v := .ref qq7) (C := RX9) (T := TX9) (N := 17) hx hb hts inlX9 hown hK hP 0 rfl rfl 15 (by decide) (hts _ q25) (fun _ h => h) rfl dX9_init_65 ?_
  refine vz_Iv (wr := [(h, .inr (9, [.ref qq1, .ref qq3, .null, .null, .null, .null, .null, .null, .null, .null, .null, .null, .null, .null, .ref qq5, .ref qq7, .int 0])), tT qq1 aq2 (nI 1) (nI 1000) 0, tA g aq2 1000 (fun _ => 0), (qq3, .inr (5, [.ref (a4 0), .int 0])), tT (a4 0) (a4 1) (nI 3) (nI 1001) 0, tA g (a4 1) 3003 (fun _ => 0), (qq5, .inr (2, [.ref (a6 0), .ref (a6 2), .ref (a6 4), .ref (a6 6), .ref (a6 8)])), tT (a6 0) (a6 1) (nI 12) (nI 80) 0, tT (a6 4) (a6 5) (nI 5) (nI 112) 0, tT (a6 8) (a6 9) (nI 2) (nI 8) 0, (qq7, .inr (2, [.ref (a8 0), .ref (a8 2), .ref (a8 4), .ref (a8 6), .ref (a8 8)])), tT (a8 0) (a8 1) (nI 12) (nI 80) 0, tT (a8 2) (a8 3) (nI 5) (nI 1000) 0, tT (a8 4) (a8 5) (nI 5) (nI 112) 0, tT (a8 6) (a8 7) (nI 1) (nI 16) 0, tA g (a8 7) 16 (fun _ => 0), tT (a8 8) (a8 9) (nI 2) (nI 8) 0, tA g (a8 9) 16 (fun _ => 0)]) (As := [.ref (a4 0), .ref qq7]) (rest := [.ref qq9, .ref h]) hx hb hml hown hts hK hA hP hD hS (c_R_init l D g qq9 H.size (a4 0) qq7) ki_X9_40 (⟨Nat.le_of_ble_eq_true rfl, Nat.le_of_ble_eq_true rfl⟩) [18] [0, 1, 2, 3, 4, 5, 6, 7, 8, 9, 10, 11, 12, 13, 14, 15, 16, 17] rfl rfl (by decide) hl.1 (Nat.le_of_ble_eq_true rfl) dX9_init_68 (⟨Nat.le_of_ble_eq_true rfl, Nat.le_of_ble_eq_true rfl⟩) rfl (fun a10 H locs _ _ hP hD hS => ?_)
  refine W.cs (cells' := 34) (slots' := 17283) rfl rfl ?_
  have hP : va_P D vwCl [(h, .inr (9, [.ref qq1, .ref qq3, .null, .null, .null, .null, .null, .null, .null, .null, .null, .null, .null, .null, .ref qq5, .ref qq7, .int 0])), tT qq1 aq2 (nI 1) (nI 1000) 0, tA g aq2 1000 (fun _ => 0), (qq3, .inr (5, [.ref (a4 0), .int 0])), tT (a4 0) (a4 1) (nI 3) (nI 1001) 0, tA g (a4 1) 3003 (fun _ => 0), (qq5, .inr (2, [.ref (a6 0), .ref (a6 2), .ref (a6 4), .ref (a6 6), .ref (a6 8)])), tT (a6 0) (a6 1) (nI 12) (nI 80) 0, tT (a6 4) (a6 5) (nI 5) (nI 112) 0, tT (a6 8) (a6 9) (nI 2) (nI 8) 0, (qq7, .inr (2, [.ref (a8 0), .ref (a8 2), .ref (a8 4), .ref (a8 6), .ref (a8 8)])), tT (a8 0) (a8 1) (nI 12) (nI 80) 0, tT (a8 2) (a8 3) (nI 5) (nI 1000) 0, tT (a8 4) (a8 5) (nI 5) (nI 112) 0, tT (a8 6) (a8 7) (nI 1) (nI 16) 0, tA g (a8 7) 16 (fun _ => 0), tT (a8 8) (a8 9) (nI 2) (nI 8) 0, tA g (a8 9) 16 (fun _ => 0), (qq9, .inr (3, [.ref (a4 0), .ref (a10 0), .ref (a10 2), .ref (a10 4), .ref qq7, .int 0, .int 0, .int 0, .int 0, .int (-9), .int 0, .int 0])), tT (a10 0) (a10 1) (nI 1) (nI 6) 0, tA g (a10 1) 6 (fun _ => 0), tT (a10 2) (a10 3) (nI 1) (nI 6) 0, tA g (a10 3) 6 (fun _ => 0), tT (a10 4) (a10 5) (nI 1) (nI 80) 0, tA g (a10 5) 80 (fun _ => 0)] H := hP
  have hD : va_D A [(h, .inr (9, [.ref qq1, .ref qq3, .null, .null, .null, .null, .null, .null, .null, .null, .null, .null, .null, .null, .ref qq5, .ref qq7, .int 0])), tT qq1 aq2 (nI 1) (nI 1000) 0, tA g aq2 1000 (fun _ => 0), (qq3, .inr (5, [.ref (a4 0), .int 0])), tT (a4 0) (a4 1) (nI 3) (nI 1001) 0, tA g (a4 1) 3003 (fun _ => 0), (qq5, .inr (2, [.ref (a6 0), .ref (a6 2), .ref (a6 4), .ref (a6 6), .ref (a6 8)])), tT (a6 0) (a6 1) (nI 12) (nI 80) 0, tT (a6 4) (a6 5) (nI 5) (nI 112) 0, tT (a6 8) (a6 9) (nI 2) (nI 8) 0, (qq7, .inr (2, [.ref (a8 0), .ref (a8 2), .ref (a8 4), .ref (a8 6), .ref (a8 8)])), tT (a8 0) (a8 1) (nI 12) (nI 80) 0, tT (a8 2) (a8 3) (nI 5) (nI 1000) 0, tT (a8 4) (a8 5) (nI 5) (nI 112) 0, tT (a8 6) (a8 7) (nI 1) (nI 16) 0, tA g (a8 7) 16 (fun _ => 0), tT (a8 8) (a8 9) (nI 2) (nI 8) 0, tA g (a8 9) 16 (fun _ => 0), (qq9, .inr (3, [.ref (a4 0), .ref (a10 0), .ref (a10 2), .ref (a10 4), .ref qq7, .int 0, .int 0, .int 0, .int 0, .int (-9), .int 0, .int 0])), tT (a10 0) (a10 1) (nI 1) (nI 6) 0, tA g (a10 1) 6 (fun _ => 0), tT (a10 2) (a10 3) (nI 1) (nI 6) 0, tA g (a10 3) 6 (fun _ => 0), tT (a10 4) (a10 5) (nI 1) (nI 80) 0, tA g (a10 5) 80 (fun _ => 0)] := hD
  have hP : va_P D vwCl [(h, .inr (9, [.ref qq1, .ref qq3, .null, .null, .null, .null, .null, .null, .null, .null, .null, .null, .null, .null, .ref qq5, .ref qq7, .int 0])), tT qq1 aq2 (nI 1) (nI 1000) 0, tA g aq2 1000 (fun _ => 0), (qq3, .inr (5, [.ref (a4 0), .int 0])), tT (a4 0) (a4 1) (nI 3) (nI 1001) 0, tA g (a4 1) 3003 (fun _ => 0), (qq5, .inr (2, [.ref (a6 0), .ref (a6 2), .ref (a6 4), .ref (a6 6), .ref (a6 8)])), tT (a6 0) (a6 1) (nI 12) (nI 80) 0, tT (a6 4) (a6 5) (nI 5) (nI 112) 0, tT (a6 8) (a6 9) (nI 2) (nI 8) 0, (qq7, .inr (2, [.ref (a8 0), .ref (a8 2), .ref (a8 4), .ref (a8 6), .ref (a8 8)])), tT (a8 0) (a8 1) (nI 12) (nI 80) 0, tT (a8 2) (a8 3) (nI 5) (nI 1000) 0, tT (a8 4) (a8 5) (nI 5) (nI 112) 0, tT (a8 6) (a8 7) (nI 1) (nI 16) 0, tA g (a8 7) 16 (fun _ => 0), tT (a8 8) (a8 9) (nI 2) (nI 8) 0, tA g (a8 9) 16 (fun _ => 0), (qq9, .inr (3, [.ref (a4 0), .ref (a10 0), .ref (a10 2), .ref (a10 4), .ref qq7, .int 0, .int 0, .int 0, .int 0, .int (-9), .int 0, .int 0])), tT (a10 0) (a10 1) (nI 1) (nI 6) 0, tT (a10 2) (a10 3) (nI 1) (nI 6) 0, tT (a10 4) (a10 5) (nI 1) (nI 80) 0, tA g (a10 5) 80 (fun _ => 0)] H := vz_pickP hP [0, 1, 2, 3, 4, 5, 6, 7, 8, 9, 10, 11, 12, 13, 14, 15, 16, 17, 18, 19, 21, 23, 24] rfl
  have hD : va_D A [(h, .inr (9, [.ref qq1, .ref qq3, .null, .null, .null, .null, .null, .null, .null, .null, .null, .null, .null, .null, .ref qq5, .ref qq7, .int 0])), tT qq1 aq2 (nI 1) (nI 1000) 0, tA g aq2 1000 (fun _ => 0), (qq3, .inr (5, [.ref (a4 0), .int 0])), tT (a4 0) (a4 1) (nI 3) (nI 1001) 0, tA g (a4 1) 3003 (fun _ => 0), (qq5, .inr (2, [.ref (a6 0), .ref (a6 2), .ref (a6 4), .ref (a6 6), .ref (a6 8)])), tT (a6 0) (a6 1) (nI 12) (nI 80) 0, tT (a6 4) (a6 5) (nI 5) (nI 112) 0, tT (a6 8) (a6 9) (nI 2) (nI 8) 0, (qq7, .inr (2, [.ref (a8 0), .ref (a8 2), .ref (a8 4), .ref (a8 6), .ref (a8 8)])), tT (a8 0) (a8 1) (nI 12) (nI 80) 0, tT (a8 2) (a8 3) (nI 5) (nI 1000) 0, tT (a8 4) (a8 5) (nI 5) (nI 112) 0, tT (a8 6) (a8 7) (nI 1) (nI 16) 0, tA g (a8 7) 16 (fun _ => 0), tT (a8 8) (a8 9) (nI 2) (nI 8) 0, tA g (a8 9) 16 (fun _ => 0), (qq9, .inr (3, [.ref (a4 0), .ref (a10 0), .ref (a10 2), .ref (a10 4), .ref qq7, .int 0, .int 0, .int 0, .int 0, .int (-9), .int 0, .int 0])), tT (a10 0) (a10 1) (nI 1) (nI 6) 0, tT (a10 2) (a10 3) (nI 1) (nI 6) 0, tT (a10 4) (a10 5) (nI 1) (nI 80) 0, tA g (a10 5) 80 (fun _ => 0)] := hD.sub [0, 1, 2, 3, 4, 5, 6, 7, 8, 9, 10, 11, 12, 13, 14, 15, 16, 17, 18, 19, 21, 23, 24] (by decide) rfl
  refine va_putF (D := D) (ci := 9) (v := .ref qq9) (ty := .object "WaysAtlas$Reader") (C := RX9) (T := TX9) (N := 17) hx hb hts inlX9 tyX9 tyX9_ok nmX9 hown hK hP hD hS 0 rfl rfl 2 (by decide) (hts _ q30) (fun _ h => h) rfl hin rfl (by decide +kernel) rfl rfl (Nat.le_of_ble_eq_true rfl) dX9_init_71 (fun H locs hP hD hS => ?_)
  have hP : va_P D vwCl [(h, .inr (9, [.ref qq1, .ref qq3, .ref qq9, .null, .null, .null, .null, .null, .null, .null, .null, .null, .null, .null, .ref qq5, .ref qq7, .int 0])), tT qq1 aq2 (nI 1) (nI 1000) 0, tA g aq2 1000 (fun _ => 0), (qq3, .inr (5, [.ref (a4 0), .int 0])), tT (a4 0) (a4 1) (nI 3) (nI 1001) 0, tA g (a4 1) 3003 (fun _ => 0), (qq5, .inr (2, [.ref (a6 0), .ref (a6 2), .ref (a6 4), .ref (a6 6), .ref (a6 8)])), tT (a6 0) (a6 1) (nI 12) (nI 80) 0, tT (a6 4) (a6 5) (nI 5) (nI 112) 0, tT (a6 8) (a6 9) (nI 2) (nI 8) 0, (qq7, .inr (2, [.ref (a8 0), .ref (a8 2), .ref (a8 4), .ref (a8 6), .ref (a8 8)])), tT (a8 0) (a8 1) (nI 12) (nI 80) 0, tT (a8 2) (a8 3) (nI 5) (nI 1000) 0, tT (a8 4) (a8 5) (nI 5) (nI 112) 0, tT (a8 6) (a8 7) (nI 1) (nI 16) 0, tA g (a8 7) 16 (fun _ => 0), tT (a8 8) (a8 9) (nI 2) (nI 8) 0, tA g (a8 9) 16 (fun _ => 0), (qq9, .inr (3, [.ref (a4 0), .ref (a10 0), .ref (a10 2), .ref (a10 4), .ref qq7, .int 0, .int 0, .int 0, .int 0, .int (-9), .int 0, .int 0])), tT (a10 0) (a10 1) (nI 1) (nI 6) 0, tT (a10 2) (a10 3) (nI 1) (nI 6) 0, tT (a10 4) (a10 5) (nI 1) (nI 80) 0, tA g (a10 5) 80 (fun _ => 0)] H := hP
  have hD : va_D A [(h, .inr (9, [.ref qq1, .ref qq3, .ref qq9, .null, .null, .null, .null, .null, .null, .null, .null, .null, .null, .null, .ref qq5, .ref qq7, .int 0])), tT qq1 aq2 (nI 1) (nI 1000) 0, tA g aq2 1000 (fun _ => 0), (qq3, .inr (5, [.ref (a4 0), .int 0])), tT (a4 0) (a4 1) (nI 3) (nI 1001) 0, tA g (a4 1) 3003 (fun _ => 0), (qq5, .inr (2, [.ref (a6 0), .ref (a6 2), .ref (a6 4), .ref (a6 6), .ref (a6 8)])), tT (a6 0) (a6 1) (nI 12) (nI 80) 0, tT (a6 4) (a6 5) (nI 5) (nI 112) 0, tT (a6 8) (a6 9) (nI 2) (nI 8) 0, (qq7, .inr (2, [.ref (a8 0), .ref (a8 2), .ref (a8 4), .ref (a8 6), .ref (a8 8)])), tT (a8 0) (a8 1) (nI 12) (nI 80) 0, tT (a8 2) (a8 3) (nI 5) (nI 1000) 0, tT (a8 4) (a8 5) (nI 5) (nI 112) 0, tT (a8 6) (a8 7) (nI 1) (nI 16) 0, tA g (a8 7) 16 (fun _ => 0), tT (a8 8) (a8 9) (nI 2) (nI 8) 0, tA g (a8 9) 16 (fun _ => 0), (qq9, .inr (3, [.ref (a4 0), .ref (a10 0), .ref (a10 2), .ref (a10 4), .ref qq7, .int 0, .int 0, .int 0, .int 0, .int (-9), .int 0, .int 0])), tT (a10 0) (a10 1) (nI 1) (nI 6) 0, tT (a10 2) (a10 3) (nI 1) (nI 6) 0, tT (a10 4) (a10 5) (nI 1) (nI 80) 0, tA g (a10 5) 80 (fun _ => 0)] := hD
  refine lv_aload_n hx hb dX9_init_74 rfl (lv_at hl 0 rfl) ?_
  refine va_new (ci := 0) (fs := [.null, .null, .null, .null, .int 0, .int 0, .int 0, .int 0]) (C := RX0) (T := TX0) (N := 8) hx hb hts inlX0 tyX0 tyX0_ok hown (hts _ q31) (hts _ q32) (hts _ q33) hK hP hD hS hA rfl (lt_s (lt_s (lt_s (lt_s (lt_s (lt_s (lt_s (lt_s (lt_0) rfl) rfl) rfl) rfl) rfl) rfl) rfl) rfl) (Nat.le_of_ble_eq_true rfl) (Nat.le_of_ble_eq_true rfl) dX9_init_75 (fun qq11 H hP hD hS => ?_)
  refine W.cs (cells' := 35) (slots' := 17291) rfl rfl ?_
  have hP : va_P D vwCl [(h, .inr (9, [.ref qq1, .ref qq3, .ref qq9, .null, .null, .null, .null, .null, .null, .null, .null, .null, .null, .null, .ref qq5, .ref qq7, .int 0])), tT qq1 aq2 (nI 1) (nI 1000) 0, tA g aq2 1000 (fun _ => 0), (qq3, .inr (5, [.ref (a4 0), .int 0])), tT (a4 0) (a4 1) (nI 3) (nI 1001) 0, tA g (a4 1) 3003 (fun _ => 0), (qq5, .inr (2, [.ref (a6 0), .ref (a6 2), .ref (a6 4), .ref (a6 6), .ref (a6 8)])), tT (a6 0) (a6 1) (nI 12) (nI 80) 0, tT (a6 4) (a6 5) (nI 5) (nI 112) 0, tT (a6 8) (a6 9) (nI 2) (nI 8) 0, (qq7, .inr (2, [.ref (a8 0), .ref (a8 2), .ref (a8 4), .ref (a8 6), .ref (a8 8)])), tT (a8 0) (a8 1) (nI 12) (nI 80) 0, tT (a8 2) (a8 3) (nI 5) (nI 1000) 0, tT (a8 4) (a8 5) (nI 5) (nI 112) 0, tT (a8 6) (a8 7) (nI 1) (nI 16) 0, tA g (a8 7) 16 (fun _ => 0), tT (a8 8) (a8 9) (nI 2) (nI 8) 0, tA g (a8 9) 16 (fun _ => 0), (qq9, .inr (3, [.ref (a4 0), .ref (a10 0), .ref (a10 2), .ref (a10 4), .ref qq7, .int 0, .int 0, .int 0, .int 0, .int (-9), .int 0, .int 0])), tT (a10 0) (a10 1) (nI 1) (nI 6) 0, tT (a10 2) (a10 3) (nI 1) (nI 6) 0, tT (a10 4) (a10 5) (nI 1) (nI 80) 0, tA g (a10 5) 80 (fun _ => 0), (qq11, .inr (0, [.null, .null, .null, .null, .int 0, .int 0, .int 0, .int 0]))] H := hP
  have hD : va_D A [(h, .inr (9, [.ref qq1, .ref qq3, .ref qq9, .null, .null, .null, .null, .null, .null, .null, .null, .null, .null, .null, .ref qq5, .ref qq7, .int 0])), tT qq1 aq2 (nI 1) (nI 1000) 0, tA g aq2 1000 (fun _ => 0), (qq3, .inr (5, [.ref (a4 0), .int 0])), tT (a4 0) (a4 1) (nI 3) (nI 1001) 0, tA g (a4 1) 3003 (fun _ => 0), (qq5, .inr (2, [.ref (a6 0), .ref (a6 2), .ref (a6 4), .ref (a6 6), .ref (a6 8)])), tT (a6 0) (a6 1) (nI 12) (nI 80) 0, tT (a6 4) (a6 5) (nI 5) (nI 112) 0, tT (a6 8) (a6 9) (nI 2) (nI 8) 0, (qq7, .inr (2, [.ref (a8 0), .ref (a8 2), .ref (a8 4), .ref (a8 6), .ref (a8 8)])), tT (a8 0) (a8 1) (nI 12) (nI 80) 0, tT (a8 2) (a8 3) (nI 5) (nI 1000) 0, tT (a8 4) (a8 5) (nI 5) (nI 112) 0, tT (a8 6) (a8 7) (nI 1) (nI 16) 0, tA g (a8 7) 16 (fun _ => 0), tT (a8 8) (a8 9) (nI 2) (nI 8) 0, tA g (a8 9) 16 (fun _ => 0), (qq9, .inr (3, [.ref (a4 0), .ref (a10 0), .ref (a10 2), .ref (a10 4), .ref qq7, .int 0, .int 0, .int 0, .int 0, .int (-9), .int 0, .int 0])), tT (a10 0) (a10 1) (nI 1) (nI 6) 0, tT (a10 2) (a10 3) (nI 1) (nI 6) 0, tT (a10 4) (a10 5) (nI 1) (nI 80) 0, tA g (a10 5) 80 (fun _ => 0), (qq11, .inr (0, [.null, .null, .null, .null, .int 0, .int 0, .int 0, .int 0]))] := hD
  refine lv_dup hx hb dX9_init_78 rfl ?_
  refine lv_aload_n hx hb dX9_init_79 rfl (lv_at hl 0 rfl) ?_
  refine va_get (D := D) (ci := 9) (v := .ref qq5) (C := RX9) (T := TX9) (N := 17) hx hb hts inlX9 hown hK hP 0 rfl rfl 14 (by decide) (hts _ q24) (fun _ h => h) rfl dX9_init_80 ?_
  refine vz_Iv (wr := [(h, .inr (9, [.ref qq1, .ref qq3, .ref qq9, .null, .null, .null, .null, .null, .null, .null, .null, .null, .null, .null, .ref qq5, .ref qq7, .int 0])), tT qq1 aq2 (nI 1) (nI 1000) 0, tA g aq2 1000 (fun _ => 0), (qq3, .inr (5, [.ref (a4 0), .int 0])), tT (a4 0) (a4 1) (nI 3) (nI 1001) 0, tA g (a4 1) 3003 (fun _ => 0), (qq5, .inr (2, [.ref (a6 0), .ref (a6 2), .ref (a6 4), .ref (a6 6), .ref (a6 8)])), tT (a6 0) (a6 1) (nI 12) (nI 80) 0, tT (a6 4) (a6 5) (nI 5) (nI 112) 0, tT (a6 8) (a6 9) (nI 2) (nI 8) 0, (qq7, .inr (2, [.ref (a8 0), .ref (a8 2), .ref (a8 4), .ref (a8 6), .ref (a8 8)])), tT (a8 0) (a8 1) (nI 12) (nI 80) 0, tT (a8 2) (a8 3) (nI 5) (nI 1000) 0, tT (a8 4) (a8 5) (nI 5) (nI 112) 0, tT (a8 6) (a8 7) (nI 1) (nI 16) 0, tA g (a8 7) 16 (fun _ => 0), tT (a8 8) (a8 9) (nI 2) (nI 8) 0, tA g (a8 9) 16 (fun _ => 0), (qq9, .inr (3, [.ref (a4 0), .ref (a10 0), .ref (a10 2), .ref (a10 4), .ref qq7, .int 0, .int 0, .int 0, .int 0, .int (-9), .int 0, .int 0])), tT (a10 0) (a10 1) (nI 1) (nI 6) 0, tT (a10 2) (a10 3) (nI 1) (nI 6) 0, tT (a10 4) (a10 5) (nI 1) (nI 80) 0, tA g (a10 5) 80 (fun _ => 0)]) (As := [.ref qq5]) (rest := [.ref qq11, .ref h]) hx hb hml hown hts hK hA hP hD hS (c_D_init l D g qq11 H.size qq5) ki_X9_49 (⟨Nat.le_of_ble_eq_true rfl, Nat.le_of_ble_eq_true rfl⟩) [23] [0, 1, 2, 3, 4, 5, 6, 7, 8, 9, 10, 11, 12, 13, 14, 15, 16, 17, 18, 19, 20, 21, 22] rfl rfl (by decide) hl.1 (Nat.le_of_ble_eq_true rfl) dX9_init_83 (⟨Nat.le_of_ble_eq_true rfl, Nat.le_of_ble_eq_true rfl⟩) rfl (fun a12 H locs _ _ hP hD hS => ?_)
  refine W.cs (cells' := 41) (slots' := 37187) rfl rfl ?_
  have hP : va_P D vwCl [(h, .inr (9, [.ref qq1, .ref qq3, .ref qq9, .null, .null, .null, .null, .null, .null, .null, .null, .null, .null, .null, .ref qq5, .ref qq7, .int 0])), tT qq1 aq2 (nI 1) (nI 1000) 0, tA g aq2 1000 (fun _ => 0), (qq3, .inr (5, [.ref (a4 0), .int 0])), tT (a4 0) (a4 1) (nI 3) (nI 1001) 0, tA g (a4 1) 3003 (fun _ => 0), (qq5, .inr (2, [.ref (a6 0), .ref (a6 2), .ref (a6 4), .ref (a6 6), .ref (a6 8)])), tT (a6 0) (a6 1) (nI 12) (nI 80) 0, tT (a6 4) (a6 5) (nI 5) (nI 112) 0, tT (a6 8) (a6 9) (nI 2) (nI 8) 0, (qq7, .inr (2, [.ref (a8 0), .ref (a8 2), .ref (a8 4), .ref (a8 6), .ref (a8 8)])), tT (a8 0) (a8 1) (nI 12) (nI 80) 0, tT (a8 2) (a8 3) (nI 5) (nI 1000) 0, tT (a8 4) (a8 5) (nI 5) (nI 112) 0, tT (a8 6) (a8 7) (nI 1) (nI 16) 0, tA g (a8 7) 16 (fun _ => 0), tT (a8 8) (a8 9) (nI 2) (nI 8) 0, tA g (a8 9) 16 (fun _ => 0), (qq9, .inr (3, [.ref (a4 0), .ref (a10 0), .ref (a10 2), .ref (a10 4), .ref qq7, .int 0, .int 0, .int 0, .int 0, .int (-9), .int 0, .int 0])), tT (a10 0) (a10 1) (nI 1) (nI 6) 0, tT (a10 2) (a10 3) (nI 1) (nI 6) 0, tT (a10 4) (a10 5) (nI 1) (nI 80) 0, tA g (a10 5) 80 (fun _ => 0), (qq11, .inr (0, [.ref (a12 0), .ref (a12 2), .ref (a12 4), .ref qq5, .int 0, .int 0, .int 0, .int 0])), tT (a12 0) (a12 1) (nI 4) (nI 4500) 0, tA g (a12 1) 18000 (fun _ => 0), tT (a12 2) (a12 3) (nI 3) (nI 500) 0, tA g (a12 3) 1500 (fun _ => 0), tT (a12 4) (a12 5) (nI 6) (nI 64) 0, tA g (a12 5) 384 (fun _ => 0)] H := hP
  have hD : va_D A [(h, .inr (9, [.ref qq1, .ref qq3, .ref qq9, .null, .null, .null, .null, .null, .null, .null, .null, .null, .null, .null, .ref qq5, .ref qq7, .int 0])), tT qq1 aq2 (nI 1) (nI 1000) 0, tA g aq2 1000 (fun _ => 0), (qq3, .inr (5, [.ref (a4 0), .int 0])), tT (a4 0) (a4 1) (nI 3) (nI 1001) 0, tA g (a4 1) 3003 (fun _ => 0), (qq5, .inr (2, [.ref (a6 0), .ref (a6 2), .ref (a6 4), .ref (a6 6), .ref (a6 8)])), tT (a6 0) (a6 1) (nI 12) (nI 80) 0, tT (a6 4) (a6 5) (nI 5) (nI 112) 0, tT (a6 8) (a6 9) (nI 2) (nI 8) 0, (qq7, .inr (2, [.ref (a8 0), .ref (a8 2), .ref (a8 4), .ref (a8 6), .ref (a8 8)])), tT (a8 0) (a8 1) (nI 12) (nI 80) 0, tT (a8 2) (a8 3) (nI 5) (nI 1000) 0, tT (a8 4) (a8 5) (nI 5) (nI 112) 0, tT (a8 6) (a8 7) (nI 1) (nI 16) 0, tA g (a8 7) 16 (fun _ => 0), tT (a8 8) (a8 9) (nI 2) (nI 8) 0, tA g (a8 9) 16 (fun _ => 0), (qq9, .inr (3, [.ref (a4 0), .ref (a10 0), .ref (a10 2), .ref (a10 4), .ref qq7, .int 0, .int 0, .int 0, .int 0, .int (-9), .int 0, .int 0])), tT (a10 0) (a10 1) (nI 1) (nI 6) 0, tT (a10 2) (a10 3) (nI 1) (nI 6) 0, tT (a10 4) (a10 5) (nI 1) (nI 80) 0, tA g (a10 5) 80 (fun _ => 0), (qq11, .inr (0, [.ref (a12 0), .ref (a12 2), .ref (a12 4), .ref qq5, .int 0, .int 0, .int 0, .int 0])), tT (a12 0) (a12 1) (nI 4) (nI 4500) 0, tA g (a12 1) 18000 (fun _ => 0), tT (a12 2) (a12 3) (nI 3) (nI 500) 0, tA g (a12 3) 1500 (fun _ => 0), tT (a12 4) (a12 5) (nI 6) (nI 64) 0, tA g (a12 5) 384 (fun _ => 0)] := hD
  have hP : va_P D vwCl [(h, .inr (9, [.ref qq1, .ref qq3, .ref qq9, .null, .null, .null, .null, .null, .null, .null, .null, .null, .null, .null, .ref qq5, .ref qq7, .int 0])), tT qq1 aq2 (nI 1) (nI 1000) 0, tA g aq2 1000 (fun _ => 0), (qq3, .inr (5, [.ref (a4 0), .int 0])), tT (a4 0) (a4 1) (nI 3) (nI 1001) 0, tA g (a4 1) 3003 (fun _ => 0), (qq5, .inr (2, [.ref (a6 0), .ref (a6 2), .ref (a6 4), .ref (a6 6), .ref (a6 8)])), tT (a6 0) (a6 1) (nI 12) (nI 80) 0, tT (a6 4) (a6 5) (nI 5) (nI 112) 0, tT (a6 8) (a6 9) (nI 2) (nI 8) 0, (qq7, .inr (2, [.ref (a8 0), .ref (a8 2), .ref (a8 4), .ref (a8 6), .ref (a8 8)])), tT (a8 0) (a8 1) (nI 12) (nI 80) 0, tT (a8 2) (a8 3) (nI 5) (nI 1000) 0, tT (a8 4) (a8 5) (nI 5) (nI 112) 0, tT (a8 6) (a8 7) (nI 1) (nI 16) 0, tA g (a8 7) 16 (fun _ => 0), tT (a8 8) (a8 9) (nI 2) (nI 8) 0, tA g (a8 9) 16 (fun _ => 0), (qq9, .inr (3, [.ref (a4 0), .ref (a10 0), .ref (a10 2), .ref (a10 4), .ref qq7, .int 0, .int 0, .int 0, .int 0, .int (-9), .int 0, .int 0])), tT (a10 0) (a10 1) (nI 1) (nI 6) 0, tT (a10 2) (a10 3) (nI 1) (nI 6) 0, tT (a10 4) (a10 5) (nI 1) (nI 80) 0, tA g (a10 5) 80 (fun _ => 0), (qq11, .inr (0, [.ref (a12 0), .ref (a12 2), .ref (a12 4), .ref qq5, .int 0, .int 0, .int 0, .int 0]))] H := vz_pickP hP [0, 1, 2, 3, 4, 5, 6, 7, 8, 9, 10, 11, 12, 13, 14, 15, 16, 17, 18, 19, 20, 21, 22, 23] rfl
  have hD : va_D A [(h, .inr (9, [.ref qq1, .ref qq3, .ref qq9, .null, .null, .null, .null, .null, .null, .null, .null, .null, .null, .null, .ref qq5, .ref qq7, .int 0])), tT qq1 aq2 (nI 1) (nI 1000) 0, tA g aq2 1000 (fun _ => 0), (qq3, .inr (5, [.ref (a4 0), .int 0])), tT (a4 0) (a4 1) (nI 3) (nI 1001) 0, tA g (a4 1) 3003 (fun _ => 0), (qq5, .inr (2, [.ref (a6 0), .ref (a6 2), .ref (a6 4), .ref (a6 6), .ref (a6 8)])), tT (a6 0) (a6 1) (nI 12) (nI 80) 0, tT (a6 4) (a6 5) (nI 5) (nI 112) 0, tT (a6 8) (a6 9) (nI 2) (nI 8) 0, (qq7, .inr (2, [.ref (a8 0), .ref (a8 2), .ref (a8 4), .ref (a8 6), .ref (a8 8)])), tT (a8 0) (a8 1) (nI 12) (nI 80) 0, tT (a8 2) (a8 3) (nI 5) (nI 1000) 0, tT (a8 4) (a8 5) (nI 5) (nI 112) 0, tT (a8 6) (a8 7) (nI 1) (nI 16) 0, tA g (a8 7) 16 (fun _ => 0), tT (a8 8) (a8 9) (nI 2) (nI 8) 0, tA g (a8 9) 16 (fun _ => 0), (qq9, .inr (3, [.ref (a4 0), .ref (a10 0), .ref (a10 2), .ref (a10 4), .ref qq7, .int 0, .int 0, .int 0, .int 0, .int (-9), .int 0, .int 0])), tT (a10 0) (a10 1) (nI 1) (nI 6) 0, tT (a10 2) (a10 3) (nI 1) (nI 6) 0, tT (a10 4) (a10 5) (nI 1) (nI 80) 0, tA g (a10 5) 80 (fun _ => 0), (qq11, .inr (0, [.ref (a12 0), .ref (a12 2), .ref (a12 4), .ref qq5, .int 0, .int 0, .int 0, .int 0]))] := hD.sub [0, 1, 2, 3, 4, 5, 6, 7, 8, 9, 10, 11, 12, 13, 14, 15, 16, 17, 18, 19, 20, 21, 22, 23] (by decide) rfl
  refine va_putF (D := D) (ci := 9) (v := .ref qq11) (ty := .object "WaysAtlas$Coder") (C := RX9) (T := TX9) (N := 17) hx hb hts inlX9 tyX9 tyX9_ok nmX9 hown hK hP hD hS 0 rfl rfl 3 (by decide) (hts _ q34) (fun _ h => h) rfl hin rfl (by decide +kernel) rfl rfl (Nat.le_of_ble_eq_true rfl) dX9_init_86 (fun H locs hP hD hS => ?_)
  have hP : va_P D vwCl [(h, .inr (9, [.ref qq1, .ref qq3, .ref qq9, .ref qq11, .null, .null, .null, .null, .null, .null, .null, .null, .null, .null, .ref qq5, .ref qq7, .int 0])), tT qq1 aq2 (nI 1) (nI 1000) 0, tA g aq2 1000 (fun _ => 0), (qq3, .inr (5, [.ref (a4 0), .int 0])), tT (a4 0) (a4 1) (nI 3) (nI 1001) 0, tA g (a4 1) 3003 (fun _ => 0), (qq5, .inr (2, [.ref (a6 0), .ref (a6 2), .ref (a6 4), .ref (a6 6), .ref (a6 8)])), tT (a6 0) (a6 1) (nI 12) (nI 80) 0, tT (a6 4) (a6 5) (nI 5) (nI 112) 0, tT (a6 8) (a6 9) (nI 2) (nI 8) 0, (qq7, .inr (2, [.ref (a8 0), .ref (a8 2), .ref (a8 4), .ref (a8 6), .ref (a8 8)])), tT (a8 0) (a8 1) (nI 12) (nI 80) 0, tT (a8 2) (a8 3) (nI 5) (nI 1000) 0, tT (a8 4) (a8 5) (nI 5) (nI 112) 0, tT (a8 6) (a8 7) (nI 1) (nI 16) 0, tA g (a8 7) 16 (fun _ => 0), tT (a8 8) (a8 9) (nI 2) (nI 8) 0, tA g (a8 9) 16 (fun _ => 0), (qq9, .inr (3, [.ref (a4 0), .ref (a10 0), .ref (a10 2), .ref (a10 4), .ref qq7, .int 0, .int 0, .int 0, .int 0, .int (-9), .int 0, .int 0])), tT (a10 0) (a10 1) (nI 1) (nI 6) 0, tT (a10 2) (a10 3) (nI 1) (nI 6) 0, tT (a10 4) (a10 5) (nI 1) (nI 80) 0, tA g (a10 5) 80 (fun _ => 0), (qq11, .inr (0, [.ref (a12 0), .ref (a12 2), .ref (a12 4), .ref qq5, .int 0, .int 0, .int 0, .int 0]))] H := hP
  have hD : va_D A [(h, .inr (9, [.ref qq1, .ref qq3, .ref qq9, .ref qq11, .null, .null, .null, .null, .null, .null, .null, .null, .null, .null, .ref qq5, .ref qq7, .int 0])), tT qq1 aq2 (nI 1) (nI 1000) 0, tA g aq2 1000 (fun _ => 0), (qq3, .inr (5, [.ref (a4 0), .int 0])), tT (a4 0) (a4 1) (nI 3) (nI 1001) 0, tA g (a4 1) 3003 (fun _ => 0), (qq5, .inr (2, [.ref (a6 0), .ref (a6 2), .ref (a6 4), .ref (a6 6), .ref (a6 8)])), tT (a6 0) (a6 1) (nI 12) (nI 80) 0, tT (a6 4) (a6 5) (nI 5) (nI 112) 0, tT (a6 8) (a6 9) (nI 2) (nI 8) 0, (qq7, .inr (2, [.ref (a8 0), .ref (a8 2), .ref (a8 4), .ref (a8 6), .ref (a8 8)])), tT (a8 0) (a8 1) (nI 12) (nI 80) 0, tT (a8 2) (a8 3) (nI 5) (nI 1000) 0, tT (a8 4) (a8 5) (nI 5) (nI 112) 0, tT (a8 6) (a8 7) (nI 1) (nI 16) 0, tA g (a8 7) 16 (fun _ => 0), tT (a8 8) (a8 9) (nI 2) (nI 8) 0, tA g (a8 9) 16 (fun _ => 0), (qq9, .inr (3, [.ref (a4 0), .ref (a10 0), .ref (a10 2), .ref (a10 4), .ref qq7, .int 0, .int 0, .int 0, .int 0, .int (-9), .int 0, .int 0])), tT (a10 0) (a10 1) (nI 1) (nI 6) 0, tT (a10 2) (a10 3) (nI 1) (nI 6) 0, tT (a10 4) (a10 5) (nI 1) (nI 80) 0, tA g (a10 5) 80 (fun _ => 0), (qq11, .inr (0, [.ref (a12 0), .ref (a12 2), .ref (a12 4), .ref qq5, .int 0, .int 0, .int 0, .int 0]))] := hD
  refine lv_aload_n hx hb dX9_init_89 rfl (lv_at hl 0 rfl) ?_
  refine va_new (ci := 6) (fs := [.null, .int 0, .int 0, .int 0]) (C := RX6) (T := TX6) (N := 4) hx hb hts inlX6 tyX6 tyX6_ok hown (hts _ q13) (hts _ q14) (hts _ q15) hK hP hD hS hA rfl (lt_s (lt_s (lt_s (lt_s (lt_0) rfl) rfl) rfl) rfl) (Nat.le_of_ble_eq_true rfl) (Nat.le_of_ble_eq_true rfl) dX9_init_90 (fun qq13 H hP hD hS => ?_)
  refine W.cs (cells' := 42) (slots' := 37191) rfl rfl ?_
  have hP : va_P D vwCl [(h, .inr (9, [.ref qq1, .ref qq3, .ref qq9, .ref qq11, .null, .null, .null, .null, .null, .null, .null, .null, .null, .null, .ref qq5, .ref qq7, .int 0])), tT qq1 aq2 (nI 1) (nI 1000) 0, tA g aq2 1000 (fun _ => 0), (qq3, .inr (5, [.ref (a4 0), .int 0])), tT (a4 0) (a4 1) (nI 3) (nI 1001) 0, tA g (a4 1) 3003 (fun _ => 0), (qq5, .inr (2, [.ref (a6 0), .ref (a6 2), .ref (a6 4), .ref (a6 6), .ref (a6 8)])), tT (a6 0) (a6 1) (nI 12) (nI 80) 0, tT (a6 4) (a6 5) (nI 5) (nI 112) 0, tT (a6 8) (a6 9) (nI 2) (nI 8) 0, (qq7, .inr (2, [.ref (a8 0), .ref (a8 2), .ref (a8 4), .ref (a8 6), .ref (a8 8)])), tT (a8 0) (a8 1) (nI 12) (nI 80) 0, tT (a8 2) (a8 3) (nI 5) (nI 1000) 0, tT (a8 4) (a8 5) (nI 5) (nI 112) 0, tT (a8 6) (a8 7) (nI 1) (nI 16) 0, tA g (a8 7) 16 (fun _ => 0), tT (a8 8) (a8 9) (nI 2) (nI 8) 0, tA g (a8 9) 16 (fun _ => 0), (qq9, .inr (3, [.ref (a4 0), .ref (a10 0), .ref (a10 2), .ref (a10 4), .ref qq7, .int 0, .int 0, .int 0, .int 0, .int (-9), .int 0, .int 0])), tT (a10 0) (a10 1) (nI 1) (nI 6) 0, tT (a10 2) (a10 3) (nI 1) (nI 6) 0, tT (a10 4) (a10 5) (nI 1) (nI 80) 0, tA g (a10 5) 80 (fun _ => 0), (qq11, .inr (0, [.ref (a12 0), .ref (a12 2), .ref (a12 4), .ref qq5, .int 0, .int 0, .int 0, .int 0])), (qq13, .inr (6, [.null, .int 0, .int 0, .int 0]))] H := hP
  have hD : va_D A [(h, .inr (9, [.ref qq1, .ref qq3, .ref qq9, .ref qq11, .null, .null, .null, .null, .null, .null, .null, .null, .null, .null, .ref qq5, .ref qq7, .int 0])), tT qq1 aq2 (nI 1) (nI 1000) 0, tA g aq2 1000 (fun _ => 0), (qq3, .inr (5, [.ref (a4 0), .int 0])), tT (a4 0) (a4 1) (nI 3) (nI 1001) 0, tA g (a4 1) 3003 (fun _ => 0), (qq5, .inr (2, [.ref (a6 0), .ref (a6 2), .ref (a6 4), .ref (a6 6), .ref (a6 8)])), tT (a6 0) (a6 1) (nI 12) (nI 80) 0, tT (a6 4) (a6 5) (nI 5) (nI 112) 0, tT (a6 8) (a6 9) (nI 2) (nI 8) 0, (qq7, .inr (2, [.ref (a8 0), .ref (a8 2), .ref (a8 4), .ref (a8 6), .ref (a8 8)])), tT (a8 0) (a8 1) (nI 12) (nI 80) 0, tT (a8 2) (a8 3) (nI 5) (nI 1000) 0, tT (a8 4) (a8 5) (nI 5) (nI 112) 0, tT (a8 6) (a8 7) (nI 1) (nI 16) 0, tA g (a8 7) 16 (fun _ => 0), tT (a8 8) (a8 9) (nI 2) (nI 8) 0, tA g (a8 9) 16 (fun _ => 0), (qq9, .inr (3, [.ref (a4 0), .ref (a10 0), .ref (a10 2), .ref (a10 4), .ref qq7, .int 0, .int 0, .int 0, .int 0, .int (-9), .int 0, .int 0])), tT (a10 0) (a10 1) (nI 1) (nI 6) 0, tT (a10 2) (a10 3) (nI 1) (nI 6) 0, tT (a10 4) (a10 5) (nI 1) (nI 80) 0, tA g (a10 5) 80 (fun _ => 0), (qq11, .inr (0, [.ref (a12 0), .ref (a12 2), .ref (a12 4), .ref qq5, .int 0, .int 0, .int 0, .int 0])), (qq13, .inr (6, [.null, .int 0, .int 0, .int 0]))] := hD
  refine lv_dup hx hb dX9_init_93 rfl ?_
  refine lv_bipush (v := 30) hx hb dX9_init_94 (by decide) ?_
  refine lv_iconst (v := 4) hx hb dX9_init_96 (by decide) ?_
  refine vz_Iv (wr := [(h, .inr (9, [.ref qq1, .ref qq3, .ref qq9, .ref qq11, .null, .null, .null, .null, .null, .null, .null, .null, .null, .null, .ref qq5, .ref qq7, .int 0])), tT qq1 aq2 (nI 1) (nI 1000) 0, tA g aq2 1000 (fun _ => 0), (qq3, .inr (5, [.ref (a4 0), .int 0])), tT (a4 0) (a4 1) (nI 3) (nI 1001) 0, tA g (a4 1) 3003 (fun _ => 0), (qq5, .inr (2, [.ref (a6 0), .ref (a6 2), .ref (a6 4), .ref (a6 6), .ref (a6 8)])), tT (a6 0) (a6 1) (nI 12) (nI 80) 0, tT (a6 4) (a6 5) (nI 5) (nI 112) 0, tT (a6 8) (a6 9) (nI 2) (nI 8) 0, (qq7, .inr (2, [.ref (a8 0), .ref (a8 2), .ref (a8 4), .ref (a8 6), .ref (a8 8)])), tT (a8 0) (a8 1) (nI 12) (nI 80) 0, tT (a8 2) (a8 3) (nI 5) (nI 1000) 0, tT (a8 4) (a8 5) (nI 5) (nI 112) 0, tT (a8 6) (a8 7) (nI 1) (nI 16) 0, tA g (a8 7) 16 (fun _ => 0), tT (a8 8) (a8 9) (nI 2) (nI 8) 0, tA g (a8 9) 16 (fun _ => 0), (qq9, .inr (3, [.ref (a4 0), .ref (a10 0), .ref (a10 2), .ref (a10 4), .ref qq7, .int 0, .int 0, .int 0, .int 0, .int (-9), .int 0, .int 0])), tT (a10 0) (a10 1) (nI 1) (nI 6) 0, tT (a10 2) (a10 3) (nI 1) (nI 6) 0, tT (a10 4) (a10 5) (nI 1) (nI 80) 0, tA g (a10 5) 80 (fun _ => 0), (qq11, .inr (0, [.ref (a12 0), .ref (a12 2), .ref (a12 4), .ref qq5, .int 0, .int 0, .int 0, .int 0]))]) (As := [.int 30, .int 4]) (rest := [.ref qq13, .ref h]) hx hb hml hown hts hK hA hP hD hS (c_T_init l D g qq13 H.size 4 30 120 (by decide +kernel)) ki_X9_11 (⟨Nat.le_of_ble_eq_true rfl, Nat.le_of_ble_eq_true rfl⟩) [24] [0, 1, 2, 3, 4, 5, 6, 7, 8, 9, 10, 11, 12, 13, 14, 15, 16, 17, 18, 19, 20, 21, 22, 23] rfl rfl (by decide) hl.1 (Nat.le_of_ble_eq_true rfl) dX9_init_97 (⟨Nat.le_of_ble_eq_true rfl, Nat.le_of_ble_eq_true rfl⟩) rfl (fun aq14 H locs _ _ hP hD hS => ?_)
  refine W.cs (cells' := 43) (slots' := 37311) rfl rfl ?_
  have hP : va_P D vwCl [(h, .inr (9, [.ref qq1, .ref qq3, .ref qq9, .ref qq11, .null, .null, .null, .null, .null, .null, .null, .null, .null, .null, .ref qq5, .ref qq7, .int 0])), tT qq1 aq2 (nI 1) (nI 1000) 0, tA g aq2 1000 (fun _ => 0), (qq3, .inr (5, [.ref (a4 0), .int 0])), tT (a4 0) (a4 1) (nI 3) (nI 1001) 0, tA g (a4 1) 3003 (fun _ => 0), (qq5, .inr (2, [.ref (a6 0), .ref (a6 2), .ref (a6 4), .ref (a6 6), .ref (a6 8)])), tT (a6 0) (a6 1) (nI 12) (nI 80) 0, tT (a6 4) (a6 5) (nI 5) (nI 112) 0, tT (a6 8) (a6 9) (nI 2) (nI 8) 0, (qq7, .inr (2, [.ref (a8 0), .ref (a8 2), .ref (a8 4), .ref (a8 6), .ref (a8 8)])), tT (a8 0) (a8 1) (nI 12) (nI 80) 0, tT (a8 2) (a8 3) (nI 5) (nI 1000) 0, tT (a8 4) (a8 5) (nI 5) (nI 112) 0, tT (a8 6) (a8 7) (nI 1) (nI 16) 0, tA g (a8 7) 16 (fun _ => 0), tT (a8 8) (a8 9) (nI 2) (nI 8) 0, tA g (a8 9) 16 (fun _ => 0), (qq9, .inr (3, [.ref (a4 0), .ref (a10 0), .ref (a10 2), .ref (a10 4), .ref qq7, .int 0, .int 0, .int 0, .int 0, .int (-9), .int 0, .int 0])), tT (a10 0) (a10 1) (nI 1) (nI 6) 0, tT (a10 2) (a10 3) (nI 1) (nI 6) 0, tT (a10 4) (a10 5) (nI 1) (nI 80) 0, tA g (a10 5) 80 (fun _ => 0), (qq11, .inr (0, [.ref (a12 0), .ref (a12 2), .ref (a12 4), .ref qq5, .int 0, .int 0, .int 0, .int 0])), tT qq13 aq14 (nI 4) (nI 30) 0, tA g aq14 120 (fun _ => 0)] H := hP
  have hD : va_D A [(h, .inr (9, [.ref qq1, .ref qq3, .ref qq9, .ref qq11, .null, .null, .null, .null, .null, .null, .null, .null, .null, .null, .ref qq5, .ref qq7, .int 0])), tT qq1 aq2 (nI 1) (nI 1000) 0, tA g aq2 1000 (fun _ => 0), (qq3, .inr (5, [.ref (a4 0), .int 0])), tT (a4 0) (a4 1) (nI 3) (nI 1001) 0, tA g (a4 1) 3003 (fun _ => 0), (qq5, .inr (2, [.ref (a6 0), .ref (a6 2), .ref (a6 4), .ref (a6 6), .ref (a6 8)])), tT (a6 0) (a6 1) (nI 12) (nI 80) 0, tT (a6 4) (a6 5) (nI 5) (nI 112) 0, tT (a6 8) (a6 9) (nI 2) (nI 8) 0, (qq7, .inr (2, [.ref (a8 0), .ref (a8 2), .ref (a8 4), .ref (a8 6), .ref (a8 8)])), tT (a8 0) (a8 1) (nI 12) (nI 80) 0, tT (a8 2) (a8 3) (nI 5) (nI 1000) 0, tT (a8 4) (a8 5) (nI 5) (nI 112) 0, tT (a8 6) (a8 7) (nI 1) (nI 16) 0, tA g (a8 7) 16 (fun _ => 0), tT (a8 8) (a8 9) (nI 2) (nI 8) 0, tA g (a8 9) 16 (fun _ => 0), (qq9, .inr (3, [.ref (a4 0), .ref (a10 0), .ref (a10 2), .ref (a10 4), .ref qq7, .int 0, .int 0, .int 0, .int 0, .int (-9), .int 0, .int 0])), tT (a10 0) (a10 1) (nI 1) (nI 6) 0, tT (a10 2) (a10 3) (nI 1) (nI 6) 0, tT (a10 4) (a10 5) (nI 1) (nI 80) 0, tA g (a10 5) 80 (fun _ => 0), (qq11, .inr (0, [.ref (a12 0), .ref (a12 2), .ref (a12 4), .ref qq5, .int 0, .int 0, .int 0, .int 0])), tT qq13 aq14 (nI 4) (nI 30) 0, tA g aq14 120 (fun _ => 0)] := hD
  have hP : va_P D vwCl [(h, .inr (9, [.ref qq1, .ref qq3, .ref qq9, .ref qq11, .null, .null, .null, .null, .null, .null, .null, .null, .null, .null, .ref qq5, .ref qq7, .int 0])), tT qq1 aq2 (nI 1) (nI 1000) 0, tA g aq2 1000 (fun _ => 0), (qq3, .inr (5, [.ref (a4 0), .int 0])), tT (a4 0) (a4 1) (nI 3) (nI 1001) 0, tA g (a4 1) 3003 (fun _ => 0), (qq5, .inr (2, [.ref (a6 0), .ref (a6 2), .ref (a6 4), .ref (a6 6), .ref (a6 8)])), tT (a6 0) (a6 1) (nI 12) (nI 80) 0, tT (a6 4) (a6 5) (nI 5) (nI 112) 0, tT (a6 8) (a6 9) (nI 2) (nI 8) 0, (qq7, .inr (2, [.ref (a8 0), .ref (a8 2), .ref (a8 4), .ref (a8 6), .ref (a8 8)])), tT (a8 0) (a8 1) (nI 12) (nI 80) 0, tT (a8 2) (a8 3) (nI 5) (nI 1000) 0, tT (a8 4) (a8 5) (nI 5) (nI 112) 0, tT (a8 6) (a8 7) (nI 1) (nI 16) 0, tA g (a8 7) 16 (fun _ => 0), tT (a8 8) (a8 9) (nI 2) (nI 8) 0, tA g (a8 9) 16 (fun _ => 0), (qq9, .inr (3, [.ref (a4 0), .ref (a10 0), .ref (a10 2), .ref (a10 4), .ref qq7, .int 0, .int 0, .int 0, .int 0, .int (-9), .int 0, .int 0])), tT (a10 0) (a10 1) (nI 1) (nI 6) 0, tT (a10 2) (a10 3) (nI 1) (nI 6) 0, tT (a10 4) (a10 5) (nI 1) (nI 80) 0, tA g (a10 5) 80 (fun _ => 0), (qq11, .inr (0, [.ref (a12 0), .ref (a12 2), .ref (a12 4), .ref qq5, .int 0, .int 0, .int 0, .int 0])), tT qq13 aq14 (nI 4) (nI 30) 0] H := vz_pickP hP [0, 1, 2, 3, 4, 5, 6, 7, 8, 9, 10, 11, 12, 13, 14, 15, 16, 17, 18, 19, 20, 21, 22, 23, 24] rfl
  have hD : va_D A [(h, .inr (9, [.ref qq1, .ref qq3, .ref qq9, .ref qq11, .null, .null, .null, .null, .null, .null, .null, .null, .null, .null, .ref qq5, .ref qq7, .int 0])), tT qq1 aq2 (nI 1) (nI 1000) 0, tA g aq2 1000 (fun _ => 0), (qq3, .inr (5, [.ref (a4 0), .int 0])), tT (a4 0) (a4 1) (nI 3) (nI 1001) 0, tA g (a4 1) 3003 (fun _ => 0), (qq5, .inr (2, [.ref (a6 0), .ref (a6 2), .ref (a6 4), .ref (a6 6), .ref (a6 8)])), tT (a6 0) (a6 1) (nI 12) (nI 80) 0, tT (a6 4) (a6 5) (nI 5) (nI 112) 0, tT (a6 8) (a6 9) (nI 2) (nI 8) 0, (qq7, .inr (2, [.ref (a8 0), .ref (a8 2), .ref (a8 4), .ref (a8 6), .ref (a8 8)])), tT (a8 0) (a8 1) (nI 12) (nI 80) 0, tT (a8 2) (a8 3) (nI 5) (nI 1000) 0, tT (a8 4) (a8 5) (nI 5) (nI 112) 0, tT (a8 6) (a8 7) (nI 1) (nI 16) 0, tA g (a8 7) 16 (fun _ => 0), tT (a8 8) (a8 9) (nI 2) (nI 8) 0, tA g (a8 9) 16 (fun _ => 0), (qq9, .inr (3, [.ref (a4 0), .ref (a10 0), .ref (a10 2), .ref (a10 4), .ref qq7, .int 0, .int 0, .int 0, .int 0, .int (-9), .int 0, .int 0])), tT (a10 0) (a10 1) (nI 1) (nI 6) 0, tT (a10 2) (a10 3) (nI 1) (nI 6) 0, tT (a10 4) (a10 5) (nI 1) (nI 80) 0, tA g (a10 5) 80 (fun _ => 0), (qq11, .inr (0, [.ref (a12 0), .ref (a12 2), .ref (a12 4), .ref qq5, .int 0, .int 0, .int 0, .int 0])), tT qq13 aq14 (nI 4) (nI 30) 0] := hD.sub [0, 1, 2, 3, 4, 5, 6, 7, 8, 9, 10, 11, 12, 13, 14, 15, 16, 17, 18, 19, 20, 21, 22, 23, 24] (by decide) rfl
  refine va_putF (D := D) (ci := 9) (v := .ref qq13) (ty := .object "WaysAtlas$Table") (C := RX9) (T := TX9) (N := 17) hx hb hts inlX9 tyX9 tyX9_ok nmX9 hown hK hP hD hS 0 rfl rfl 7 (by decide) (hts _ q35) (fun _ h => h) rfl hin rfl (by decide +kernel) rfl rfl (Nat.le_of_ble_eq_true rfl) dX9_init_100 (fun H locs hP hD hS => ?_)
  have hP : va_P D vwCl [(h, .inr (9, [.ref qq1, .ref qq3, .ref qq9, .ref qq11, .null, .null, .null, .ref qq13, .null, .null, .null, .null, .null, .null, .ref qq5, .ref qq7, .int 0])), tT qq1 aq2 (nI 1) (nI 1000) 0, tA g aq2 1000 (fun _ => 0), (qq3, .inr (5, [.ref (a4 0), .int 0])), tT (a4 0) (a4 1) (nI 3) (nI 1001) 0, tA g (a4 1) 3003 (fun _ => 0), (qq5, .inr (2, [.ref (a6 0), .ref (a6 2), .ref (a6 4), .ref (a6 6), .ref (a6 8)])), tT (a6 0) (a6 1) (nI 12) (nI 80) 0, tT (a6 4) (a6 5) (nI 5) (nI 112) 0, tT (a6 8) (a6 9) (nI 2) (nI 8) 0, (qq7, .inr (2, [.ref (a8 0), .ref (a8 2), .ref (a8 4), .ref (a8 6), .ref (a8 8)])), tT (a8 0) (a8 1) (nI 12) (nI 80) 0, tT (a8 2) (a8 3) (nI 5) (nI 1000) 0, tT (a8 4) (a8 5) (nI 5) (nI 112) 0, tT (a8 6) (a8 7) (nI 1) (nI 16) 0, tA g (a8 7) 16 (fun _ => 0), tT (a8 8) (a8 9) (nI 2) (nI 8) 0, tA g (a8 9) 16 (fun _ => 0), (qq9, .inr (3, [.ref (a4 0), .ref (a10 0), .ref (a10 2), .ref (a10 4), .ref qq7, .int 0, .int 0, .int 0, .int 0, .int (-9), .int 0, .int 0])), tT (a10 0) (a10 1) (nI 1) (nI 6) 0, tT (a10 2) (a10 3) (nI 1) (nI 6) 0, tT (a10 4) (a10 5) (nI 1) (nI 80) 0, tA g (a10 5) 80 (fun _ => 0), (qq11, .inr (0, [.ref (a12 0), .ref (a12 2), .ref (a12 4), .ref qq5, .int 0, .int 0, .int 0, .int 0])), tT qq13 aq14 (nI 4) (nI 30) 0] H := hP
  have hD : va_D A [(h, .inr (9, [.ref qq1, .ref qq3, .ref qq9, .ref qq11, .null, .null, .null, .ref qq13, .null, .null, .null, .null, .null, .null, .ref qq5, .ref qq7, .int 0])), tT qq1 aq2 (nI 1) (nI 1000) 0, tA g aq2 1000 (fun _ => 0), (qq3, .inr (5, [.ref (a4 0), .int 0])), tT (a4 0) (a4 1) (nI 3) (nI 1001) 0, tA g (a4 1) 3003 (fun _ => 0), (qq5, .inr (2, [.ref (a6 0), .ref (a6 2), .ref (a6 4), .ref (a6 6), .ref (a6 8)])), tT (a6 0) (a6 1) (nI 12) (nI 80) 0, tT (a6 4) (a6 5) (nI 5) (nI 112) 0, tT (a6 8) (a6 9) (nI 2) (nI 8) 0, (qq7, .inr (2, [.ref (a8 0), .ref (a8 2), .ref (a8 4), .ref (a8 6), .ref (a8 8)])), tT (a8 0) (a8 1) (nI 12) (nI 80) 0, tT (a8 2) (a8 3) (nI 5) (nI 1000) 0, tT (a8 4) (a8 5) (nI 5) (nI 112) 0, tT (a8 6) (a8 7) (nI 1) (nI 16) 0, tA g (a8 7) 16 (fun _ => 0), tT (a8 8) (a8 9) (nI 2) (nI 8) 0, tA g (a8 9) 16 (fun _ => 0), (qq9, .inr (3, [.ref (a4 0), .ref (a10 0), .ref (a10 2), .ref (a10 4), .ref qq7, .int 0, .int 0, .int 0, .int 0, .int (-9), .int 0, .int 0])), tT (a10 0) (a10 1) (nI 1) (nI 6) 0, tT (a10 2) (a10 3) (nI 1) (nI 6) 0, tT (a10 4) (a10 5) (nI 1) (nI 80) 0, tA g (a10 5) 80 (fun _ => 0), (qq11, .inr (0, [.ref (a12 0), .ref (a12 2), .ref (a12 4), .ref qq5, .int 0, .int 0, .int 0, .int 0])), tT qq13 aq14 (nI 4) (nI 30) 0] := hD
  refine lv_aload_n hx hb dX9_init_103 rfl (lv_at hl 0 rfl) ?_
  refine va_new (ci := 6) (fs := [.null, .int 0, .int 0, .int 0]) (C := RX6) (T := TX6) (N := 4) hx hb hts inlX6 tyX6 tyX6_ok hown (hts _ q13) (hts _ q14) (hts _ q15) hK hP hD hS hA rfl (lt_s (lt_s (lt_s (lt_s (lt_0) rfl) rfl) rfl) rfl) (Nat.le_of_ble_eq_true rfl) (Nat.le_of_ble_eq_true rfl) dX9_init_104 (fun qq15 H hP hD hS => ?_)
  refine W.cs (cells' := 44) (slots' := 37315) rfl rfl ?_
  have hP : va_P D vwCl [(h, .inr (9, [.ref qq1, .ref qq3, .ref qq9, .ref qq11, .null, .null, .null, .ref qq13, .null, .null, .null, .null, .null, .null, .ref qq5, .ref qq7, .int 0])), tT qq1 aq2 (nI 1) (nI 1000) 0, tA g aq2 1000 (fun _ => 0), (qq3, .inr (5, [.ref (a4 0), .int 0])), tT (a4 0) (a4 1) (nI 3) (nI 1001) 0, tA g (a4 1) 3003 (fun _ => 0), (qq5, .inr (2, [.ref (a6 0), .ref (a6 2), .ref (a6 4), .ref (a6 6), .ref (a6 8)])), tT (a6 0) (a6 1) (nI 12) (nI 80) 0, tT (a6 4) (a6 5) (nI 5) (nI 112) 0, tT (a6 8) (a6 9) (nI 2) (nI 8) 0, (qq7, .inr (2, [.ref (a8 0), .ref (a8 2), .ref (a8 4), .ref (a8 6), .ref (a8 8)])), tT (a8 0) (a8 1) (nI 12) (nI 80) 0, tT (a8 2) (a8 3) (nI 5) (nI 1000) 0, tT (a8 4) (a8 5) (nI 5) (nI 112) 0, tT (a8 6) (a8 7) (nI 1) (nI 16) 0, tA g (a8 7) 16 (fun _ => 0), tT (a8 8) (a8 9) (nI 2) (nI 8) 0, tA g (a8 9) 16 (fun _ => 0), (qq9, .inr (3, [.ref (a4 0), .ref (a10 0), .ref (a10 2), .ref (a10 4), .ref qq7, .int 0, .int 0, .int 0, .int 0, .int (-9), .int 0, .int 0])), tT (a10 0) (a10 1) (nI 1) (nI 6) 0, tT (a10 2) (a10 3) (nI 1) (nI 6) 0, tT (a10 4) (a10 5) (nI 1) (nI 80) 0, tA g (a10 5) 80 (fun _ => 0), (qq11, .inr (0, [.ref (a12 0), .ref (a12 2), .ref (a12 4), .ref qq5, .int 0, .int 0, .int 0, .int 0])), tT qq13 aq14 (nI 4) (nI 30) 0, (qq15, .inr (6, [.null, .int 0, .int 0, .int 0]))] H := hP
  have hD : va_D A [(h, .inr (9, [.ref qq1, .ref qq3, .ref qq9, .ref qq11, .null, .null, .null, .ref qq13, .null, .null, .null, .null, .null, .null, .ref qq5, .ref qq7, .int 0])), tT qq1 aq2 (nI 1) (nI 1000) 0, tA g aq2 1000 (fun _ => 0), (qq3, .inr (5, [.ref (a4 0), .int 0])), tT (a4 0) (a4 1) (nI 3) (nI 1001) 0, tA g (a4 1) 3003 (fun _ => 0), (qq5, .inr (2, [.ref (a6 0), .ref (a6 2), .ref (a6 4), .ref (a6 6), .ref (a6 8)])), tT (a6 0) (a6 1) (nI 12) (nI 80) 0, tT (a6 4) (a6 5) (nI 5) (nI 112) 0, tT (a6 8) (a6 9) (nI 2) (nI 8) 0, (qq7, .inr (2, [.ref (a8 0), .ref (a8 2), .ref (a8 4), .ref (a8 6), .ref (a8 8)])), tT (a8 0) (a8 1) (nI 12) (nI 80) 0, tT (a8 2) (a8 3) (nI 5) (nI 1000) 0, tT (a8 4) (a8 5) (nI 5) (nI 112) 0, tT (a8 6) (a8 7) (nI 1) (nI 16) 0, tA g (a8 7) 16 (fun _ => 0), tT (a8 8) (a8 9) (nI 2) (nI 8) 0, tA g (a8 9) 16 (fun _ => 0), (qq9, .inr (3, [.ref (a4 0), .ref (a10 0), .ref (a10 2), .ref (a10 4), .ref qq7, .int 0, .int 0, .int 0, .int 0, .int (-9), .int 0, .int 0])), tT (a10 0) (a10 1) (nI 1) (nI 6) 0, tT (a10 2) (a10 3) (nI 1) (nI 6) 0, tT (a10 4) (a10 5) (nI 1) (nI 80) 0, tA g (a10 5) 80 (fun _ => 0), (qq11, .inr (0, [.ref (a12 0), .ref (a12 2), .ref (a12 4), .ref qq5, .int 0, .int 0, .int 0, .int 0])), tT qq13 aq14 (nI 4) (nI 30) 0, (qq15, .inr (6, [.null, .int 0, .int 0, .int 0]))] := hD
  refine lv_dup hx hb dX9_init_107 rfl ?_
  refine lv_iconst (v := 1) hx hb dX9_init_108 (by decide) ?_
  refine lv_iconst (v := 4) hx hb dX9_init_109 (by decide) ?_
  refine vz_Iv (wr := [(h, .inr (9, [.ref qq1, .ref qq3, .ref qq9, .ref qq11, .null, .null, .null, .ref qq13, .null, .null, .null, .null, .null, .null, .ref qq5, .ref qq7, .int 0])), tT qq1 aq2 (nI 1) (nI 1000) 0, tA g aq2 1000 (fun _ => 0), (qq3, .inr (5, [.ref (a4 0), .int 0])), tT (a4 0) (a4 1) (nI 3) (nI 1001) 0, tA g (a4 1) 3003 (fun _ => 0), (qq5, .inr (2, [.ref (a6 0), .ref (a6 2), .ref (a6 4), .ref (a6 6), .ref (a6 8)])), tT (a6 0) (a6 1) (nI 12) (nI 80) 0, tT (a6 4) (a6 5) (nI 5) (nI 112) 0, tT (a6 8) (a6 9) (nI 2) (nI 8) 0, (qq7, .inr (2, [.ref (a8 0), .ref (a8 2), .ref (a8 4), .ref (a8 6), .ref (a8 8)])), tT (a8 0) (a8 1) (nI 12) (nI 80) 0, tT (a8 2) (a8 3) (nI 5) (nI 1000) 0, tT (a8 4) (a8 5) (nI 5) (nI 112) 0, tT (a8 6) (a8 7) (nI 1) (nI 16) 0, tA g (a8 7) 16 (fun _ => 0), tT (a8 8) (a8 9) (nI 2) (nI 8) 0, tA g (a8 9) 16 (fun _ => 0), (qq9, .inr (3, [.ref (a4 0), .ref (a10 0), .ref (a10 2), .ref (a10 4), .ref qq7, .int 0, .int 0, .int 0, .int 0, .int (-9), .int 0, .int 0])), tT (a10 0) (a10 1) (nI 1) (nI 6) 0, tT (a10 2) (a10 3) (nI 1) (nI 6) 0, tT (a10 4) (a10 5) (nI 1) (nI 80) 0, tA g (a10 5) 80 (fun _ => 0), (qq11, .inr (0, [.ref (a12 0), .ref (a12 2), .ref (a12 4), .ref qq5, .int 0, .int 0, .int 0, .int 0])), tT qq13 aq14 (nI 4) (nI 30) 0]) (As := [.int 1, .int 4]) (rest := [.ref qq15, .ref h]) hx hb hml hown hts hK hA hP hD hS (c_T_init l D g qq15 H.size 4 1 4 (by decide +kernel)) ki_X9_11 (⟨Nat.le_of_ble_eq_true rfl, Nat.le_of_ble_eq_true rfl⟩) [25] [0, 1, 2, 3, 4, 5, 6, 7, 8, 9, 10, 11, 12, 13, 14, 15, 16, 17, 18, 19, 20, 21, 22, 23, 24] rfl rfl (by decide) hl.1 (Nat.le_of_ble_eq_true rfl) dX9_init_110 (⟨Nat.le_of_ble_eq_true rfl, Nat.le_of_ble_eq_true rfl⟩) rfl (fun aq16 H locs _ _ hP hD hS => ?_)
  refine W.cs (cells' := 45) (slots' := 37319) rfl rfl ?_
  have hP : va_P D vwCl [(h, .inr (9, [.ref qq1, .ref qq3, .ref qq9, .ref qq11, .null, .null, .null, .ref qq13, .null, .null, .null, .null, .null, .null, .ref qq5, .ref qq7, .int 0])), tT qq1 aq2 (nI 1) (nI 1000) 0, tA g aq2 1000 (fun _ => 0), (qq3, .inr (5, [.ref (a4 0), .int 0])), tT (a4 0) (a4 1) (nI 3) (nI 1001) 0, tA g (a4 1) 3003 (fun _ => 0), (qq5, .inr (2, [.ref (a6 0), .ref (a6 2), .ref (a6 4), .ref (a6 6), .ref (a6 8)])), tT (a6 0) (a6 1) (nI 12) (nI 80) 0, tT (a6 4) (a6 5) (nI 5) (nI 112) 0, tT (a6 8) (a6 9) (nI 2) (nI 8) 0, (qq7, .inr (2, [.ref (a8 0), .ref (a8 2), .ref (a8 4), .ref (a8 6), .ref (a8 8)])), tT (a8 0) (a8 1) (nI 12) (nI 80) 0, tT (a8 2) (a8 3) (nI 5) (nI 1000) 0, tT (a8 4) (a8 5) (nI 5) (nI 112) 0, tT (a8 6) (a8 7) (nI 1) (nI 16) 0, tA g (a8 7) 16 (fun _ => 0), tT (a8 8) (a8 9) (nI 2) (nI 8) 0, tA g (a8 9) 16 (fun _ => 0), (qq9, .inr (3, [.ref (a4 0), .ref (a10 0), .ref (a10 2), .ref (a10 4), .ref qq7, .int 0, .int 0, .int 0, .int 0, .int (-9), .int 0, .int 0])), tT (a10 0) (a10 1) (nI 1) (nI 6) 0, tT (a10 2) (a10 3) (nI 1) (nI 6) 0, tT (a10 4) (a10 5) (nI 1) (nI 80) 0, tA g (a10 5) 80 (fun _ => 0), (qq11, .inr (0, [.ref (a12 0), .ref (a12 2), .ref (a12 4), .ref qq5, .int 0, .int 0, .int 0, .int 0])), tT qq13 aq14 (nI 4) (nI 30) 0, tT qq15 aq16 (nI 4) (nI 1) 0, tA g aq16 4 (fun _ => 0)] H := hP
  have hD : va_D A [(h, .inr (9, [.ref qq1, .ref qq3, .ref qq9, .ref qq11, .null, .null, .null, .ref qq13, .null, .null, .null, .null, .null, .null, .ref qq5, .ref qq7, .int 0])), tT qq1 aq2 (nI 1) (nI 1000) 0, tA g aq2 1000 (fun _ => 0), (qq3, .inr (5, [.ref (a4 0), .int 0])), tT (a4 0) (a4 1) (nI 3) (nI 1001) 0, tA g (a4 1) 3003 (fun _ => 0), (qq5, .inr (2, [.ref (a6 0), .ref (a6 2), .ref (a6 4), .ref (a6 6), .ref (a6 8)])), tT (a6 0) (a6 1) (nI 12) (nI 80) 0, tT (a6 4) (a6 5) (nI 5) (nI 112) 0, tT (a6 8) (a6 9) (nI 2) (nI 8) 0, (qq7, .inr (2, [.ref (a8 0), .ref (a8 2), .ref (a8 4), .ref (a8 6), .ref (a8 8)])), tT (a8 0) (a8 1) (nI 12) (nI 80) 0, tT (a8 2) (a8 3) (nI 5) (nI 1000) 0, tT (a8 4) (a8 5) (nI 5) (nI 112) 0, tT (a8 6) (a8 7) (nI 1) (nI 16) 0, tA g (a8 7) 16 (fun _ => 0), tT (a8 8) (a8 9) (nI 2) (nI 8) 0, tA g (a8 9) 16 (fun _ => 0), (qq9, .inr (3, [.ref (a4 0), .ref (a10 0), .ref (a10 2), .ref (a10 4), .ref qq7, .int 0, .int 0, .int 0, .int 0, .int (-9), .int 0, .int 0])), tT (a10 0) (a10 1) (nI 1) (nI 6) 0, tT (a10 2) (a10 3) (nI 1) (nI 6) 0, tT (a10 4) (a10 5) (nI 1) (nI 80) 0, tA g (a10 5) 80 (fun _ => 0), (qq11, .inr (0, [.ref (a12 0), .ref (a12 2), .ref (a12 4), .ref qq5, .int 0, .int 0, .int 0, .int 0])), tT qq13 aq14 (nI 4) (nI 30) 0, tT qq15 aq16 (nI 4) (nI 1) 0, tA g aq16 4 (fun _ => 0)] := hD
  have hP : va_P D vwCl [(h, .inr (9, [.ref qq1, .ref qq3, .ref qq9, .ref qq11, .null, .null, .null, .ref qq13, .null, .null, .null, .null, .null, .null, .ref qq5, .ref qq7, .int 0])), tT qq1 aq2 (nI 1) (nI 1000) 0, tA g aq2 1000 (fun _ => 0), (qq3, .inr (5, [.ref (a4 0), .int 0])), tT (a4 0) (a4 1) (nI 3) (nI 1001) 0, tA g (a4 1) 3003 (fun _ => 0), (qq5, .inr (2, [.ref (a6 0), .ref (a6 2), .ref (a6 4), .ref (a6 6), .ref (a6 8)])), tT (a6 0) (a6 1) (nI 12) (nI 80) 0, tT (a6 4) (a6 5) (nI 5) (nI 112) 0, tT (a6 8) (a6 9) (nI 2) (nI 8) 0, (qq7, .inr (2, [.ref (a8 0), .ref (a8 2), .ref (a8 4), .ref (a8 6), .ref (a8 8)])), tT (a8 0) (a8 1) (nI 12) (nI 80) 0, tT (a8 2) (a8 3) (nI 5) (nI 1000) 0, tT (a8 4) (a8 5) (nI 5) (nI 112) 0, tT (a8 6) (a8 7) (nI 1) (nI 16) 0, tA g (a8 7) 16 (fun _ => 0), tT (a8 8) (a8 9) (nI 2) (nI 8) 0, tA g (a8 9) 16 (fun _ => 0), (qq9, .inr (3, [.ref (a4 0), .ref (a10 0), .ref (a10 2), .ref (a10 4), .ref qq7, .int 0, .int 0, .int 0, .int 0, .int (-9), .int 0, .int 0])), tT (a10 0) (a10 1) (nI 1) (nI 6) 0, tT (a10 2) (a10 3) (nI 1) (nI 6) 0, tT (a10 4) (a10 5) (nI 1) (nI 80) 0, tA g (a10 5) 80 (fun _ => 0), (qq11, .inr (0, [.ref (a12 0), .ref (a12 2), .ref (a12 4), .ref qq5, .int 0, .int 0, .int 0, .int 0])), tT qq13 aq14 (nI 4) (nI 30) 0] H := vz_pickP hP [0, 1, 2, 3, 4, 5, 6, 7, 8, 9, 10, 11, 12, 13, 14, 15, 16, 17, 18, 19, 20, 21, 22, 23, 24] rfl
  have hD : va_D A [(h, .inr (9, [.ref qq1, .ref qq3, .ref qq9, .ref qq11, .null, .null, .null, .ref qq13, .null, .null, .null, .null, .null, .null, .ref qq5, .ref qq7, .int 0])), tT qq1 aq2 (nI 1) (nI 1000) 0, tA g aq2 1000 (fun _ => 0), (qq3, .inr (5, [.ref (a4 0), .int 0])), tT (a4 0) (a4 1) (nI 3) (nI 1001) 0, tA g (a4 1) 3003 (fun _ => 0), (qq5, .inr (2, [.ref (a6 0), .ref (a6 2), .ref (a6 4), .ref (a6 6), .ref (a6 8)])), tT (a6 0) (a6 1) (nI 12) (nI 80) 0, tT (a6 4) (a6 5) (nI 5) (nI 112) 0, tT (a6 8) (a6 9) (nI 2) (nI 8) 0, (qq7, .inr (2, [.ref (a8 0), .ref (a8 2), .ref (a8 4), .ref (a8 6), .ref (a8 8)])), tT (a8 0) (a8 1) (nI 12) (nI 80) 0, tT (a8 2) (a8 3) (nI 5) (nI 1000) 0, tT (a8 4) (a8 5) (nI 5) (nI 112) 0, tT (a8 6) (a8 7) (nI 1) (nI 16) 0, tA g (a8 7) 16 (fun _ => 0), tT (a8 8) (a8 9) (nI 2) (nI 8) 0, tA g (a8 9) 16 (fun _ => 0), (qq9, .inr (3, [.ref (a4 0), .ref (a10 0), .ref (a10 2), .ref (a10 4), .ref qq7, .int 0, .int 0, .int 0, .int 0, .int (-9), .int 0, .int 0])), tT (a10 0) (a10 1) (nI 1) (nI 6) 0, tT (a10 2) (a10 3) (nI 1) (nI 6) 0, tT (a10 4) (a10 5) (nI 1) (nI 80) 0, tA g (a10 5) 80 (fun _ => 0), (qq11, .inr (0, [.ref (a12 0), .ref (a12 2), .ref (a12 4), .ref qq5, .int 0, .int 0, .int 0, .int 0])), tT qq13 aq14 (nI 4) (nI 30) 0] := hD.sub [0, 1, 2, 3, 4, 5, 6, 7, 8, 9, 10, 11, 12, 13, 14, 15, 16, 17, 18, 19, 20, 21, 22, 23, 24] (by decide) rfl
  refine va_putF (D := D) (ci := 9) (v := .ref qq15) (ty := .object "WaysAtlas$Table") (C := RX9) (T := TX9) (N := 17) hx hb hts inlX9 tyX9 tyX9_ok nmX9 hown hK hP hD hS 0 rfl rfl 8 (by decide) (hts _ q36) (fun _ h => h) rfl hin rfl (by decide +kernel) rfl rfl (Nat.le_of_ble_eq_true rfl) dX9_init_113 (fun H locs hP hD hS => ?_)
  have hP : va_P D vwCl [(h, .inr (9, [.ref qq1, .ref qq3, .ref qq9, .ref qq11, .null, .null, .null, .ref qq13, .ref qq15, .null, .null, .null, .null, .null, .ref qq5, .ref qq7, .int 0])), tT qq1 aq2 (nI 1) (nI 1000) 0, tA g aq2 1000 (fun _ => 0), (qq3, .inr (5, [.ref (a4 0), .int 0])), tT (a4 0) (a4 1) (nI 3) (nI 1001) 0, tA g (a4 1) 3003 (fun _ => 0), (qq5, .inr (2, [.ref (a6 0), .ref (a6 2), .ref (a6 4), .ref (a6 6), .ref (a6 8)])), tT (a6 0) (a6 1) (nI 12) (nI 80) 0, tT (a6 4) (a6 5) (nI 5) (nI 112) 0, tT (a6 8) (a6 9) (nI 2) (nI 8) 0, (qq7, .inr (2, [.ref (a8 0), .ref (a8 2), .ref (a8 4), .ref (a8 6), .ref (a8 8)])), tT (a8 0) (a8 1) (nI 12) (nI 80) 0, tT (a8 2) (a8 3) (nI 5) (nI 1000) 0, tT (a8 4) (a8 5) (nI 5) (nI 112) 0, tT (a8 6) (a8 7) (nI 1) (nI 16) 0, tA g (a8 7) 16 (fun _ => 0), tT (a8 8) (a8 9) (nI 2) (nI 8) 0, tA g (a8 9) 16 (fun _ => 0), (qq9, .inr (3, [.ref (a4 0), .ref (a10 0), .ref (a10 2), .ref (a10 4), .ref qq7, .int 0, .int 0, .int 0, .int 0, .int (-9), .int 0, .int 0])), tT (a10 0) (a10 1) (nI 1) (nI 6) 0, tT (a10 2) (a10 3) (nI 1) (nI 6) 0, tT (a10 4) (a10 5) (nI 1) (nI 80) 0, tA g (a10 5) 80 (fun _ => 0), (qq11, .inr (0, [.ref (a12 0), .ref (a12 2), .ref (a12 4), .ref qq5, .int 0, .int 0, .int 0, .int 0])), tT qq13 aq14 (nI 4) (nI 30) 0] H := hP
  have hD : va_D A [(h, .inr (9, [.ref qq1, .ref qq3, .ref qq9, .ref qq11, .null, .null, .null, .ref qq13, .ref qq15, .null, .null, .null, .null, .null, .ref qq5, .ref qq7, .int 0])), tT qq1 aq2 (nI 1) (nI 1000) 0, tA g aq2 1000 (fun _ => 0), (qq3, .inr (5, [.ref (a4 0), .int 0])), tT (a4 0) (a4 1) (nI 3) (nI 1001) 0, tA g (a4 1) 3003 (fun _ => 0), (qq5, .inr (2, [.ref (a6 0), .ref (a6 2), .ref (a6 4), .ref (a6 6), .ref (a6 8)])), tT (a6 0) (a6 1) (nI 12) (nI 80) 0, tT (a6 4) (a6 5) (nI 5) (nI 112) 0, tT (a6 8) (a6 9) (nI 2) (nI 8) 0, (qq7, .inr (2, [.ref (a8 0), .ref (a8 2), .ref (a8 4), .ref (a8 6), .ref (a8 8)])), tT (a8 0) (a8 1) (nI 12) (nI 80) 0, tT (a8 2) (a8 3) (nI 5) (nI 1000) 0, tT (a8 4) (a8 5) (nI 5) (nI 112) 0, tT (a8 6) (a8 7) (nI 1) (nI 16) 0, tA g (a8 7) 16 (fun _ => 0), tT (a8 8) (a8 9) (nI 2) (nI 8) 0, tA g (a8 9) 16 (fun _ => 0), (qq9, .inr (3, [.ref (a4 0), .ref (a10 0), .ref (a10 2), .ref (a10 4), .ref qq7, .int 0, .int 0, .int 0, .int 0, .int (-9), .int 0, .int 0])), tT (a10 0) (a10 1) (nI 1) (nI 6) 0, tT (a10 2) (a10 3) (nI 1) (nI 6) 0, tT (a10 4) (a10 5) (nI 1) (nI 80) 0, tA g (a10 5) 80 (fun _ => 0), (qq11, .inr (0, [.ref (a12 0), .ref (a12 2), .ref (a12 4), .ref qq5, .int 0, .int 0, .int 0, .int 0])), tT qq13 aq14 (nI 4) (nI 30) 0] := hD
  refine lv_aload_n hx hb dX9_init_116 rfl (lv_at hl 0 rfl) ?_
  refine va_new (ci := 6) (fs := [.null, .int 0, .int 0, .int 0]) (C := RX6) (T := TX6) (N := 4) hx hb hts inlX6 tyX6 tyX6_ok hown (hts _ q13) (hts _ q14) (hts _ q15) hK hP hD hS hA rfl (lt_s (lt_s (lt_s (lt_s (lt_0) rfl) rfl) rfl) rfl) (Nat.le_of_ble_eq_true rfl) (Nat.le_of_ble_eq_true rfl) dX9_init_117 (fun qq17 H hP hD hS => ?_)
  refine W.cs (cells' := 46) (slots' := 37323) rfl rfl ?_
  have hP : va_P D vwCl [(h, .inr (9, [.ref qq1, .ref qq3, .ref qq9, .ref qq11, .null, .null, .null, .ref qq13, .ref qq15, .null, .null, .null, .null, .null, .ref qq5, .ref qq7, .int 0])), tT qq1 aq2 (nI 1) (nI 1000) 0, tA g aq2 1000 (fun _ => 0), (qq3, .inr (5, [.ref (a4 0), .int 0])), tT (a4 0) (a4 1) (nI 3) (nI 1001) 0, tA g (a4 1) 3003 (fun _ => 0), (qq5, .inr (2, [.ref (a6 0), .ref (a6 2), .ref (a6 4), .ref (a6 6), .ref (a6 8)])), tT (a6 0) (a6 1) (nI 12) (nI 80) 0, tT (a6 4) (a6 5) (nI 5) (nI 112) 0, tT (a6 8) (a6 9) (nI 2) (nI 8) 0, (qq7, .inr (2, [.ref (a8 0), .ref (a8 2), .ref (a8 4), .ref (a8 6), .ref (a8 8)])), tT (a8 0) (a8 1) (nI 12) (nI 80) 0, tT (a8 2) (a8 3) (nI 5) (nI 1000) 0, tT (a8 4) (a8 5) (nI 5) (nI 112) 0, tT (a8 6) (a8 7) (nI 1) (nI 16) 0, tA g (a8 7) 16 (fun _ => 0), tT (a8 8) (a8 9) (nI 2) (nI 8) 0, tA g (a8 9) 16 (fun _ => 0), (qq9, .inr (3, [.ref (a4 0), .ref (a10 0), .ref (a10 2), .ref (a10 4), .ref qq7, .int 0, .int 0, .int 0, .int 0, .int (-9), .int 0, .int 0])), tT (a10 0) (a10 1) (nI 1) (nI 6) 0, tT (a10 2) (a10 3) (nI 1) (nI 6) 0, tT (a10 4) (a10 5) (nI 1) (nI 80) 0, tA g (a10 5) 80 (fun _ => 0), (qq11, .inr (0, [.ref (a12 0), .ref (a12 2), .ref (a12 4), .ref qq5, .int 0, .int 0, .int 0, .int 0])), tT qq13 aq14 (nI 4) (nI 30) 0, (qq17, .inr (6, [.null, .int 0, .int 0, .int 0]))] H := hP
  have hD : va_D A [(h, .inr (9, [.ref qq1, .ref qq3, .ref qq9, .ref qq11, .null, .null, .null, .ref qq13, .ref qq15, .null, .null, .null, .null, .null, .ref qq5, .ref qq7, .int 0])), tT qq1 aq2 (nI 1) (nI 1000) 0, tA g aq2 1000 (fun _ => 0), (qq3, .inr (5, [.ref (a4 0), .int 0])), tT (a4 0) (a4 1) (nI 3) (nI 1001) 0, tA g (a4 1) 3003 (fun _ => 0), (qq5, .inr (2, [.ref (a6 0), .ref (a6 2), .ref (a6 4), .ref (a6 6), .ref (a6 8)])), tT (a6 0) (a6 1) (nI 12) (nI 80) 0, tT (a6 4) (a6 5) (nI 5) (nI 112) 0, tT (a6 8) (a6 9) (nI 2) (nI 8) 0, (qq7, .inr (2, [.ref (a8 0), .ref (a8 2), .ref (a8 4), .ref (a8 6), .ref (a8 8)])), tT (a8 0) (a8 1) (nI 12) (nI 80) 0, tT (a8 2) (a8 3) (nI 5) (nI 1000) 0, tT (a8 4) (a8 5) (nI 5) (nI 112) 0, tT (a8 6) (a8 7) (nI 1) (nI 16) 0, tA g (a8 7) 16 (fun _ => 0), tT (a8 8) (a8 9) (nI 2) (nI 8) 0, tA g (a8 9) 16 (fun _ => 0), (qq9, .inr (3, [.ref (a4 0), .ref (a10 0), .ref (a10 2), .ref (a10 4), .ref qq7, .int 0, .int 0, .int 0, .int 0, .int (-9), .int 0, .int 0])), tT (a10 0) (a10 1) (nI 1) (nI 6) 0, tT (a10 2) (a10 3) (nI 1) (nI 6) 0, tT (a10 4) (a10 5) (nI 1) (nI 80) 0, tA g (a10 5) 80 (fun _ => 0), (qq11, .inr (0, [.ref (a12 0), .ref (a12 2), .ref (a12 4), .ref qq5, .int 0, .int 0, .int 0, .int 0])), tT qq13 aq14 (nI 4) (nI 30) 0, (qq17, .inr (6, [.null, .int 0, .int 0, .int 0]))] := hD
  refine lv_dup hx hb dX9_init_120 rfl ?_
  refine lv_bipush (v := 61) hx hb dX9_init_121 (by decide) ?_
  refine lv_iconst (v := 4) hx hb dX9_init_123 (by decide) ?_
  refine vz_Iv (wr := [(h, .inr (9, [.ref qq1, .ref qq3, .ref qq9, .ref qq11, .null, .null, .null, .ref qq13, .ref qq15, .null, .null, .null, .null, .null, .ref qq5, .ref qq7, .int 0])), tT qq1 aq2 (nI 1) (nI 1000) 0, tA g aq2 1000 (fun _ => 0), (qq3, .inr (5, [.ref (a4 0), .int 0])), tT (a4 0) (a4 1) (nI 3) (nI 1001) 0, tA g (a4 1) 3003 (fun _ => 0), (qq5, .inr (2, [.ref (a6 0), .ref (a6 2), .ref (a6 4), .ref (a6 6), .ref (a6 8)])), tT (a6 0) (a6 1) (nI 12) (nI 80) 0, tT (a6 4) (a6 5) (nI 5) (nI 112) 0, tT (a6 8) (a6 9) (nI 2) (nI 8) 0, (qq7, .inr (2, [.ref (a8 0), .ref (a8 2), .ref (a8 4), .ref (a8 6), .ref (a8 8)])), tT (a8 0) (a8 1) (nI 12) (nI 80) 0, tT (a8 2) (a8 3) (nI 5) (nI 1000) 0, tT (a8 4) (a8 5) (nI 5) (nI 112) 0, tT (a8 6) (a8 7) (nI 1) (nI 16) 0, tA g (a8 7) 16 (fun _ => 0), tT (a8 8) (a8 9) (nI 2) (nI 8) 0, tA g (a8 9) 16 (fun _ => 0), (qq9, .inr (3, [.ref (a4 0), .ref (a10 0), .ref (a10 2), .ref (a10 4), .ref qq7, .int 0, .int 0, .int 0, .int 0, .int (-9), .int 0, .int 0])), tT (a10 0) (a10 1) (nI 1) (nI 6) 0, tT (a10 2) (a10 3) (nI 1) (nI 6) 0, tT (a10 4) (a10 5) (nI 1) (nI 80) 0, tA g (a10 5) 80 (fun _ => 0), (qq11, .inr (0, [.ref (a12 0), .ref (a12 2), .ref (a12 4), .ref qq5, .int 0, .int 0, .int 0, .int 0])), tT qq13 aq14 (nI 4) (nI 30) 0]) (As := [.int 61, .int 4]) (rest := [.ref qq17, .ref h]) hx hb hml hown hts hK hA hP hD hS (c_T_init l D g qq17 H.size 4 61 244 (by decide +kernel)) ki_X9_11 (⟨Nat.le_of_ble_eq_true rfl, Nat.le_of_ble_eq_true rfl⟩) [25] [0, 1, 2, 3, 4, 5, 6, 7, 8, 9, 10, 11, 12, 13, 14, 15, 16, 17, 18, 19, 20, 21, 22, 23, 24] rfl rfl (by decide) hl.1 (Nat.le_of_ble_eq_true rfl) dX9_init_124 (⟨Nat.le_of_ble_eq_true rfl, Nat.le_of_ble_eq_true rfl⟩) rfl (fun aq18 H locs _ _ hP hD hS => ?_)
  refine W.cs (cells' := 47) (slots' := 37567) rfl rfl ?_
  have hP : va_P D vwCl [(h, .inr (9, [.ref qq1, .ref qq3, .ref qq9, .ref qq11, .null, .null, .null, .ref qq13, .ref qq15, .null, .null, .null, .null, .null, .ref qq5, .ref qq7, .int 0])), tT qq1 aq2 (nI 1) (nI 1000) 0, tA g aq2 1000 (fun _ => 0), (qq3, .inr (5, [.ref (a4 0), .int 0])), tT (a4 0) (a4 1) (nI 3) (nI 1001) 0, tA g (a4 1) 3003 (fun _ => 0), (qq5, .inr (2, [.ref (a6 0), .ref (a6 2), .ref (a6 4), .ref (a6 6), .ref (a6 8)])), tT (a6 0) (a6 1) (nI 12) (nI 80) 0, tT (a6 4) (a6 5) (nI 5) (nI 112) 0, tT (a6 8) (a6 9) (nI 2) (nI 8) 0, (qq7, .inr (2, [.ref (a8 0), .ref (a8 2), .ref (a8 4), .ref (a8 6), .ref (a8 8)])), tT (a8 0) (a8 1) (nI 12) (nI 80) 0, tT (a8 2) (a8 3) (nI 5) (nI 1000) 0, tT (a8 4) (a8 5) (nI 5) (nI 112) 0, tT (a8 6) (a8 7) (nI 1) (nI 16) 0, tA g (a8 7) 16 (fun _ => 0), tT (a8 8) (a8 9) (nI 2) (nI 8) 0, tA g (a8 9) 16 (fun _ => 0), (qq9, .inr (3, [.ref (a4 0), .ref (a10 0), .ref (a10 2), .ref (a10 4), .ref qq7, .int 0, .int 0, .int 0, .int 0, .int (-9), .int 0, .int 0])), tT (a10 0) (a10 1) (nI 1) (nI 6) 0, tT (a10 2) (a10 3) (nI 1) (nI 6) 0, tT (a10 4) (a10 5) (nI 1) (nI 80) 0, tA g (a10 5) 80 (fun _ => 0), (qq11, .inr (0, [.ref (a12 0), .ref (a12 2), .ref (a12 4), .ref qq5, .int 0, .int 0, .int 0, .int 0])), tT qq13 aq14 (nI 4) (nI 30) 0, tT qq17 aq18 (nI 4) (nI 61) 0, tA g aq18 244 (fun _ => 0)] H := hP
  have hD : va_D A [(h, .inr (9, [.ref qq1, .ref qq3, .ref qq9, .ref qq11, .null, .null, .null, .ref qq13, .ref qq15, .null, .null, .null, .null, .null, .ref qq5, .ref qq7, .int 0])), tT qq1 aq2 (nI 1) (nI 1000) 0, tA g aq2 1000 (fun _ => 0), (qq3, .inr (5, [.ref (a4 0), .int 0])), tT (a4 0) (a4 1) (nI 3) (nI 1001) 0, tA g (a4 1) 3003 (fun _ => 0), (qq5, .inr (2, [.ref (a6 0), .ref (a6 2), .ref (a6 4), .ref (a6 6), .ref (a6 8)])), tT (a6 0) (a6 1) (nI 12) (nI 80) 0, tT (a6 4) (a6 5) (nI 5) (nI 112) 0, tT (a6 8) (a6 9) (nI 2) (nI 8) 0, (qq7, .inr (2, [.ref (a8 0), .ref (a8 2), .ref (a8 4), .ref (a8 6), .ref (a8 8)])), tT (a8 0) (a8 1) (nI 12) (nI 80) 0, tT (a8 2) (a8 3) (nI 5) (nI 1000) 0, tT (a8 4) (a8 5) (nI 5) (nI 112) 0, tT (a8 6) (a8 7) (nI 1) (nI 16) 0, tA g (a8 7) 16 (fun _ => 0), tT (a8 8) (a8 9) (nI 2) (nI 8) 0, tA g (a8 9) 16 (fun _ => 0), (qq9, .inr (3, [.ref (a4 0), .ref (a10 0), .ref (a10 2), .ref (a10 4), .ref qq7, .int 0, .int 0, .int 0, .int 0, .int (-9), .int 0, .int 0])), tT (a10 0) (a10 1) (nI 1) (nI 6) 0, tT (a10 2) (a10 3) (nI 1) (nI 6) 0, tT (a10 4) (a10 5) (nI 1) (nI 80) 0, tA g (a10 5) 80 (fun _ => 0), (qq11, .inr (0, [.ref (a12 0), .ref (a12 2), .ref (a12 4), .ref qq5, .int 0, .int 0, .int 0, .int 0])), tT qq13 aq14 (nI 4) (nI 30) 0, tT qq17 aq18 (nI 4) (nI 61) 0, tA g aq18 244 (fun _ => 0)] := hD
  have hP : va_P D vwCl [(h, .inr (9, [.ref qq1, .ref qq3, .ref qq9, .ref qq11, .null, .null, .null, .ref qq13, .ref qq15, .null, .null, .null, .null, .null, .ref qq5, .ref qq7, .int 0])), tT qq1 aq2 (nI 1) (nI 1000) 0, tA g aq2 1000 (fun _ => 0), (qq3, .inr (5, [.ref (a4 0), .int 0])), tT (a4 0) (a4 1) (nI 3) (nI 1001) 0, tA g (a4 1) 3003 (fun _ => 0), (qq5, .inr (2, [.ref (a6 0), .ref (a6 2), .ref (a6 4), .ref (a6 6), .ref (a6 8)])), tT (a6 0) (a6 1) (nI 12) (nI 80) 0, tT (a6 4) (a6 5) (nI 5) (nI 112) 0, tT (a6 8) (a6 9) (nI 2) (nI 8) 0, (qq7, .inr (2, [.ref (a8 0), .ref (a8 2), .ref (a8 4), .ref (a8 6), .ref (a8 8)])), tT (a8 0) (a8 1) (nI 12) (nI 80) 0, tT (a8 2) (a8 3) (nI 5) (nI 1000) 0, tT (a8 4) (a8 5) (nI 5) (nI 112) 0, tT (a8 6) (a8 7) (nI 1) (nI 16) 0, tA g (a8 7) 16 (fun _ => 0), tT (a8 8) (a8 9) (nI 2) (nI 8) 0, tA g (a8 9) 16 (fun _ => 0), (qq9, .inr (3, [.ref (a4 0), .ref (a10 0), .ref (a10 2), .ref (a10 4), .ref qq7, .int 0, .int 0, .int 0, .int 0, .int (-9), .int 0, .int 0])), tT (a10 0) (a10 1) (nI 1) (nI 6) 0, tT (a10 2) (a10 3) (nI 1) (nI 6) 0, tT (a10 4) (a10 5) (nI 1) (nI 80) 0, tA g (a10 5) 80 (fun _ => 0), (qq11, .inr (0, [.ref (a12 0), .ref (a12 2), .ref (a12 4), .ref qq5, .int 0, .int 0, .int 0, .int 0])), tT qq13 aq14 (nI 4) (nI 30) 0] H := vz_pickP hP [0, 1, 2, 3, 4, 5, 6, 7, 8, 9, 10, 11, 12, 13, 14, 15, 16, 17, 18, 19, 20, 21, 22, 23, 24] rfl
  have hD : va_D A [(h, .inr (9, [.ref qq1, .ref qq3, .ref qq9, .ref qq11, .null, .null, .null, .ref qq13, .ref qq15, .null, .null, .null, .null, .null, .ref qq5, .ref qq7, .int 0])), tT qq1 aq2 (nI 1) (nI 1000) 0, tA g aq2 1000 (fun _ => 0), (qq3, .inr (5, [.ref (a4 0), .int 0])), tT (a4 0) (a4 1) (nI 3) (nI 1001) 0, tA g (a4 1) 3003 (fun _ => 0), (qq5, .inr (2, [.ref (a6 0), .ref (a6 2), .ref (a6 4), .ref (a6 6), .ref (a6 8)])), tT (a6 0) (a6 1) (nI 12) (nI 80) 0, tT (a6 4) (a6 5) (nI 5) (nI 112) 0, tT (a6 8) (a6 9) (nI 2) (nI 8) 0, (qq7, .inr (2, [.ref (a8 0), .ref (a8 2), .ref (a8 4), .ref (a8 6), .ref (a8 8)])), tT (a8 0) (a8 1) (nI 12) (nI 80) 0, tT (a8 2) (a8 3) (nI 5) (nI 1000) 0, tT (a8 4) (a8 5) (nI 5) (nI 112) 0, tT (a8 6) (a8 7) (nI 1) (nI 16) 0, tA g (a8 7) 16 (fun _ => 0), tT (a8 8) (a8 9) (nI 2) (nI 8) 0, tA g (a8 9) 16 (fun _ => 0), (qq9, .inr (3, [.ref (a4 0), .ref (a10 0), .ref (a10 2), .ref (a10 4), .ref qq7, .int 0, .int 0, .int 0, .int 0, .int (-9), .int 0, .int 0])), tT (a10 0) (a10 1) (nI 1) (nI 6) 0, tT (a10 2) (a10 3) (nI 1) (nI 6) 0, tT (a10 4) (a10 5) (nI 1) (nI 80) 0, tA g (a10 5) 80 (fun _ => 0), (qq11, .inr (0, [.ref (a12 0), .ref (a12 2), .ref (a12 4), .ref qq5, .int 0, .int 0, .int 0, .int 0])), tT qq13 aq14 (nI 4) (nI 30) 0] := hD.sub [0, 1, 2, 3, 4, 5, 6, 7, 8, 9, 10, 11, 12, 13, 14, 15, 16, 17, 18, 19, 20, 21, 22, 23, 24] (by decide) rfl
  refine va_putF (D := D) (ci := 9) (v := .ref qq17) (ty := .object "WaysAtlas$Table") (C := RX9) (T := TX9) (N := 17) hx hb hts inlX9 tyX9 tyX9_ok nmX9 hown hK hP hD hS 0 rfl rfl 9 (by decide) (hts _ q37) (fun _ h => h) rfl hin rfl (by decide +kernel) rfl rfl (Nat.le_of_ble_eq_true rfl) dX9_init_127 (fun H locs hP hD hS => ?_)
  have hP : va_P D vwCl [(h, .inr (9, [.ref qq1, .ref qq3, .ref qq9, .ref qq11, .null, .null, .null, .ref qq13, .ref qq15, .ref qq17, .null, .null, .null, .null, .ref qq5, .ref qq7, .int 0])), tT qq1 aq2 (nI 1) (nI 1000) 0, tA g aq2 1000 (fun _ => 0), (qq3, .inr (5, [.ref (a4 0), .int 0])), tT (a4 0) (a4 1) (nI 3) (nI 1001) 0, tA g (a4 1) 3003 (fun _ => 0), (qq5, .inr (2, [.ref (a6 0), .ref (a6 2), .ref (a6 4), .ref (a6 6), .ref (a6 8)])), tT (a6 0) (a6 1) (nI 12) (nI 80) 0, tT (a6 4) (a6 5) (nI 5) (nI 112) 0, tT (a6 8) (a6 9) (nI 2) (nI 8) 0, (qq7, .inr (2, [.ref (a8 0), .ref (a8 2), .ref (a8 4), .ref (a8 6), .ref (a8 8)])), tT (a8 0) (a8 1) (nI 12) (nI 80) 0, tT (a8 2) (a8 3) (nI 5) (nI 1000) 0, tT (a8 4) (a8 5) (nI 5) (nI 112) 0, tT (a8 6) (a8 7) (nI 1) (nI 16) 0, tA g (a8 7) 16 (fun _ => 0), tT (a8 8) (a8 9) (nI 2) (nI 8) 0, tA g (a8 9) 16 (fun _ => 0), (qq9, .inr (3, [.ref (a4 0), .ref (a10 0), .ref (a10 2), .ref (a10 4), .ref qq7, .int 0, .int 0, .int 0, .int 0, .int (-9), .int 0, .int 0])), tT (a10 0) (a10 1) (nI 1) (nI 6) 0, tT (a10 2) (a10 3) (nI 1) (nI 6) 0, tT (a10 4) (a10 5) (nI 1) (nI 80) 0, tA g (a10 5) 80 (fun _ => 0), (qq11, .inr (0, [.ref (a12 0), .ref (a12 2), .ref (a12 4), .ref qq5, .int 0, .int 0, .int 0, .int 0])), tT qq13 aq14 (nI 4) (nI 30) 0] H := hP
  have hD : va_D A [(h, .inr (9, [.ref qq1, .ref qq3, .ref qq9, .ref qq11, .null, .null, .null, .ref qq13, .ref qq15, .ref qq17, .null, .null, .null, .null, .ref qq5, .ref qq7, .int 0])), tT qq1 aq2 (nI 1) (nI 1000) 0, tA g aq2 1000 (fun _ => 0), (qq3, .inr (5, [.ref (a4 0), .int 0])), tT (a4 0) (a4 1) (nI 3) (nI 1001) 0, tA g (a4 1) 3003 (fun _ => 0), (qq5, .inr (2, [.ref (a6 0), .ref (a6 2), .ref (a6 4), .ref (a6 6), .ref (a6 8)])), tT (a6 0) (a6 1) (nI 12) (nI 80) 0, tT (a6 4) (a6 5) (nI 5) (nI 112) 0, tT (a6 8) (a6 9) (nI 2) (nI 8) 0, (qq7, .inr (2, [.ref (a8 0), .ref (a8 2), .ref (a8 4), .ref (a8 6), .ref (a8 8)])), tT (a8 0) (a8 1) (nI 12) (nI 80) 0, tT (a8 2) (a8 3) (nI 5) (nI 1000) 0, tT (a8 4) (a8 5) (nI 5) (nI 112) 0, tT (a8 6) (a8 7) (nI 1) (nI 16) 0, tA g (a8 7) 16 (fun _ => 0), tT (a8 8) (a8 9) (nI 2) (nI 8) 0, tA g (a8 9) 16 (fun _ => 0), (qq9, .inr (3, [.ref (a4 0), .ref (a10 0), .ref (a10 2), .ref (a10 4), .ref qq7, .int 0, .int 0, .int 0, .int 0, .int (-9), .int 0, .int 0])), tT (a10 0) (a10 1) (nI 1) (nI 6) 0, tT (a10 2) (a10 3) (nI 1) (nI 6) 0, tT (a10 4) (a10 5) (nI 1) (nI 80) 0, tA g (a10 5) 80 (fun _ => 0), (qq11, .inr (0, [.ref (a12 0), .ref (a12 2), .ref (a12 4), .ref qq5, .int 0, .int 0, .int 0, .int 0])), tT qq13 aq14 (nI 4) (nI 30) 0] := hD
  refine lv_aload_n hx hb dX9_init_130 rfl (lv_at hl 0 rfl) ?_
  refine va_new (ci := 4) (fs := [.null, .null, .null, .null, .null, .int 0, .int 0, .int 0, .int 0, .int 0, .int 0, .int 0]) (C := RX4) (T := TX4) (N := 12) hx hb hts inlX4 tyX4 tyX4_ok hown (hts _ q38) (hts _ q39) (hts _ q40) hK hP hD hS hA rfl (lt_s (lt_s (lt_s (lt_s (lt_s (lt_s (lt_s (lt_s (lt_s (lt_s (lt_s (lt_s (lt_0) rfl) rfl) rfl) rfl) rfl) rfl) rfl) rfl) rfl) rfl) rfl) rfl) (Nat.le_of_ble_eq_true rfl) (Nat.le_of_ble_eq_true rfl) dX9_init_131 (fun qq19 H hP hD hS => ?_)
  refine W.cs (cells' := 48) (slots' := 37579) rfl rfl ?_
  have hP : va_P D vwCl [(h, .inr (9, [.ref qq1, .ref qq3, .ref qq9, .ref qq11, .null, .null, .null, .ref qq13, .ref qq15, .ref qq17, .null, .null, .null, .null, .ref qq5, .ref qq7, .int 0])), tT qq1 aq2 (nI 1) (nI 1000) 0, tA g aq2 1000 (fun _ => 0), (qq3, .inr (5, [.ref (a4 0), .int 0])), tT (a4 0) (a4 1) (nI 3) (nI 1001) 0, tA g (a4 1) 3003 (fun _ => 0), (qq5, .inr (2, [.ref (a6 0), .ref (a6 2), .ref (a6 4), .ref (a6 6), .ref (a6 8)])), tT (a6 0) (a6 1) (nI 12) (nI 80) 0, tT (a6 4) (a6 5) (nI 5) (nI 112) 0, tT (a6 8) (a6 9) (nI 2) (nI 8) 0, (qq7, .inr (2, [.ref (a8 0), .ref (a8 2), .ref (a8 4), .ref (a8 6), .ref (a8 8)])), tT (a8 0) (a8 1) (nI 12) (nI 80) 0, tT (a8 2) (a8 3) (nI 5) (nI 1000) 0, tT (a8 4) (a8 5) (nI 5) (nI 112) 0, tT (a8 6) (a8 7) (nI 1) (nI 16) 0, tA g (a8 7) 16 (fun _ => 0), tT (a8 8) (a8 9) (nI 2) (nI 8) 0, tA g (a8 9) 16 (fun _ => 0), (qq9, .inr (3, [.ref (a4 0), .ref (a10 0), .ref (a10 2), .ref (a10 4), .ref qq7, .int 0, .int 0, .int 0, .int 0, .int (-9), .int 0, .int 0])), tT (a10 0) (a10 1) (nI 1) (nI 6) 0, tT (a10 2) (a10 3) (nI 1) (nI 6) 0, tT (a10 4) (a10 5) (nI 1) (nI 80) 0, tA g (a10 5) 80 (fun _ => 0), (qq11, .inr (0, [.ref (a12 0), .ref (a12 2), .ref (a12 4), .ref qq5, .int 0, .int 0, .int 0, .int 0])), tT qq13 aq14 (nI 4) (nI 30) 0, (qq19, .inr (4, [.null, .null, .null, .null, .null, .int 0, .int 0, .int 0, .int 0, .int 0, .int 0, .int 0]))] H := hP
  have hD : va_D A [(h, .inr (9, [.ref qq1, .ref qq3, .ref qq9, .ref qq11, .null, .null, .null, .ref qq13, .ref qq15, .ref qq17, .null, .null, .null, .null, .ref qq5, .ref qq7, .int 0])), tT qq1 aq2 (nI 1) (nI 1000) 0, tA g aq2 1000 (fun _ => 0), (qq3, .inr (5, [.ref (a4 0), .int 0])), tT (a4 0) (a4 1) (nI 3) (nI 1001) 0, tA g (a4 1) 3003 (fun _ => 0), (qq5, .inr (2, [.ref (a6 0), .ref (a6 2), .ref (a6 4), .ref (a6 6), .ref (a6 8)])), tT (a6 0) (a6 1) (nI 12) (nI 80) 0, tT (a6 4) (a6 5) (nI 5) (nI 112) 0, tT (a6 8) (a6 9) (nI 2) (nI 8) 0, (qq7, .inr (2, [.ref (a8 0), .ref (a8 2), .ref (a8 4), .ref (a8 6), .ref (a8 8)])), tT (a8 0) (a8 1) (nI 12) (nI 80) 0, tT (a8 2) (a8 3) (nI 5) (nI 1000) 0, tT (a8 4) (a8 5) (nI 5) (nI 112) 0, tT (a8 6) (a8 7) (nI 1) (nI 16) 0, tA g (a8 7) 16 (fun _ => 0), tT (a8 8) (a8 9) (nI 2) (nI 8) 0, tA g (a8 9) 16 (fun _ => 0), (qq9, .inr (3, [.ref (a4 0), .ref (a10 0), .ref (a10 2), .ref (a10 4), .ref qq7, .int 0, .int 0, .int 0, .int 0, .int (-9), .int 0, .int 0])), tT (a10 0) (a10 1) (nI 1) (nI 6) 0, tT (a10 2) (a10 3) (nI 1) (nI 6) 0, tT (a10 4) (a10 5) (nI 1) (nI 80) 0, tA g (a10 5) 80 (fun _ => 0), (qq11, .inr (0, [.ref (a12 0), .ref (a12 2), .ref (a12 4), .ref qq5, .int 0, .int 0, .int 0, .int 0])), tT qq13 aq14 (nI 4) (nI 30) 0, (qq19, .inr (4, [.null, .null, .null, .null, .null, .int 0, .int 0, .int 0, .int 0, .int 0, .int 0, .int 0]))] := hD
  refine lv_dup hx hb dX9_init_134 rfl ?_
  refine vz_Iv (wr := [(h, .inr (9, [.ref qq1, .ref qq3, .ref qq9, .ref qq11, .null, .null, .null, .ref qq13, .ref qq15, .ref qq17, .null, .null, .null, .null, .ref qq5, .ref qq7, .int 0])), tT qq1 aq2 (nI 1) (nI 1000) 0, tA g aq2 1000 (fun _ => 0), (qq3, .inr (5, [.ref (a4 0), .int 0])), tT (a4 0) (a4 1) (nI 3) (nI 1001) 0, tA g (a4 1) 3003 (fun _ => 0), (qq5, .inr (2, [.ref (a6 0), .ref (a6 2), .ref (a6 4), .ref (a6 6), .ref (a6 8)])), tT (a6 0) (a6 1) (nI 12) (nI 80) 0, tT (a6 4) (a6 5) (nI 5) (nI 112) 0, tT (a6 8) (a6 9) (nI 2) (nI 8) 0, (qq7, .inr (2, [.ref (a8 0), .ref (a8 2), .ref (a8 4), .ref (a8 6), .ref (a8 8)])), tT (a8 0) (a8 1) (nI 12) (nI 80) 0, tT (a8 2) (a8 3) (nI 5) (nI 1000) 0, tT (a8 4) (a8 5) (nI 5) (nI 112) 0, tT (a8 6) (a8 7) (nI 1) (nI 16) 0, tA g (a8 7) 16 (fun _ => 0), tT (a8 8) (a8 9) (nI 2) (nI 8) 0, tA g (a8 9) 16 (fun _ => 0), (qq9, .inr (3, [.ref (a4 0), .ref (a10 0), .ref (a10 2), .ref (a10 4), .ref qq7, .int 0, .int 0, .int 0, .int 0, .int (-9), .int 0, .int 0])), tT (a10 0) (a10 1) (nI 1) (nI 6) 0, tT (a10 2) (a10 3) (nI 1) (nI 6) 0, tT (a10 4) (a10 5) (nI 1) (nI 80) 0, tA g (a10 5) 80 (fun _ => 0), (qq11, .inr (0, [.ref (a12 0), .ref (a12 2), .ref (a12 4), .ref qq5, .int 0, .int 0, .int 0, .int 0])), tT qq13 aq14 (nI 4) (nI 30) 0]) (As := []) (rest := [.ref qq19, .ref h]) hx hb hml hown hts hK hA hP hD hS (c_C_rec l D g qq19 H.size ) ki_X9_67 (⟨Nat.le_of_ble_eq_true rfl, Nat.le_of_ble_eq_true rfl⟩) [25] [0, 1, 2, 3, 4, 5, 6, 7, 8, 9, 10, 11, 12, 13, 14, 15, 16, 17, 18, 19, 20, 21, 22, 23, 24] rfl rfl (by decide) hl.1 (Nat.le_of_ble_eq_true rfl) dX9_init_135 (⟨Nat.le_of_ble_eq_true rfl, Nat.le_of_ble_eq_true rfl⟩) rfl (fun a20 H locs _ _ hP hD hS => ?_)
  refine W.cs (cells' := 58) (slots' := 42482) rfl rfl ?_
  have hP : va_P D vwCl [(h, .inr (9, [.ref qq1, .ref qq3, .ref qq9, .ref qq11, .null, .null, .null, .ref qq13, .ref qq15, .ref qq17, .null, .null, .null, .null, .ref qq5, .ref qq7, .int 0])), tT qq1 aq2 (nI 1) (nI 1000) 0, tA g aq2 1000 (fun _ => 0), (qq3, .inr (5, [.ref (a4 0), .int 0])), tT (a4 0) (a4 1) (nI 3) (nI 1001) 0, tA g (a4 1) 3003 (fun _ => 0), (qq5, .inr (2, [.ref (a6 0), .ref (a6 2), .ref (a6 4), .ref (a6 6), .ref (a6 8)])), tT (a6 0) (a6 1) (nI 12) (nI 80) 0, tT (a6 4) (a6 5) (nI 5) (nI 112) 0, tT (a6 8) (a6 9) (nI 2) (nI 8) 0, (qq7, .inr (2, [.ref (a8 0), .ref (a8 2), .ref (a8 4), .ref (a8 6), .ref (a8 8)])), tT (a8 0) (a8 1) (nI 12) (nI 80) 0, tT (a8 2) (a8 3) (nI 5) (nI 1000) 0, tT (a8 4) (a8 5) (nI 5) (nI 112) 0, tT (a8 6) (a8 7) (nI 1) (nI 16) 0, tA g (a8 7) 16 (fun _ => 0), tT (a8 8) (a8 9) (nI 2) (nI 8) 0, tA g (a8 9) 16 (fun _ => 0), (qq9, .inr (3, [.ref (a4 0), .ref (a10 0), .ref (a10 2), .ref (a10 4), .ref qq7, .int 0, .int 0, .int 0, .int 0, .int (-9), .int 0, .int 0])), tT (a10 0) (a10 1) (nI 1) (nI 6) 0, tT (a10 2) (a10 3) (nI 1) (nI 6) 0, tT (a10 4) (a10 5) (nI 1) (nI 80) 0, tA g (a10 5) 80 (fun _ => 0), (qq11, .inr (0, [.ref (a12 0), .ref (a12 2), .ref (a12 4), .ref qq5, .int 0, .int 0, .int 0, .int 0])), tT qq13 aq14 (nI 4) (nI 30) 0, (qq19, .inr (4, [.ref (a20 0), .ref (a20 2), .ref (a20 4), .ref (a20 6), .ref (a20 8), .int (-9), .int 0, .int 0, .int 0, .int 0, .int 0, .int 0])), tT (a20 0) (a20 1) (nI 1) (nI 400) 0, tA g (a20 1) 400 (fun _ => 0), tT (a20 2) (a20 3) (nI 7) (nI 400) 0, tA g (a20 3) 2800 (fun _ => 0), tT (a20 4) (a20 5) (nI 3) (nI 401) 0, tA g (a20 5) 1203 (fun _ => 0), tT (a20 6) (a20 7) (nI 1) (nI 400) 0, tA g (a20 7) 400 (fun _ => 0), tT (a20 8) (a20 9) (nI 1) (nI 80) 0, tA g (a20 9) 80 (fun _ => 0)] H := hP
  have hD : va_D A [(h, .inr (9, [.ref qq1, .ref qq3, .ref qq9, .ref qq11, .null, .null, .null, .ref qq13, .ref qq15, .ref qq17, .null, .null, .null, .null, .ref qq5, .ref qq7, .int 0])), tT qq1 aq2 (nI 1) (nI 1000) 0, tA g aq2 1000 (fun _ => 0), (qq3, .inr (5, [.ref (a4 0), .int 0])), tT (a4 0) (a4 1) (nI 3) (nI 1001) 0, tA g (a4 1) 3003 (fun _ => 0), (qq5, .inr (2, [.ref (a6 0), .ref (a6 2), .ref (a6 4), .ref (a6 6), .ref (a6 8)])), tT (a6 0) (a6 1) (nI 12) (nI 80) 0, tT (a6 4) (a6 5) (nI 5) (nI 112) 0, tT (a6 8) (a6 9) (nI 2) (nI 8) 0, (qq7, .inr (2, [.ref (a8 0), .ref (a8 2), .ref (a8 4), .ref (a8 6), .ref (a8 8)])), tT (a8 0) (a8 1) (nI 12) (nI 80) 0, tT (a8 2) (a8 3) (nI 5) (nI 1000) 0, tT (a8 4) (a8 5) (nI 5) (nI 112) 0, tT (a8 6) (a8 7) (nI 1) (nI 16) 0, tA g (a8 7) 16 (fun _ => 0), tT (a8 8) (a8 9) (nI 2) (nI 8) 0, tA g (a8 9) 16 (fun _ => 0), (qq9, .inr (3, [.ref (a4 0), .ref (a10 0), .ref (a10 2), .ref (a10 4), .ref qq7, .int 0, .int 0, .int 0, .int 0, .int (-9), .int 0, .int 0])), tT (a10 0) (a10 1) (nI 1) (nI 6) 0, tT (a10 2) (a10 3) (nI 1) (nI 6) 0, tT (a10 4) (a10 5) (nI 1) (nI 80) 0, tA g (a10 5) 80 (fun _ => 0), (qq11, .inr (0, [.ref (a12 0), .ref (a12 2), .ref (a12 4), .ref qq5, .int 0, .int 0, .int 0, .int 0])), tT qq13 aq14 (nI 4) (nI 30) 0, (qq19, .inr (4, [.ref (a20 0), .ref (a20 2), .ref (a20 4), .ref (a20 6), .ref (a20 8), .int (-9), .int 0, .int 0, .int 0, .int 0, .int 0, .int 0])), tT (a20 0) (a20 1) (nI 1) (nI 400) 0, tA g (a20 1) 400 (fun _ => 0), tT (a20 2) (a20 3) (nI 7) (nI 400) 0, tA g (a20 3) 2800 (fun _ => 0), tT (a20 4) (a20 5) (nI 3) (nI 401) 0, tA g (a20 5) 1203 (fun _ => 0), tT (a20 6) (a20 7) (nI 1) (nI 400) 0, tA g (a20 7) 400 (fun _ => 0), tT (a20 8) (a20 9) (nI 1) (nI 80) 0, tA g (a20 9) 80 (fun _ => 0)] := hD
  have hP : va_P D vwCl [(h, .inr (9, [.ref qq1, .ref qq3, .ref qq9, .ref qq11, .null, .null, .null, .ref qq13, .ref qq15, .ref qq17, .null, .null, .null, .null, .ref qq5, .ref qq7, .int 0])), tT qq1 aq2 (nI 1) (nI 1000) 0, tA g aq2 1000 (fun _ => 0), (qq3, .inr (5, [.ref (a4 0), .int 0])), tT (a4 0) (a4 1) (nI 3) (nI 1001) 0, tA g (a4 1) 3003 (fun _ => 0), (qq5, .inr (2, [.ref (a6 0), .ref (a6 2), .ref (a6 4), .ref (a6 6), .ref (a6 8)])), tT (a6 0) (a6 1) (nI 12) (nI 80) 0, tT (a6 4) (a6 5) (nI 5) (nI 112) 0, tT (a6 8) (a6 9) (nI 2) (nI 8) 0, (qq7, .inr (2, [.ref (a8 0), .ref (a8 2), .ref (a8 4), .ref (a8 6), .ref (a8 8)])), tT (a8 0) (a8 1) (nI 12) (nI 80) 0, tT (a8 2) (a8 3) (nI 5) (nI 1000) 0, tT (a8 4) (a8 5) (nI 5) (nI 112) 0, tT (a8 6) (a8 7) (nI 1) (nI 16) 0, tA g (a8 7) 16 (fun _ => 0), tT (a8 8) (a8 9) (nI 2) (nI 8) 0, tA g (a8 9) 16 (fun _ => 0), (qq9, .inr (3, [.ref (a4 0), .ref (a10 0), .ref (a10 2), .ref (a10 4), .ref qq7, .int 0, .int 0, .int 0, .int 0, .int (-9), .int 0, .int 0])), tT (a10 0) (a10 1) (nI 1) (nI 6) 0, tT (a10 2) (a10 3) (nI 1) (nI 6) 0, tT (a10 4) (a10 5) (nI 1) (nI 80) 0, tA g (a10 5) 80 (fun _ => 0), (qq11, .inr (0, [.ref (a12 0), .ref (a12 2), .ref (a12 4), .ref qq5, .int 0, .int 0, .int 0, .int 0])), tT qq13 aq14 (nI 4) (nI 30) 0, (qq19, .inr (4, [.ref (a20 0), .ref (a20 2), .ref (a20 4), .ref (a20 6), .ref (a20 8), .int (-9), .int 0, .int 0, .int 0, .int 0, .int 0, .int 0]))] H := vz_pickP hP [0, 1, 2, 3, 4, 5, 6, 7, 8, 9, 10, 11, 12, 13, 14, 15, 16, 17, 18, 19, 20, 21, 22, 23, 24, 25] rfl
  have hD : va_D A [(h, .inr (9, [.ref qq1, .ref qq3, .ref qq9, .ref qq11, .null, .null, .null, .ref qq13, .ref qq15, .ref qq17, .null, .null, .null, .null, .ref qq5, .ref qq7, .int 0])), tT qq1 aq2 (nI 1) (nI 1000) 0, tA g aq2 1000 (fun _ => 0), (qq3, .inr (5, [.ref (a4 0), .int 0])), tT (a4 0) (a4 1) (nI 3) (nI 1001) 0, tA g (a4 1) 3003 (fun _ => 0), (qq5, .inr (2, [.ref (a6 0), .ref (a6 2), .ref (a6 4), .ref (a6 6), .ref (a6 8)])), tT (a6 0) (a6 1) (nI 12) (nI 80) 0, tT (a6 4) (a6 5) (nI 5) (nI 112) 0, tT (a6 8) (a6 9) (nI 2) (nI 8) 0, (qq7, .inr (2, [.ref (a8 0), .ref (a8 2), .ref (a8 4), .ref (a8 6), .ref (a8 8)])), tT (a8 0) (a8 1) (nI 12) (nI 80) 0, tT (a8 2) (a8 3) (nI 5) (nI 1000) 0, tT (a8 4) (a8 5) (nI 5) (nI 112) 0, tT (a8 6) (a8 7) (nI 1) (nI 16) 0, tA g (a8 7) 16 (fun _ => 0), tT (a8 8) (a8 9) (nI 2) (nI 8) 0, tA g (a8 9) 16 (fun _ => 0), (qq9, .inr (3, [.ref (a4 0), .ref (a10 0), .ref (a10 2), .ref (a10 4), .ref qq7, .int 0, .int 0, .int 0, .int 0, .int (-9), .int 0, .int 0])), tT (a10 0) (a10 1) (nI 1) (nI 6) 0, tT (a10 2) (a10 3) (nI 1) (nI 6) 0, tT (a10 4) (a10 5) (nI 1) (nI 80) 0, tA g (a10 5) 80 (fun _ => 0), (qq11, .inr (0, [.ref (a12 0), .ref (a12 2), .ref (a12 4), .ref qq5, .int 0, .int 0, .int 0, .int 0])), tT qq13 aq14 (nI 4) (nI 30) 0, (qq19, .inr (4, [.ref (a20 0), .ref (a20 2), .ref (a20 4), .ref (a20 6), .ref (a20 8), .int (-9), .int 0, .int 0, .int 0, .int 0, .int 0, .int 0]))] := hD.sub [0, 1, 2, 3, 4, 5, 6, 7, 8, 9, 10, 11, 12, 13, 14, 15, 16, 17, 18, 19, 20, 21, 22, 23, 24, 25] (by decide) rfl
  refine va_putF (D := D) (ci := 9) (v := .ref qq19) (ty := .object "WaysAtlas$RunRecord") (C := RX9) (T := TX9) (N := 17) hx hb hts inlX9 tyX9 tyX9_ok nmX9 hown hK hP hD hS 0 rfl rfl 10 (by decide) (hts _ q41) (fun _ h => h) rfl hin rfl (by decide +kernel) rfl rfl (Nat.le_of_ble_eq_true rfl) dX9_init_138 (fun H locs hP hD hS => ?_)
  have hP : va_P D vwCl [(h, .inr (9, [.ref qq1, .ref qq3, .ref qq9, .ref qq11, .null, .null, .null, .ref qq13, .ref qq15, .ref qq17, .ref qq19, .null, .null, .null, .ref qq5, .ref qq7, .int 0])), tT qq1 aq2 (nI 1) (nI 1000) 0, tA g aq2 1000 (fun _ => 0), (qq3, .inr (5, [.ref (a4 0), .int 0])), tT (a4 0) (a4 1) (nI 3) (nI 1001) 0, tA g (a4 1) 3003 (fun _ => 0), (qq5, .inr (2, [.ref (a6 0), .ref (a6 2), .ref (a6 4), .ref (a6 6), .ref (a6 8)])), tT (a6 0) (a6 1) (nI 12) (nI 80) 0, tT (a6 4) (a6 5) (nI 5) (nI 112) 0, tT (a6 8) (a6 9) (nI 2) (nI 8) 0, (qq7, .inr (2, [.ref (a8 0), .ref (a8 2), .ref (a8 4), .ref (a8 6), .ref (a8 8)])), tT (a8 0) (a8 1) (nI 12) (nI 80) 0, tT (a8 2) (a8 3) (nI 5) (nI 1000) 0, tT (a8 4) (a8 5) (nI 5) (nI 112) 0, tT (a8 6) (a8 7) (nI 1) (nI 16) 0, tA g (a8 7) 16 (fun _ => 0), tT (a8 8) (a8 9) (nI 2) (nI 8) 0, tA g (a8 9) 16 (fun _ => 0), (qq9, .inr (3, [.ref (a4 0), .ref (a10 0), .ref (a10 2), .ref (a10 4), .ref qq7, .int 0, .int 0, .int 0, .int 0, .int (-9), .int 0, .int 0])), tT (a10 0) (a10 1) (nI 1) (nI 6) 0, tT (a10 2) (a10 3) (nI 1) (nI 6) 0, tT (a10 4) (a10 5) (nI 1) (nI 80) 0, tA g (a10 5) 80 (fun _ => 0), (qq11, .inr (0, [.ref (a12 0), .ref (a12 2), .ref (a12 4), .ref qq5, .int 0, .int 0, .int 0, .int 0])), tT qq13 aq14 (nI 4) (nI 30) 0, (qq19, .inr (4, [.ref (a20 0), .ref (a20 2), .ref (a20 4), .ref (a20 6), .ref (a20 8), .int (-9), .int 0, .int 0, .int 0, .int 0, .int 0, .int 0]))] H := hP
  have hD : va_D A [(h, .inr (9, [.ref qq1, .ref qq3, .ref qq9, .ref qq11, .null, .null, .null, .ref qq13, .ref qq15, .ref qq17, .ref qq19, .null, .null, .null, .ref qq5, .ref qq7, .int 0])), tT qq1 aq2 (nI 1) (nI 1000) 0, tA g aq2 1000 (fun _ => 0), (qq3, .inr (5, [.ref (a4 0), .int 0])), tT (a4 0) (a4 1) (nI 3) (nI 1001) 0, tA g (a4 1) 3003 (fun _ => 0), (qq5, .inr (2, [.ref (a6 0), .ref (a6 2), .ref (a6 4), .ref (a6 6), .ref (a6 8)])), tT (a6 0) (a6 1) (nI 12) (nI 80) 0, tT (a6 4) (a6 5) (nI 5) (nI 112) 0, tT (a6 8) (a6 9) (nI 2) (nI 8) 0, (qq7, .inr (2, [.ref (a8 0), .ref (a8 2), .ref (a8 4), .ref (a8 6), .ref (a8 8)])), tT (a8 0) (a8 1) (nI 12) (nI 80) 0, tT (a8 2) (a8 3) (nI 5) (nI 1000) 0, tT (a8 4) (a8 5) (nI 5) (nI 112) 0, tT (a8 6) (a8 7) (nI 1) (nI 16) 0, tA g (a8 7) 16 (fun _ => 0), tT (a8 8) (a8 9) (nI 2) (nI 8) 0, tA g (a8 9) 16 (fun _ => 0), (qq9, .inr (3, [.ref (a4 0), .ref (a10 0), .ref (a10 2), .ref (a10 4), .ref qq7, .int 0, .int 0, .int 0, .int 0, .int (-9), .int 0, .int 0])), tT (a10 0) (a10 1) (nI 1) (nI 6) 0, tT (a10 2) (a10 3) (nI 1) (nI 6) 0, tT (a10 4) (a10 5) (nI 1) (nI 80) 0, tA g (a10 5) 80 (fun _ => 0), (qq11, .inr (0, [.ref (a12 0), .ref (a12 2), .ref (a12 4), .ref qq5, .int 0, .int 0, .int 0, .int 0])), tT qq13 aq14 (nI 4) (nI 30) 0, (qq19, .inr (4, [.ref (a20 0), .ref (a20 2), .ref (a20 4), .ref (a20 6), .ref (a20 8), .int (-9), .int 0, .int 0, .int 0, .int 0, .int 0, .int 0]))] := hD
  refine lv_aload_n hx hb dX9_init_141 rfl (lv_at hl 0 rfl) ?_
  refine va_new (ci := 4) (fs := [.null, .null, .null, .null, .null, .int 0, .int 0, .int 0, .int 0, .int 0, .int 0, .int 0]) (C := RX4) (T := TX4) (N := 12) hx hb hts inlX4 tyX4 tyX4_ok hown (hts _ q38) (hts _ q39) (hts _ q40) hK hP hD hS hA rfl (lt_s (lt_s (lt_s (lt_s (lt_s (lt_s (lt_s (lt_s (lt_s (lt_s (lt_s (lt_s (lt_0) rfl) rfl) rfl) rfl) rfl) rfl) rfl) rfl) rfl) rfl) rfl) rfl) (Nat.le_of_ble_eq_true rfl) (Nat.le_of_ble_eq_true rfl) dX9_init_142 (fun qq21 H hP hD hS => ?_)
  refine W.cs (cells' := 59) (slots' := 42494) rfl rfl ?_
  have hP : va_P D vwCl [(h, .inr (9, [.ref qq1, .ref qq3, .ref qq9, .ref qq11, .null, .null, .null, .ref qq13, .ref qq15, .ref qq17, .ref qq19, .null, .null, .null, .ref qq5, .ref qq7, .int 0])), tT qq1 aq2 (nI 1) (nI 1000) 0, tA g aq2 1000 (fun _ => 0), (qq3, .inr (5, [.ref (a4 0), .int 0])), tT (a4 0) (a4 1) (nI 3) (nI 1001) 0, tA g (a4 1) 3003 (fun _ => 0), (qq5, .inr (2, [.ref (a6 0), .ref (a6 2), .ref (a6 4), .ref (a6 6), .ref (a6 8)])), tT (a6 0) (a6 1) (nI 12) (nI 80) 0, tT (a6 4) (a6 5) (nI 5) (nI 112) 0, tT (a6 8) (a6 9) (nI 2) (nI 8) 0, (qq7, .inr (2, [.ref (a8 0), .ref (a8 2), .ref (a8 4), .ref (a8 6), .ref (a8 8)])), tT (a8 0) (a8 1) (nI 12) (nI 80) 0, tT (a8 2) (a8 3) (nI 5) (nI 1000) 0, tT (a8 4) (a8 5) (nI 5) (nI 112) 0, tT (a8 6) (a8 7) (nI 1) (nI 16) 0, tA g (a8 7) 16 (fun _ => 0), tT (a8 8) (a8 9) (nI 2) (nI 8) 0, tA g (a8 9) 16 (fun _ => 0), (qq9, .inr (3, [.ref (a4 0), .ref (a10 0), .ref (a10 2), .ref (a10 4), .ref qq7, .int 0, .int 0, .int 0, .int 0, .int (-9), .int 0, .int 0])), tT (a10 0) (a10 1) (nI 1) (nI 6) 0, tT (a10 2) (a10 3) (nI 1) (nI 6) 0, tT (a10 4) (a10 5) (nI 1) (nI 80) 0, tA g (a10 5) 80 (fun _ => 0), (qq11, .inr (0, [.ref (a12 0), .ref (a12 2), .ref (a12 4), .ref qq5, .int 0, .int 0, .int 0, .int 0])), tT qq13 aq14 (nI 4) (nI 30) 0, (qq19, .inr (4, [.ref (a20 0), .ref (a20 2), .ref (a20 4), .ref (a20 6), .ref (a20 8), .int (-9), .int 0, .int 0, .int 0, .int 0, .int 0, .int 0])), (qq21, .inr (4, [.null, .null, .null, .null, .null, .int 0, .int 0, .int 0, .int 0, .int 0, .int 0, .int 0]))] H := hP
  have hD : va_D A [(h, .inr (9, [.ref qq1, .ref qq3, .ref qq9, .ref qq11, .null, .null, .null, .ref qq13, .ref qq15, .ref qq17, .ref qq19, .null, .null, .null, .ref qq5, .ref qq7, .int 0])), tT qq1 aq2 (nI 1) (nI 1000) 0, tA g aq2 1000 (fun _ => 0), (qq3, .inr (5, [.ref (a4 0), .int 0])), tT (a4 0) (a4 1) (nI 3) (nI 1001) 0, tA g (a4 1) 3003 (fun _ => 0), (qq5, .inr (2, [.ref (a6 0), .ref (a6 2), .ref (a6 4), .ref (a6 6), .ref (a6 8)])), tT (a6 0) (a6 1) (nI 12) (nI 80) 0, tT (a6 4) (a6 5) (nI 5) (nI 112) 0, tT (a6 8) (a6 9) (nI 2) (nI 8) 0, (qq7, .inr (2, [.ref (a8 0), .ref (a8 2), .ref (a8 4), .ref (a8 6), .ref (a8 8)])), tT (a8 0) (a8 1) (nI 12) (nI 80) 0, tT (a8 2) (a8 3) (nI 5) (nI 1000) 0, tT (a8 4) (a8 5) (nI 5) (nI 112) 0, tT (a8 6) (a8 7) (nI 1) (nI 16) 0, tA g (a8 7) 16 (fun _ => 0), tT (a8 8) (a8 9) (nI 2) (nI 8) 0, tA g (a8 9) 16 (fun _ => 0), (qq9, .inr (3, [.ref (a4 0), .ref (a10 0), .ref (a10 2), .ref (a10 4), .ref qq7, .int 0, .int 0, .int 0, .int 0, .int (-9), .int 0, .int 0])), tT (a10 0) (a10 1) (nI 1) (nI 6) 0, tT (a10 2) (a10 3) (nI 1) (nI 6) 0, tT (a10 4) (a10 5) (nI 1) (nI 80) 0, tA g (a10 5) 80 (fun _ => 0), (qq11, .inr (0, [.ref (a12 0), .ref (a12 2), .ref (a12 4), .ref qq5, .int 0, .int 0, .int 0, .int 0])), tT qq13 aq14 (nI 4) (nI 30) 0, (qq19, .inr (4, [.ref (a20 0), .ref (a20 2), .ref (a20 4), .ref (a20 6), .ref (a20 8), .int (-9), .int 0, .int 0, .int 0, .int 0, .int 0, .int 0])), (qq21, .inr (4, [.null, .null, .null, .null, .null, .int 0, .int 0, .int 0, .int 0, .int 0, .int 0, .int 0]))] := hD
  refine lv_dup hx hb dX9_init_145 rfl ?_
  refine vz_Iv (wr := [(h, .inr (9, [.ref qq1, .ref qq3, .ref qq9, .ref qq11, .null, .null, .null, .ref qq13, .ref qq15, .ref qq17, .ref qq19, .null, .null, .null, .ref qq5, .ref qq7, .int 0])), tT qq1 aq2 (nI 1) (nI 1000) 0, tA g aq2 1000 (fun _ => 0), (qq3, .inr (5, [.ref (a4 0), .int 0])), tT (a4 0) (a4 1) (nI 3) (nI 1001) 0, tA g (a4 1) 3003 (fun _ => 0), (qq5, .inr (2, [.ref (a6 0), .ref (a6 2), .ref (a6 4), .ref (a6 6), .ref (a6 8)])), tT (a6 0) (a6 1) (nI 12) (nI 80) 0, tT (a6 4) (a6 5) (nI 5) (nI 112) 0, tT (a6 8) (a6 9) (nI 2) (nI 8) 0, (qq7, .inr (2, [.ref (a8 0), .ref (a8 2), .ref (a8 4), .ref (a8 6), .ref (a8 8)])), tT (a8 0) (a8 1) (nI 12) (nI 80) 0, tT (a8 2) (a8 3) (nI 5) (nI 1000) 0, tT (a8 4) (a8 5) (nI 5) (nI 112) 0, tT (a8 6) (a8 7) (nI 1) (nI 16) 0, tA g (a8 7) 16 (fun _ => 0), tT (a8 8) (a8 9) (nI 2) (nI 8) 0, tA g (a8 9) 16 (fun _ => 0), (qq9, .inr (3, [.ref (a4 0), .ref (a10 0), .ref (a10 2), .ref (a10 4), .ref qq7, .int 0, .int 0, .int 0, .int 0, .int (-9), .int 0, .int 0])), tT (a10 0) (a10 1) (nI 1) (nI 6) 0, tT (a10 2) (a10 3) (nI 1) (nI 6) 0, tT (a10 4) (a10 5) (nI 1) (nI 80) 0, tA g (a10 5) 80 (fun _ => 0), (qq11, .inr (0, [.ref (a12 0), .ref (a12 2), .ref (a12 4), .ref qq5, .int 0, .int 0, .int 0, .int 0])), tT qq13 aq14 (nI 4) (nI 30) 0, (qq19, .inr (4, [.ref (a20 0), .ref (a20 2), .ref (a20 4), .ref (a20 6), .ref (a20 8), .int (-9), .int 0, .int 0, .int 0, .int 0, .int 0, .int 0]))]) (As := []) (rest := [.ref qq21, .ref h]) hx hb hml hown hts hK hA hP hD hS (c_C_rec l D g qq21 H.size ) ki_X9_67 (⟨Nat.le_of_ble_eq_true rfl, Nat.le_of_ble_eq_true rfl⟩) [26] [0, 1, 2, 3, 4, 5, 6, 7, 8, 9, 10, 11, 12, 13, 14, 15, 16, 17, 18, 19, 20, 21, 22, 23, 24, 25] rfl rfl (by decide) hl.1 (Nat.le_of_ble_eq_true rfl) dX9_init_146 (⟨Nat.le_of_ble_eq_true rfl, Nat.le_of_ble_eq_true rfl⟩) rfl (fun a22 H locs _ _ hP hD hS => ?_)
  refine W.cs (cells' := 69) (slots' := 47397) rfl rfl ?_
  have hP : va_P D vwCl [(h, .inr (9, [.ref qq1, .ref qq3, .ref qq9, .ref qq11, .null, .null, .null, .ref qq13, .ref qq15, .ref qq17, .ref qq19, .null, .null, .null, .ref qq5, .ref qq7, .int 0])), tT qq1 aq2 (nI 1) (nI 1000) 0, tA g aq2 1000 (fun _ => 0), (qq3, .inr (5, [.ref (a4 0), .int 0])), tT (a4 0) (a4 1) (nI 3) (nI 1001) 0, tA g (a4 1) 3003 (fun _ => 0), (qq5, .inr (2, [.ref (a6 0), .ref (a6 2), .ref (a6 4), .ref (a6 6), .ref (a6 8)])), tT (a6 0) (a6 1) (nI 12) (nI 80) 0, tT (a6 4) (a6 5) (nI 5) (nI 112) 0, tT (a6 8) (a6 9) (nI 2) (nI 8) 0, (qq7, .inr (2, [.ref (a8 0), .ref (a8 2), .ref (a8 4), .ref (a8 6), .ref (a8 8)])), tT (a8 0) (a8 1) (nI 12) (nI 80) 0, tT (a8 2) (a8 3) (nI 5) (nI 1000) 0, tT (a8 4) (a8 5) (nI 5) (nI 112) 0, tT (a8 6) (a8 7) (nI 1) (nI 16) 0, tA g (a8 7) 16 (fun _ => 0), tT (a8 8) (a8 9) (nI 2) (nI 8) 0, tA g (a8 9) 16 (fun _ => 0), (qq9, .inr (3, [.ref (a4 0), .ref (a10 0), .ref (a10 2), .ref (a10 4), .ref qq7, .int 0, .int 0, .int 0, .int 0, .int (-9), .int 0, .int 0])), tT (a10 0) (a10 1) (nI 1) (nI 6) 0, tT (a10 2) (a10 3) (nI 1) (nI 6) 0, tT (a10 4) (a10 5) (nI 1) (nI 80) 0, tA g (a10 5) 80 (fun _ => 0), (qq11, .inr (0, [.ref (a12 0), .ref (a12 2), .ref (a12 4), .ref qq5, .int 0, .int 0, .int 0, .int 0])), tT qq13 aq14 (nI 4) (nI 30) 0, (qq19, .inr (4, [.ref (a20 0), .ref (a20 2), .ref (a20 4), .ref (a20 6), .ref (a20 8), .int (-9), .int 0, .int 0, .int 0, .int 0, .int 0, .int 0])), (qq21, .inr (4, [.ref (a22 0), .ref (a22 2), .ref (a22 4), .ref (a22 6), .ref (a22 8), .int (-9), .int 0, .int 0, .int 0, .int 0, .int 0, .int 0])), tT (a22 0) (a22 1) (nI 1) (nI 400) 0, tA g (a22 1) 400 (fun _ => 0), tT (a22 2) (a22 3) (nI 7) (nI 400) 0, tA g (a22 3) 2800 (fun _ => 0), tT (a22 4) (a22 5) (nI 3) (nI 401) 0, tA g (a22 5) 1203 (fun _ => 0), tT (a22 6) (a22 7) (nI 1) (nI 400) 0, tA g (a22 7) 400 (fun _ => 0), tT (a22 8) (a22 9) (nI 1) (nI 80) 0, tA g (a22 9) 80 (fun _ => 0)] H := hP
  have hD : va_D A [(h, .inr (9, [.ref qq1, .ref qq3, .ref qq9, .ref qq11, .null, .null, .null, .ref qq13, .ref qq15, .ref qq17, .ref qq19, .null, .null, .null, .ref qq5, .ref qq7, .int 0])), tT qq1 aq2 (nI 1) (nI 1000) 0, tA g aq2 1000 (fun _ => 0), (qq3, .inr (5, [.ref (a4 0), .int 0])), tT (a4 0) (a4 1) (nI 3) (nI 1001) 0, tA g (a4 1) 3003 (fun _ => 0), (qq5, .inr (2, [.ref (a6 0), .ref (a6 2), .ref (a6 4), .ref (a6 6), .ref (a6 8)])), tT (a6 0) (a6 1) (nI 12) (nI 80) 0, tT (a6 4) (a6 5) (nI 5) (nI 112) 0, tT (a6 8) (a6 9) (nI 2) (nI 8) 0, (qq7, .inr (2, [.ref (a8 0), .ref (a8 2), .ref (a8 4), .ref (a8 6), .ref (a8 8)])), tT (a8 0) (a8 1) (nI 12) (nI 80) 0, tT (a8 2) (a8 3) (nI 5) (nI 1000) 0, tT (a8 4) (a8 5) (nI 5) (nI 112) 0, tT (a8 6) (a8 7) (nI 1) (nI 16) 0, tA g (a8 7) 16 (fun _ => 0), tT (a8 8) (a8 9) (nI 2) (nI 8) 0, tA g (a8 9) 16 (fun _ => 0), (qq9, .inr (3, [.ref (a4 0), .ref (a10 0), .ref (a10 2), .ref (a10 4), .ref qq7, .int 0, .int 0, .int 0, .int 0, .int (-9), .int 0, .int 0])), tT (a10 0) (a10 1) (nI 1) (nI 6) 0, tT (a10 2) (a10 3) (nI 1) (nI 6) 0, tT (a10 4) (a10 5) (nI 1) (nI 80) 0, tA g (a10 5) 80 (fun _ => 0), (qq11, .inr (0, [.ref (a12 0), .ref (a12 2), .ref (a12 4), .ref qq5, .int 0, .int 0, .int 0, .int 0])), tT qq13 aq14 (nI 4) (nI 30) 0, (qq19, .inr (4, [.ref (a20 0), .ref (a20 2), .ref (a20 4), .ref (a20 6), .ref (a20 8), .int (-9), .int 0, .int 0, .int 0, .int 0, .int 0, .int 0])), (qq21, .inr (4, [.ref (a22 0), .ref (a22 2), .ref (a22 4), .ref (a22 6), .ref (a22 8), .int (-9), .int 0, .int 0, .int 0, .int 0, .int 0, .int 0])), tT (a22 0) (a22 1) (nI 1) (nI 400) 0, tA g (a22 1) 400 (fun _ => 0), tT (a22 2) (a22 3) (nI 7) (nI 400) 0, tA g (a22 3) 2800 (fun _ => 0), tT (a22 4) (a22 5) (nI 3) (nI 401) 0, tA g (a22 5) 1203 (fun _ => 0), tT (a22 6) (a22 7) (nI 1) (nI 400) 0, tA g (a22 7) 400 (fun _ => 0), tT (a22 8) (a22 9) (nI 1) (nI 80) 0, tA g (a22 9) 80 (fun _ => 0)] := hD
  have hP : va_P D vwCl [(h, .inr (9, [.ref qq1, .ref qq3, .ref qq9, .ref qq11, .null, .null, .null, .ref qq13, .ref qq15, .ref qq17, .ref qq19, .null, .null, .null, .ref qq5, .ref qq7, .int 0])), tT qq1 aq2 (nI 1) (nI 1000) 0, tA g aq2 1000 (fun _ => 0), (qq3, .inr (5, [.ref (a4 0), .int 0])), tT (a4 0) (a4 1) (nI 3) (nI 1001) 0, tA g (a4 1) 3003 (fun _ => 0), (qq5, .inr (2, [.ref (a6 0), .ref (a6 2), .ref (a6 4), .ref (a6 6), .ref (a6 8)])), tT (a6 0) (a6 1) (nI 12) (nI 80) 0, tT (a6 4) (a6 5) (nI 5) (nI 112) 0, tT (a6 8) (a6 9) (nI 2) (nI 8) 0, (qq7, .inr (2, [.ref (a8 0), .ref (a8 2), .ref (a8 4), .ref (a8 6), .ref (a8 8)])), tT (a8 0) (a8 1) (nI 12) (nI 80) 0, tT (a8 2) (a8 3) (nI 5) (nI 1000) 0, tT (a8 4) (a8 5) (nI 5) (nI 112) 0, tT (a8 6) (a8 7) (nI 1) (nI 16) 0, tA g (a8 7) 16 (fun _ => 0), tT (a8 8) (a8 9) (nI 2) (nI 8) 0, tA g (a8 9) 16 (fun _ => 0), (qq9, .inr (3, [.ref (a4 0), .ref (a10 0), .ref (a10 2), .ref (a10 4), .ref qq7, .int 0, .int 0, .int 0, .int 0, .int (-9), .int 0, .int 0])), tT (a10 0) (a10 1) (nI 1) (nI 6) 0, tT (a10 2) (a10 3) (nI 1) (nI 6) 0, tT (a10 4) (a10 5) (nI 1) (nI 80) 0, tA g (a10 5) 80 (fun _ => 0), (qq11, .inr (0, [.ref (a12 0), .ref (a12 2), .ref (a12 4), .ref qq5, .int 0, .int 0, .int 0, .int 0])), tT qq13 aq14 (nI 4) (nI 30) 0, (qq19, .inr (4, [.ref (a20 0), .ref (a20 2), .ref (a20 4), .ref (a20 6), .ref (a20 8), .int (-9), .int 0, .int 0, .int 0, .int 0, .int 0, .int 0])), (qq21, .inr (4, [.ref (a22 0), .ref (a22 2), .ref (a22 4), .ref (a22 6), .ref (a22 8), .int (-9), .int 0, .int 0, .int 0, .int 0, .int 0, .int 0]))] H := vz_pickP hP [0, 1, 2, 3, 4, 5, 6, 7, 8, 9, 10, 11, 12, 13, 14, 15, 16, 17, 18, 19, 20, 21, 22, 23, 24, 25, 26] rfl
  have hD : va_D A [(h, .inr (9, [.ref qq1, .ref qq3, .ref qq9, .ref qq11, .null, .null, .null, .ref qq13, .ref qq15, .ref qq17, .ref qq19, .null, .null, .null, .ref qq5, .ref qq7, .int 0])), tT qq1 aq2 (nI 1) (nI 1000) 0, tA g aq2 1000 (fun _ => 0), (qq3, .inr (5, [.ref (a4 0), .int 0])), tT (a4 0) (a4 1) (nI 3) (nI 1001) 0, tA g (a4 1) 3003 (fun _ => 0), (qq5, .inr (2, [.ref (a6 0), .ref (a6 2), .ref (a6 4), .ref (a6 6), .ref (a6 8)])), tT (a6 0) (a6 1) (nI 12) (nI 80) 0, tT (a6 4) (a6 5) (nI 5) (nI 112) 0, tT (a6 8) (a6 9) (nI 2) (nI 8) 0, (qq7, .inr (2, [.ref (a8 0), .ref (a8 2), .ref (a8 4), .ref (a8 6), .ref (a8 8)])), tT (a8 0) (a8 1) (nI 12) (nI 80) 0, tT (a8 2) (a8 3) (nI 5) (nI 1000) 0, tT (a8 4) (a8 5) (nI 5) (nI 112) 0, tT (a8 6) (a8 7) (nI 1) (nI 16) 0, tA g (a8 7) 16 (fun _ => 0), tT (a8 8) (a8 9) (nI 2) (nI 8) 0, tA g (a8 9) 16 (fun _ => 0), (qq9, .inr (3, [.ref (a4 0), .ref (a10 0), .ref (a10 2), .ref (a10 4), .ref qq7, .int 0, .int 0, .int 0, .int 0, .int (-9), .int 0, .int 0])), tT (a10 0) (a10 1) (nI 1) (nI 6) 0, tT (a10 2) (a10 3) (nI 1) (nI 6) 0, tT (a10 4) (a10 5) (nI 1) (nI 80) 0, tA g (a10 5) 80 (fun _ => 0), (qq11, .inr (0, [.ref (a12 0), .ref (a12 2), .ref (a12 4), .ref qq5, .int 0, .int 0, .int 0, .int 0])), tT qq13 aq14 (nI 4) (nI 30) 0, (qq19, .inr (4, [.ref (a20 0), .ref (a20 2), .ref (a20 4), .ref (a20 6), .ref (a20 8), .int (-9), .int 0, .int 0, .int 0, .int 0, .int 0, .int 0])), (qq21, .inr (4, [.ref (a22 0), .ref (a22 2), .ref (a22 4), .ref (a22 6), .ref (a22 8), .int (-9), .int 0, .int 0, .int 0, .int 0, .int 0, .int 0]))] := hD.sub [0, 1, 2, 3, 4, 5, 6, 7, 8, 9, 10, 11, 12, 13, 14, 15, 16, 17, 18, 19, 20, 21, 22, 23, 24, 25, 26] (by decide) rfl
  refine va_putF (D := D) (ci := 9) (v := .ref qq21) (ty := .object "WaysAtlas$RunRecord") (C := RX9) (T := TX9) (N := 17) hx hb hts inlX9 tyX9 tyX9_ok nmX9 hown hK hP hD hS 0 rfl rfl 11 (by decide) (hts _ q42) (fun _ h => h) rfl hin rfl (by decide +kernel) rfl rfl (Nat.le_of_ble_eq_true rfl) dX9_init_149 (fun H locs hP hD hS => ?_)
  have hP : va_P D vwCl [(h, .inr (9, [.ref qq1, .ref qq3, .ref qq9, .ref qq11, .null, .null, .null, .ref qq13, .ref qq15, .ref qq17, .ref qq19, .ref qq21, .null, .null, .ref qq5, .ref qq7, .int 0])), tT qq1 aq2 (nI 1) (nI 1000) 0, tA g aq2 1000 (fun _ => 0), (qq3, .inr (5, [.ref (a4 0), .int 0])), tT (a4 0) (a4 1) (nI 3) (nI 1001) 0, tA g (a4 1) 3003 (fun _ => 0), (qq5, .inr (2, [.ref (a6 0), .ref (a6 2), .ref (a6 4), .ref (a6 6), .ref (a6 8)])), tT (a6 0) (a6 1) (nI 12) (nI 80) 0, tT (a6 4) (a6 5) (nI 5) (nI 112) 0, tT (a6 8) (a6 9) (nI 2) (nI 8) 0, (qq7, .inr (2, [.ref (a8 0), .ref (a8 2), .ref (a8 4), .ref (a8 6), .ref (a8 8)])), tT (a8 0) (a8 1) (nI 12) (nI 80) 0, tT (a8 2) (a8 3) (nI 5) (nI 1000) 0, tT (a8 4) (a8 5) (nI 5) (nI 112) 0, tT (a8 6) (a8 7) (nI 1) (nI 16) 0, tA g (a8 7) 16 (fun _ => 0), tT (a8 8) (a8 9) (nI 2) (nI 8) 0, tA g (a8 9) 16 (fun _ => 0), (qq9, .inr (3, [.ref (a4 0), .ref (a10 0), .ref (a10 2), .ref (a10 4), .ref qq7, .int 0, .int 0, .int 0, .int 0, .int (-9), .int 0, .int 0])), tT (a10 0) (a10 1) (nI 1) (nI 6) 0, tT (a10 2) (a10 3) (nI 1) (nI 6) 0, tT (a10 4) (a10 5) (nI 1) (nI 80) 0, tA g (a10 5) 80 (fun _ => 0), (qq11, .inr (0, [.ref (a12 0), .ref (a12 2), .ref (a12 4), .ref qq5, .int 0, .int 0, .int 0, .int 0])), tT qq13 aq14 (nI 4) (nI 30) 0, (qq19, .inr (4, [.ref (a20 0), .ref (a20 2), .ref (a20 4), .ref (a20 6), .ref (a20 8), .int (-9), .int 0, .int 0, .int 0, .int 0, .int 0, .int 0])), (qq21, .inr (4, [.ref (a22 0), .ref (a22 2), .ref (a22 4), .ref (a22 6), .ref (a22 8), .int (-9), .int 0, .int 0, .int 0, .int 0, .int 0, .int 0]))] H := hP
  have hD : va_D A [(h, .inr (9, [.ref qq1, .ref qq3, .ref qq9, .ref qq11, .null, .null, .null, .ref qq13, .ref qq15, .ref qq17, .ref qq19, .ref qq21, .null, .null, .ref qq5, .ref qq7, .int 0])), tT qq1 aq2 (nI 1) (nI 1000) 0, tA g aq2 1000 (fun _ => 0), (qq3, .inr (5, [.ref (a4 0), .int 0])), tT (a4 0) (a4 1) (nI 3) (nI 1001) 0, tA g (a4 1) 3003 (fun _ => 0), (qq5, .inr (2, [.ref (a6 0), .ref (a6 2), .ref (a6 4), .ref (a6 6), .ref (a6 8)])), tT (a6 0) (a6 1) (nI 12) (nI 80) 0, tT (a6 4) (a6 5) (nI 5) (nI 112) 0, tT (a6 8) (a6 9) (nI 2) (nI 8) 0, (qq7, .inr (2, [.ref (a8 0), .ref (a8 2), .ref (a8 4), .ref (a8 6), .ref (a8 8)])), tT (a8 0) (a8 1) (nI 12) (nI 80) 0, tT (a8 2) (a8 3) (nI 5) (nI 1000) 0, tT (a8 4) (a8 5) (nI 5) (nI 112) 0, tT (a8 6) (a8 7) (nI 1) (nI 16) 0, tA g (a8 7) 16 (fun _ => 0), tT (a8 8) (a8 9) (nI 2) (nI 8) 0, tA g (a8 9) 16 (fun _ => 0), (qq9, .inr (3, [.ref (a4 0), .ref (a10 0), .ref (a10 2), .ref (a10 4), .ref qq7, .int 0, .int 0, .int 0, .int 0, .int (-9), .int 0, .int 0])), tT (a10 0) (a10 1) (nI 1) (nI 6) 0, tT (a10 2) (a10 3) (nI 1) (nI 6) 0, tT (a10 4) (a10 5) (nI 1) (nI 80) 0, tA g (a10 5) 80 (fun _ => 0), (qq11, .inr (0, [.ref (a12 0), .ref (a12 2), .ref (a12 4), .ref qq5, .int 0, .int 0, .int 0, .int 0])), tT qq13 aq14 (nI 4) (nI 30) 0, (qq19, .inr (4, [.ref (a20 0), .ref (a20 2), .ref (a20 4), .ref (a20 6), .ref (a20 8), .int (-9), .int 0, .int 0, .int 0, .int 0, .int 0, .int 0])), (qq21, .inr (4, [.ref (a22 0), .ref (a22 2), .ref (a22 4), .ref (a22 6), .ref (a22 8), .int (-9), .int 0, .int 0, .int 0, .int 0, .int 0, .int 0]))] := hD
  refine lv_aload_n hx hb dX9_init_152 rfl (lv_at hl 0 rfl) ?_
  refine va_new (ci := 4) (fs := [.null, .null, .null, .null, .null, .int 0, .int 0, .int 0, .int 0, .int 0, .int 0, .int 0]) (C := RX4) (T := TX4) (N := 12) hx hb hts inlX4 tyX4 tyX4_ok hown (hts _ q38) (hts _ q39) (hts _ q40) hK hP hD hS hA rfl (lt_s (lt_s (lt_s (lt_s (lt_s (lt_s (lt_s (lt_s (lt_s (lt_s (lt_s (lt_s (lt_0) rfl) rfl) rfl) rfl) rfl) rfl) rfl) rfl) rfl) rfl) rfl) rfl) (Nat.le_of_ble_eq_true rfl) (Nat.le_of_ble_eq_true rfl) dX9_init_153 (fun qq23 H hP hD hS => ?_)
  refine W.cs (cells' := 70) (slots' := 47409) rfl rfl ?_
  have hP : va_P D vwCl [(h, .inr (9, [.ref qq1, .ref qq3, .ref qq9, .ref qq11, .null, .null, .null, .ref qq13, .ref qq15, .ref qq17, .ref qq19, .ref qq21, .null, .null, .ref qq5, .ref qq7, .int 0])), tT qq1 aq2 (nI 1) (nI 1000) 0, tA g aq2 1000 (fun _ => 0), (qq3, .inr (5, [.ref (a4 0), .int 0])), tT (a4 0) (a4 1) (nI 3) (nI 1001) 0, tA g (a4 1) 3003 (fun _ => 0), (qq5, .inr (2, [.ref (a6 0), .ref (a6 2), .ref (a6 4), .ref (a6 6), .ref (a6 8)])), tT (a6 0) (a6 1) (nI 12) (nI 80) 0, tT (a6 4) (a6 5) (nI 5) (nI 112) 0, tT (a6 8) (a6 9) (nI 2) (nI 8) 0, (qq7, .inr (2, [.ref (a8 0), .ref (a8 2), .ref (a8 4), .ref (a8 6), .ref (a8 8)])), tT (a8 0) (a8 1) (nI 12) (nI 80) 0, tT (a8 2) (a8 3) (nI 5) (nI 1000) 0, tT (a8 4) (a8 5) (nI 5) (nI 112) 0, tT (a8 6) (a8 7) (nI 1) (nI 16) 0, tA g (a8 7) 16 (fun _ => 0), tT (a8 8) (a8 9) (nI 2) (nI 8) 0, tA g (a8 9) 16 (fun _ => 0), (qq9, .inr (3, [.ref (a4 0), .ref (a10 0), .ref (a10 2), .ref (a10 4), .ref qq7, .int 0, .int 0, .int 0, .int 0, .int (-9), .int 0, .int 0])), tT (a10 0) (a10 1) (nI 1) (nI 6) 0, tT (a10 2) (a10 3) (nI 1) (nI 6) 0, tT (a10 4) (a10 5) (nI 1) (nI 80) 0, tA g (a10 5) 80 (fun _ => 0), (qq11, .inr (0, [.ref (a12 0), .ref (a12 2), .ref (a12 4), .ref qq5, .int 0, .int 0, .int 0, .int 0])), tT qq13 aq14 (nI 4) (nI 30) 0, (qq19, .inr (4, [.ref (a20 0), .ref (a20 2), .ref (a20 4), .ref (a20 6), .ref (a20 8), .int (-9), .int 0, .int 0, .int 0, .int 0, .int 0, .int 0])), (qq21, .inr (4, [.ref (a22 0), .ref (a22 2), .ref (a22 4), .ref (a22 6), .ref (a22 8), .int (-9), .int 0, .int 0, .int 0, .int 0, .int 0, .int 0])), (qq23, .inr (4, [.null, .null, .null, .null, .null, .int 0, .int 0, .int 0, .int 0, .int 0, .int 0, .int 0]))] H := hP
  have hD : va_D A [(h, .inr (9, [.ref qq1, .ref qq3, .ref qq9, .ref qq11, .null, .null, .null, .ref qq13, .ref qq15, .ref qq17, .ref qq19, .ref qq21, .null, .null, .ref qq5, .ref qq7, .int 0])), tT qq1 aq2 (nI 1) (nI 1000) 0, tA g aq2 1000 (fun _ => 0), (qq3, .inr (5, [.ref (a4 0), .int 0])), tT (a4 0) (a4 1) (nI 3) (nI 1001) 0, tA g (a4 1) 3003 (fun _ => 0), (qq5, .inr (2, [.ref (a6 0), .ref (a6 2), .ref (a6 4), .ref (a6 6), .ref (a6 8)])), tT (a6 0) (a6 1) (nI 12) (nI 80) 0, tT (a6 4) (a6 5) (nI 5) (nI 112) 0, tT (a6 8) (a6 9) (nI 2) (nI 8) 0, (qq7, .inr (2, [.ref (a8 0), .ref (a8 2), .ref (a8 4), .ref (a8 6), .ref (a8 8)])), tT (a8 0) (a8 1) (nI 12) (nI 80) 0, tT (a8 2) (a8 3) (nI 5) (nI 1000) 0, tT (a8 4) (a8 5) (nI 5) (nI 112) 0, tT (a8 6) (a8 7) (nI 1) (nI 16) 0, tA g (a8 7) 16 (fun _ => 0), tT (a8 8) (a8 9) (nI 2) (nI 8) 0, tA g (a8 9) 16 (fun _ => 0), (qq9, .inr (3, [.ref (a4 0), .ref (a10 0), .ref (a10 2), .ref (a10 4), .ref qq7, .int 0, .int 0, .int 0, .int 0, .int (-9), .int 0, .int 0])), tT (a10 0) (a10 1) (nI 1) (nI 6) 0, tT (a10 2) (a10 3) (nI 1) (nI 6) 0, tT (a10 4) (a10 5) (nI 1) (nI 80) 0, tA g (a10 5) 80 (fun _ => 0), (qq11, .inr (0, [.ref (a12 0), .ref (a12 2), .ref (a12 4), .ref qq5, .int 0, .int 0, .int 0, .int 0])), tT qq13 aq14 (nI 4) (nI 30) 0, (qq19, .inr (4, [.ref (a20 0), .ref (a20 2), .ref (a20 4), .ref (a20 6), .ref (a20 8), .int (-9), .int 0, .int 0, .int 0, .int 0, .int 0, .int 0])), (qq21, .inr (4, [.ref (a22 0), .ref (a22 2), .ref (a22 4), .ref (a22 6), .ref (a22 8), .int (-9), .int 0, .int 0, .int 0, .int 0, .int 0, .int 0])), (qq23, .inr (4, [.null, .null, .null, .null, .null, .int 0, .int 0, .int 0, .int 0, .int 0, .int 0, .int 0]))] := hD
  refine lv_dup hx hb dX9_init_156 rfl ?_
  refine vz_Iv (wr := [(h, .inr (9, [.ref qq1, .ref qq3, .ref qq9, .ref qq11, .null, .null, .null, .ref qq13, .ref qq15, .ref qq17, .ref qq19, .ref qq21, .null, .null, .ref qq5, .ref qq7, .int 0])), tT qq1 aq2 (nI 1) (nI 1000) 0, tA g aq2 1000 (fun _ => 0), (qq3, .inr (5, [.ref (a4 0), .int 0])), tT (a4 0) (a4 1) (nI 3) (nI 1001) 0, tA g (a4 1) 3003 (fun _ => 0), (qq5, .inr (2, [.ref (a6 0), .ref (a6 2), .ref (a6 4), .ref (a6 6), .ref (a6 8)])), tT (a6 0) (a6 1) (nI 12) (nI 80) 0, tT (a6 4) (a6 5) (nI 5) (nI 112) 0, tT (a6 8) (a6 9) (nI 2) (nI 8) 0, (qq7, .inr (2, [.ref (a8 0), .ref (a8 2), .ref (a8 4), .ref (a8 6), .ref (a8 8)])), tT (a8 0) (a8 1) (nI 12) (nI 80) 0, tT (a8 2) (a8 3) (nI 5) (nI 1000) 0, tT (a8 4) (a8 5) (nI 5) (nI 112) 0, tT (a8 6) (a8 7) (nI 1) (nI 16) 0, tA g (a8 7) 16 (fun _ => 0), tT (a8 8) (a8 9) (nI 2) (nI 8) 0, tA g (a8 9) 16 (fun _ => 0), (qq9, .inr (3, [.ref (a4 0), .ref (a10 0), .ref (a10 2), .ref (a10 4), .ref qq7, .int 0, .int 0, .int 0, .int 0, .int (-9), .int 0, .int 0])), tT (a10 0) (a10 1) (nI 1) (nI 6) 0, tT (a10 2) (a10 3) (nI 1) (nI 6) 0, tT (a10 4) (a10 5) (nI 1) (nI 80) 0, tA g (a10 5) 80 (fun _ => 0), (qq11, .inr (0, [.ref (a12 0), .ref (a12 2), .ref (a12 4), .ref qq5, .int 0, .int 0, .int 0, .int 0])), tT qq13 aq14 (nI 4) (nI 30) 0, (qq19, .inr (4, [.ref (a20 0), .ref (a20 2), .ref (a20 4), .ref (a20 6), .ref (a20 8), .int (-9), .int 0, .int 0, .int 0, .int 0, .int 0, .int 0])), (qq21, .inr (4, [.ref (a22 0), .ref (a22 2), .ref (a22 4), .ref (a22 6), .ref (a22 8), .int (-9), .int 0, .int 0, .int 0, .int 0, .int 0, .int 0]))]) (As := []) (rest := [.ref qq23, .ref h]) hx hb hml hown hts hK hA hP hD hS (c_C_rec l D g qq23 H.size ) ki_X9_67 (⟨Nat.le_of_ble_eq_true rfl, Nat.le_of_ble_eq_true rfl⟩) [27] [0, 1, 2, 3, 4, 5, 6, 7, 8, 9, 10, 11, 12, 13, 14, 15, 16, 17, 18, 19, 20, 21, 22, 23, 24, 25, 26] rfl rfl (by decide) hl.1 (Nat.le_of_ble_eq_true rfl) dX9_init_157 (⟨Nat.le_of_ble_eq_true rfl, Nat.le_of_ble_eq_true rfl⟩) rfl (fun a24 H locs _ _ hP hD hS => ?_)
  refine W.cs (cells' := 80) (slots' := 52312) rfl rfl ?_
  have hP : va_P D vwCl [(h, .inr (9, [.ref qq1, .ref qq3, .ref qq9, .ref qq11, .null, .null, .null, .ref qq13, .ref qq15, .ref qq17, .ref qq19, .ref qq21, .null, .null, .ref qq5, .ref qq7, .int 0])), tT qq1 aq2 (nI 1) (nI 1000) 0, tA g aq2 1000 (fun _ => 0), (qq3, .inr (5, [.ref (a4 0), .int 0])), tT (a4 0) (a4 1) (nI 3) (nI 1001) 0, tA g (a4 1) 3003 (fun _ => 0), (qq5, .inr (2, [.ref (a6 0), .ref (a6 2), .ref (a6 4), .ref (a6 6), .ref (a6 8)])), tT (a6 0) (a6 1) (nI 12) (nI 80) 0, tT (a6 4) (a6 5) (nI 5) (nI 112) 0, tT (a6 8) (a6 9) (nI 2) (nI 8) 0, (qq7, .inr (2, [.ref (a8 0), .ref (a8 2), .ref (a8 4), .ref (a8 6), .ref (a8 8)])), tT (a8 0) (a8 1) (nI 12) (nI 80) 0, tT (a8 2) (a8 3) (nI 5) (nI 1000) 0, tT (a8 4) (a8 5) (nI 5) (nI 112) 0, tT (a8 6) (a8 7) (nI 1) (nI 16) 0, tA g (a8 7) 16 (fun _ => 0), tT (a8 8) (a8 9) (nI 2) (nI 8) 0, tA g (a8 9) 16 (fun _ => 0), (qq9, .inr (3, [.ref (a4 0), .ref (a10 0), .ref (a10 2), .ref (a10 4), .ref qq7, .int 0, .int 0, .int 0, .int 0, .int (-9), .int 0, .int 0])), tT (a10 0) (a10 1) (nI 1) (nI 6) 0, tT (a10 2) (a10 3) (nI 1) (nI 6) 0, tT (a10 4) (a10 5) (nI 1) (nI 80) 0, tA g (a10 5) 80 (fun _ => 0), (qq11, .inr (0, [.ref (a12 0), .ref (a12 2), .ref (a12 4), .ref qq5, .int 0, .int 0, .int 0, .int 0])), tT qq13 aq14 (nI 4) (nI 30) 0, (qq19, .inr (4, [.ref (a20 0), .ref (a20 2), .ref (a20 4), .ref (a20 6), .ref (a20 8), .int (-9), .int 0, .int 0, .int 0, .int 0, .int 0, .int 0])), (qq21, .inr (4, [.ref (a22 0), .ref (a22 2), .ref (a22 4), .ref (a22 6), .ref (a22 8), .int (-9), .int 0, .int 0, .int 0, .int 0, .int 0, .int 0])), (qq23, .inr (4, [.ref (a24 0), .ref (a24 2), .ref (a24 4), .ref (a24 6), .ref (a24 8), .int (-9), .int 0, .int 0, .int 0, .int 0, .int 0, .int 0])), tT (a24 0) (a24 1) (nI 1) (nI 400) 0, tA g (a24 1) 400 (fun _ => 0), tT (a24 2) (a24 3) (nI 7) (nI 400) 0, tA g (a24 3) 2800 (fun _ => 0), tT (a24 4) (a24 5) (nI 3) (nI 401) 0, tA g (a24 5) 1203 (fun _ => 0), tT (a24 6) (a24 7) (nI 1) (nI 400) 0, tA g (a24 7) 400 (fun _ => 0), tT (a24 8) (a24 9) (nI 1) (nI 80) 0, tA g (a24 9) 80 (fun _ => 0)] H := hP
  have hD : va_D A [(h, .inr (9, [.ref qq1, .ref qq3, .ref qq9, .ref qq11, .null, .null, .null, .ref qq13, .ref qq15, .ref qq17, .ref qq19, .ref qq21, .null, .null, .ref qq5, .ref qq7, .int 0])), tT qq1 aq2 (nI 1) (nI 1000) 0, tA g aq2 1000 (fun _ => 0), (qq3, .inr (5, [.ref (a4 0), .int 0])), tT (a4 0) (a4 1) (nI 3) (nI 1001) 0, tA g (a4 1) 3003 (fun _ => 0), (qq5, .inr (2, [.ref (a6 0), .ref (a6 2), .ref (a6 4), .ref (a6 6), .ref (a6 8)])), tT (a6 0) (a6 1) (nI 12) (nI 80) 0, tT (a6 4) (a6 5) (nI 5) (nI 112) 0, tT (a6 8) (a6 9) (nI 2) (nI 8) 0, (qq7, .inr (2, [.ref (a8 0), .ref (a8 2), .ref (a8 4), .ref (a8 6), .ref (a8 8)])), tT (a8 0) (a8 1) (nI 12) (nI 80) 0, tT (a8 2) (a8 3) (nI 5) (nI 1000) 0, tT (a8 4) (a8 5) (nI 5) (nI 112) 0, tT (a8 6) (a8 7) (nI 1) (nI 16) 0, tA g (a8 7) 16 (fun _ => 0), tT (a8 8) (a8 9) (nI 2) (nI 8) 0, tA g (a8 9) 16 (fun _ => 0), (qq9, .inr (3, [.ref (a4 0), .ref (a10 0), .ref (a10 2), .ref (a10 4), .ref qq7, .int 0, .int 0, .int 0, .int 0, .int (-9), .int 0, .int 0])), tT (a10 0) (a10 1) (nI 1) (nI 6) 0, tT (a10 2) (a10 3) (nI 1) (nI 6) 0, tT (a10 4) (a10 5) (nI 1) (nI 80) 0, tA g (a10 5) 80 (fun _ => 0), (qq11, .inr (0, [.ref (a12 0), .ref (a12 2), .ref (a12 4), .ref qq5, .int 0, .int 0, .int 0, .int 0])), tT qq13 aq14 (nI 4) (nI 30) 0, (qq19, .inr (4, [.ref (a20 0), .ref (a20 2), .ref (a20 4), .ref (a20 6), .ref (a20 8), .int (-9), .int 0, .int 0, .int 0, .int 0, .int 0, .int 0])), (qq21, .inr (4, [.ref (a22 0), .ref (a22 2), .ref (a22 4), .ref (a22 6), .ref (a22 8), .int (-9), .int 0, .int 0, .int 0, .int 0, .int 0, .int 0])), (qq23, .inr (4, [.ref (a24 0), .ref (a24 2), .ref (a24 4), .ref (a24 6), .ref (a24 8), .int (-9), .int 0, .int 0, .int 0, .int 0, .int 0, .int 0])), tT (a24 0) (a24 1) (nI 1) (nI 400) 0, tA g (a24 1) 400 (fun _ => 0), tT (a24 2) (a24 3) (nI 7) (nI 400) 0, tA g (a24 3) 2800 (fun _ => 0), tT (a24 4) (a24 5) (nI 3) (nI 401) 0, tA g (a24 5) 1203 (fun _ => 0), tT (a24 6) (a24 7) (nI 1) (nI 400) 0, tA g (a24 7) 400 (fun _ => 0), tT (a24 8) (a24 9) (nI 1) (nI 80) 0, tA g (a24 9) 80 (fun _ => 0)] := hD
  have hP : va_P D vwCl [(h, .inr (9, [.ref qq1, .ref qq3, .ref qq9, .ref qq11, .null, .null, .null, .ref qq13, .ref qq15, .ref qq17, .ref qq19, .ref qq21, .null, .null, .ref qq5, .ref qq7, .int 0])), tT qq1 aq2 (nI 1) (nI 1000) 0, tA g aq2 1000 (fun _ => 0), (qq3, .inr (5, [.ref (a4 0), .int 0])), tT (a4 0) (a4 1) (nI 3) (nI 1001) 0, tA g (a4 1) 3003 (fun _ => 0), (qq5, .inr (2, [.ref (a6 0), .ref (a6 2), .ref (a6 4), .ref (a6 6), .ref (a6 8)])), tT (a6 0) (a6 1) (nI 12) (nI 80) 0, tT (a6 4) (a6 5) (nI 5) (nI 112) 0, tT (a6 8) (a6 9) (nI 2) (nI 8) 0, (qq7, .inr (2, [.ref (a8 0), .ref (a8 2), .ref (a8 4), .ref (a8 6), .ref (a8 8)])), tT (a8 0) (a8 1) (nI 12) (nI 80) 0, tT (a8 2) (a8 3) (nI 5) (nI 1000) 0, tT (a8 4) (a8 5) (nI 5) (nI 112) 0, tT (a8 6) (a8 7) (nI 1) (nI 16) 0, tA g (a8 7) 16 (fun _ => 0), tT (a8 8) (a8 9) (nI 2) (nI 8) 0, tA g (a8 9) 16 (fun _ => 0), (qq9, .inr (3, [.ref (a4 0), .ref (a10 0), .ref (a10 2), .ref (a10 4), .ref qq7, .int 0, .int 0, .int 0, .int 0, .int (-9), .int 0, .int 0])), tT (a10 0) (a10 1) (nI 1) (nI 6) 0, tT (a10 2) (a10 3) (nI 1) (nI 6) 0, tT (a10 4) (a10 5) (nI 1) (nI 80) 0, tA g (a10 5) 80 (fun _ => 0), (qq11, .inr (0, [.ref (a12 0), .ref (a12 2), .ref (a12 4), .ref qq5, .int 0, .int 0, .int 0, .int 0])), tT qq13 aq14 (nI 4) (nI 30) 0, (qq19, .inr (4, [.ref (a20 0), .ref (a20 2), .ref (a20 4), .ref (a20 6), .ref (a20 8), .int (-9), .int 0, .int 0, .int 0, .int 0, .int 0, .int 0])), (qq21, .inr (4, [.ref (a22 0), .ref (a22 2), .ref (a22 4), .ref (a22 6), .ref (a22 8), .int (-9), .int 0, .int 0, .int 0, .int 0, .int 0, .int 0]))] H := vz_pickP hP [0, 1, 2, 3, 4, 5, 6, 7, 8, 9, 10, 11, 12, 13, 14, 15, 16, 17, 18, 19, 20, 21, 22, 23, 24, 25, 26] rfl
  have hD : va_D A [(h, .inr (9, [.ref qq1, .ref qq3, .ref qq9, .ref qq11, .null, .null, .null, .ref qq13, .ref qq15, .ref qq17, .ref qq19, .ref qq21, .null, .null, .ref qq5, .ref qq7, .int 0])), tT qq1 aq2 (nI 1) (nI 1000) 0, tA g aq2 1000 (fun _ => 0), (qq3, .inr (5, [.ref (a4 0), .int 0])), tT (a4 0) (a4 1) (nI 3) (nI 1001) 0, tA g (a4 1) 3003 (fun _ => 0), (qq5, .inr (2, [.ref (a6 0), .ref (a6 2), .ref (a6 4), .ref (a6 6), .ref (a6 8)])), tT (a6 0) (a6 1) (nI 12) (nI 80) 0, tT (a6 4) (a6 5) (nI 5) (nI 112) 0, tT (a6 8) (a6 9) (nI 2) (nI 8) 0, (qq7, .inr (2, [.ref (a8 0), .ref (a8 2), .ref (a8 4), .ref (a8 6), .ref (a8 8)])), tT (a8 0) (a8 1) (nI 12) (nI 80) 0, tT (a8 2) (a8 3) (nI 5) (nI 1000) 0, tT (a8 4) (a8 5) (nI 5) (nI 112) 0, tT (a8 6) (a8 7) (nI 1) (nI 16) 0, tA g (a8 7) 16 (fun _ => 0), tT (a8 8) (a8 9) (nI 2) (nI 8) 0, tA g (a8 9) 16 (fun _ => 0), (qq9, .inr (3, [.ref (a4 0), .ref (a10 0), .ref (a10 2), .ref (a10 4), .ref qq7, .int 0, .int 0, .int 0, .int 0, .int (-9), .int 0, .int 0])), tT (a10 0) (a10 1) (nI 1) (nI 6) 0, tT (a10 2) (a10 3) (nI 1) (nI 6) 0, tT (a10 4) (a10 5) (nI 1) (nI 80) 0, tA g (a10 5) 80 (fun _ => 0), (qq11, .inr (0, [.ref (a12 0), .ref (a12 2), .ref (a12 4), .ref qq5, .int 0, .int 0, .int 0, .int 0])), tT qq13 aq14 (nI 4) (nI 30) 0, (qq19, .inr (4, [.ref (a20 0), .ref (a20 2), .ref (a20 4), .ref (a20 6), .ref (a20 8), .int (-9), .int 0, .int 0, .int 0, .int 0, .int 0, .int 0])), (qq21, .inr (4, [.ref (a22 0), .ref (a22 2), .ref (a22 4), .ref (a22 6), .ref (a22 8), .int (-9), .int 0, .int 0, .int 0, .int 0, .int 0, .int 0]))] := hD.sub [0, 1, 2, 3, 4, 5, 6, 7, 8, 9, 10, 11, 12, 13, 14, 15, 16, 17, 18, 19, 20, 21, 22, 23, 24, 25, 26] (by decide) rfl
  refine va_putF (D := D) (ci := 9) (v := .ref qq23) (ty := .object "WaysAtlas$RunRecord") (C := RX9) (T := TX9) (N := 17) hx hb hts inlX9 tyX9 tyX9_ok nmX9 hown hK hP hD hS 0 rfl rfl 12 (by decide) (hts _ q43) (fun _ h => h) rfl hin rfl (by decide +kernel) rfl rfl (Nat.le_of_ble_eq_true rfl) dX9_init_160 (fun H locs hP hD hS => ?_)
  have hP : va_P D vwCl [(h, .inr (9, [.ref qq1, .ref qq3, .ref qq9, .ref qq11, .null, .null, .null, .ref qq13, .ref qq15, .ref qq17, .ref qq19, .ref qq21, .ref qq23, .null, .ref qq5, .ref qq7, .int 0])), tT qq1 aq2 (nI 1) (nI 1000) 0, tA g aq2 1000 (fun _ => 0), (qq3, .inr (5, [.ref (a4 0), .int 0])), tT (a4 0) (a4 1) (nI 3) (nI 1001) 0, tA g (a4 1) 3003 (fun _ => 0), (qq5, .inr (2, [.ref (a6 0), .ref (a6 2), .ref (a6 4), .ref (a6 6), .ref (a6 8)])), tT (a6 0) (a6 1) (nI 12) (nI 80) 0, tT (a6 4) (a6 5) (nI 5) (nI 112) 0, tT (a6 8) (a6 9) (nI 2) (nI 8) 0, (qq7, .inr (2, [.ref (a8 0), .ref (a8 2), .ref (a8 4), .ref (a8 6), .ref (a8 8)])), tT (a8 0) (a8 1) (nI 12) (nI 80) 0, tT (a8 2) (a8 3) (nI 5) (nI 1000) 0, tT (a8 4) (a8 5) (nI 5) (nI 112) 0, tT (a8 6) (a8 7) (nI 1) (nI 16) 0, tA g (a8 7) 16 (fun _ => 0), tT (a8 8) (a8 9) (nI 2) (nI 8) 0, tA g (a8 9) 16 (fun _ => 0), (qq9, .inr (3, [.ref (a4 0), .ref (a10 0), .ref (a10 2), .ref (a10 4), .ref qq7, .int 0, .int 0, .int 0, .int 0, .int (-9), .int 0, .int 0])), tT (a10 0) (a10 1) (nI 1) (nI 6) 0, tT (a10 2) (a10 3) (nI 1) (nI 6) 0, tT (a10 4) (a10 5) (nI 1) (nI 80) 0, tA g (a10 5) 80 (fun _ => 0), (qq11, .inr (0, [.ref (a12 0), .ref (a12 2), .ref (a12 4), .ref qq5, .int 0, .int 0, .int 0, .int 0])), tT qq13 aq14 (nI 4) (nI 30) 0, (qq19, .inr (4, [.ref (a20 0), .ref (a20 2), .ref (a20 4), .ref (a20 6), .ref (a20 8), .int (-9), .int 0, .int 0, .int 0, .int 0, .int 0, .int 0])), (qq21, .inr (4, [.ref (a22 0), .ref (a22 2), .ref (a22 4), .ref (a22 6), .ref (a22 8), .int (-9), .int 0, .int 0, .int 0, .int 0, .int 0, .int 0]))] H := hP
  have hD : va_D A [(h, .inr (9, [.ref qq1, .ref qq3, .ref qq9, .ref qq11, .null, .null, .null, .ref qq13, .ref qq15, .ref qq17, .ref qq19, .ref qq21, .ref qq23, .null, .ref qq5, .ref qq7, .int 0])), tT qq1 aq2 (nI 1) (nI 1000) 0, tA g aq2 1000 (fun _ => 0), (qq3, .inr (5, [.ref (a4 0), .int 0])), tT (a4 0) (a4 1) (nI 3) (nI 1001) 0, tA g (a4 1) 3003 (fun _ => 0), (qq5, .inr (2, [.ref (a6 0), .ref (a6 2), .ref (a6 4), .ref (a6 6), .ref (a6 8)])), tT (a6 0) (a6 1) (nI 12) (nI 80) 0, tT (a6 4) (a6 5) (nI 5) (nI 112) 0, tT (a6 8) (a6 9) (nI 2) (nI 8) 0, (qq7, .inr (2, [.ref (a8 0), .ref (a8 2), .ref (a8 4), .ref (a8 6), .ref (a8 8)])), tT (a8 0) (a8 1) (nI 12) (nI 80) 0, tT (a8 2) (a8 3) (nI 5) (nI 1000) 0, tT (a8 4) (a8 5) (nI 5) (nI 112) 0, tT (a8 6) (a8 7) (nI 1) (nI 16) 0, tA g (a8 7) 16 (fun _ => 0), tT (a8 8) (a8 9) (nI 2) (nI 8) 0, tA g (a8 9) 16 (fun _ => 0), (qq9, .inr (3, [.ref (a4 0), .ref (a10 0), .ref (a10 2), .ref (a10 4), .ref qq7, .int 0, .int 0, .int 0, .int 0, .int (-9), .int 0, .int 0])), tT (a10 0) (a10 1) (nI 1) (nI 6) 0, tT (a10 2) (a10 3) (nI 1) (nI 6) 0, tT (a10 4) (a10 5) (nI 1) (nI 80) 0, tA g (a10 5) 80 (fun _ => 0), (qq11, .inr (0, [.ref (a12 0), .ref (a12 2), .ref (a12 4), .ref qq5, .int 0, .int 0, .int 0, .int 0])), tT qq13 aq14 (nI 4) (nI 30) 0, (qq19, .inr (4, [.ref (a20 0), .ref (a20 2), .ref (a20 4), .ref (a20 6), .ref (a20 8), .int (-9), .int 0, .int 0, .int 0, .int 0, .int 0, .int 0])), (qq21, .inr (4, [.ref (a22 0), .ref (a22 2), .ref (a22 4), .ref (a22 6), .ref (a22 8), .int (-9), .int 0, .int 0, .int 0, .int 0, .int 0, .int 0]))] := hD
  refine lv_aload_n hx hb dX9_init_163 rfl (lv_at hl 0 rfl) ?_
  refine va_new (ci := 4) (fs := [.null, .null, .null, .null, .null, .int 0, .int 0, .int 0, .int 0, .int 0, .int 0, .int 0]) (C := RX4) (T := TX4) (N := 12) hx hb hts inlX4 tyX4 tyX4_ok hown (hts _ q38) (hts _ q39) (hts _ q40) hK hP hD hS hA rfl (lt_s (lt_s (lt_s (lt_s (lt_s (lt_s (lt_s (lt_s (lt_s (lt_s (lt_s (lt_s (lt_0) rfl) rfl) rfl) rfl) rfl) rfl) rfl) rfl) rfl) rfl) rfl) rfl) (Nat.le_of_ble_eq_true rfl) (Nat.le_of_ble_eq_true rfl) dX9_init_164 (fun qq25 H hP hD hS => ?_)
  refine W.cs (cells' := 81) (slots' := 52324) rfl rfl ?_
  have hP : va_P D vwCl [(h, .inr (9, [.ref qq1, .ref qq3, .ref qq9, .ref qq11, .null, .null, .null, .ref qq13, .ref qq15, .ref qq17, .ref qq19, .ref qq21, .ref qq23, .null, .ref qq5, .ref qq7, .int 0])), tT qq1 aq2 (nI 1) (nI 1000) 0, tA g aq2 1000 (fun _ => 0), (qq3, .inr (5, [.ref (a4 0), .int 0])), tT (a4 0) (a4 1) (nI 3) (nI 1001) 0, tA g (a4 1) 3003 (fun _ => 0), (qq5, .inr (2, [.ref (a6 0), .ref (a6 2), .ref (a6 4), .ref (a6 6), .ref (a6 8)])), tT (a6 0) (a6 1) (nI 12) (nI 80) 0, tT (a6 4) (a6 5) (nI 5) (nI 112) 0, tT (a6 8) (a6 9) (nI 2) (nI 8) 0, (qq7, .inr (2, [.ref (a8 0), .ref (a8 2), .ref (a8 4), .ref (a8 6), .ref (a8 8)])), tT (a8 0) (a8 1) (nI 12) (nI 80) 0, tT (a8 2) (a8 3) (nI 5) (nI 1000) 0, tT (a8 4) (a8 5) (nI 5) (nI 112) 0, tT (a8 6) (a8 7) (nI 1) (nI 16) 0, tA g (a8 7) 16 (fun _ => 0), tT (a8 8) (a8 9) (nI 2) (nI 8) 0, tA g (a8 9) 16 (fun _ => 0), (qq9, .inr (3, [.ref (a4 0), .ref (a10 0), .ref (a10 2), .ref (a10 4), .ref qq7, .int 0, .int 0, .int 0, .int 0, .int (-9), .int 0, .int 0])), tT (a10 0) (a10 1) (nI 1) (nI 6) 0, tT (a10 2) (a10 3) (nI 1) (nI 6) 0, tT (a10 4) (a10 5) (nI 1) (nI 80) 0, tA g (a10 5) 80 (fun _ => 0), (qq11, .inr (0, [.ref (a12 0), .ref (a12 2), .ref (a12 4), .ref qq5, .int 0, .int 0, .int 0, .int 0])), tT qq13 aq14 (nI 4) (nI 30) 0, (qq19, .inr (4, [.ref (a20 0), .ref (a20 2), .ref (a20 4), .ref (a20 6), .ref (a20 8), .int (-9), .int 0, .int 0, .int 0, .int 0, .int 0, .int 0])), (qq21, .inr (4, [.ref (a22 0), .ref (a22 2), .ref (a22 4), .ref (a22 6), .ref (a22 8), .int (-9), .int 0, .int 0, .int 0, .int 0, .int 0, .int 0])), (qq25, .inr (4, [.null, .null, .null, .null, .null, .int 0, .int 0, .int 0, .int 0, .int 0, .int 0, .int 0]))] H := hP
  have hD : va_D A [(h, .inr (9, [.ref qq1, .ref qq3, .ref qq9, .ref qq11, .null, .null, .null, .ref qq13, .ref qq15, .ref qq17, .ref qq19, .ref qq21, .ref qq23, .null, .ref qq5, .ref qq7, .int 0])), tT qq1 aq2 (nI 1) (nI 1000) 0, tA g aq2 1000 (fun _ => 0), (qq3, .inr (5, [.ref (a4 0), .int 0])), tT (a4 0) (a4 1) (nI 3) (nI 1001) 0, tA g (a4 1) 3003 (fun _ => 0), (qq5, .inr (2, [.ref (a6 0), .ref (a6 2), .ref (a6 4), .ref (a6 6), .ref (a6 8)])), tT (a6 0) (a6 1) (nI 12) (nI 80) 0, tT (a6 4) (a6 5) (nI 5) (nI 112) 0, tT (a6 8) (a6 9) (nI 2) (nI 8) 0, (qq7, .inr (2, [.ref (a8 0), .ref (a8 2), .ref (a8 4), .ref (a8 6), .ref (a8 8)])), tT (a8 0) (a8 1) (nI 12) (nI 80) 0, tT (a8 2) (a8 3) (nI 5) (nI 1000) 0, tT (a8 4) (a8 5) (nI 5) (nI 112) 0, tT (a8 6) (a8 7) (nI 1) (nI 16) 0, tA g (a8 7) 16 (fun _ => 0), tT (a8 8) (a8 9) (nI 2) (nI 8) 0, tA g (a8 9) 16 (fun _ => 0), (qq9, .inr (3, [.ref (a4 0), .ref (a10 0), .ref (a10 2), .ref (a10 4), .ref qq7, .int 0, .int 0, .int 0, .int 0, .int (-9), .int 0, .int 0])), tT (a10 0) (a10 1) (nI 1) (nI 6) 0, tT (a10 2) (a10 3) (nI 1) (nI 6) 0, tT (a10 4) (a10 5) (nI 1) (nI 80) 0, tA g (a10 5) 80 (fun _ => 0), (qq11, .inr (0, [.ref (a12 0), .ref (a12 2), .ref (a12 4), .ref qq5, .int 0, .int 0, .int 0, .int 0])), tT qq13 aq14 (nI 4) (nI 30) 0, (qq19, .inr (4, [.ref (a20 0), .ref (a20 2), .ref (a20 4), .ref (a20 6), .ref (a20 8), .int (-9), .int 0, .int 0, .int 0, .int 0, .int 0, .int 0])), (qq21, .inr (4, [.ref (a22 0), .ref (a22 2), .ref (a22 4), .ref (a22 6), .ref (a22 8), .int (-9), .int 0, .int 0, .int 0, .int 0, .int 0, .int 0])), (qq25, .inr (4, [.null, .null, .null, .null, .null, .int 0, .int 0, .int 0, .int 0, .int 0, .int 0, .int 0]))] := hD
  refine lv_dup hx hb dX9_init_167 rfl ?_
  refine vz_Iv (wr := [(h, .inr (9, [.ref qq1, .ref qq3, .ref qq9, .ref qq11, .null, .null, .null, .ref qq13, .ref qq15, .ref qq17, .ref qq19, .ref qq21, .ref qq23, .null, .ref qq5, .ref qq7, .int 0])), tT qq1 aq2 (nI 1) (nI 1000) 0, tA g aq2 1000 (fun _ => 0), (qq3, .inr (5, [.ref (a4 0), .int 0])), tT (a4 0) (a4 1) (nI 3) (nI 1001) 0, tA g (a4 1) 3003 (fun _ => 0), (qq5, .inr (2, [.ref (a6 0), .ref (a6 2), .ref (a6 4), .ref (a6 6), .ref (a6 8)])), tT (a6 0) (a6 1) (nI 12) (nI 80) 0, tT (a6 4) (a6 5) (nI 5) (nI 112) 0, tT (a6 8) (a6 9) (nI 2) (nI 8) 0, (qq7, .inr (2, [.ref (a8 0), .ref (a8 2), .ref (a8 4), .ref (a8 6), .ref (a8 8)])), tT (a8 0) (a8 1) (nI 12) (nI 80) 0, tT (a8 2) (a8 3) (nI 5) (nI 1000) 0, tT (a8 4) (a8 5) (nI 5) (nI 112) 0, tT (a8 6) (a8 7) (nI 1) (nI 16) 0, tA g (a8 7) 16 (fun _ => 0), tT (a8 8) (a8 9) (nI 2) (nI 8) 0, tA g (a8 9) 16 (fun _ => 0), (qq9, .inr (3, [.ref (a4 0), .ref (a10 0), .ref (a10 2), .ref (a10 4), .ref qq7, .int 0, .int 0, .int 0, .int 0, .int (-9), .int 0, .int 0])), tT (a10 0) (a10 1) (nI 1) (nI 6) 0, tT (a10 2) (a10 3) (nI 1) (nI 6) 0, tT (a10 4) (a10 5) (nI 1) (nI 80) 0, tA g (a10 5) 80 (fun _ => 0), (qq11, .inr (0, [.ref (a12 0), .ref (a12 2), .ref (a12 4), .ref qq5, .int 0, .int 0, .int 0, .int 0])), tT qq13 aq14 (nI 4) (nI 30) 0, (qq19, .inr (4, [.ref (a20 0), .ref (a20 2), .ref (a20 4), .ref (a20 6), .ref (a20 8), .int (-9), .int 0, .int 0, .int 0, .int 0, .int 0, .int 0])), (qq21, .inr (4, [.ref (a22 0), .ref (a22 2), .ref (a22 4), .ref (a22 6), .ref (a22 8), .int (-9), .int 0, .int 0, .int 0, .int 0, .int 0, .int 0]))]) (As := []) (rest := [.ref qq25, .ref h]) hx hb hml hown hts hK hA hP hD hS (c_C_rec l D g qq25 H.size ) ki_X9_67 (⟨Nat.le_of_ble_eq_true rfl, Nat.le_of_ble_eq_true rfl⟩) [27] [0, 1, 2, 3, 4, 5, 6, 7, 8, 9, 10, 11, 12, 13, 14, 15, 16, 17, 18, 19, 20, 21, 22, 23, 24, 25, 26] rfl rfl (by decide) hl.1 (Nat.le_of_ble_eq_true rfl) dX9_init_168 (⟨Nat.le_of_ble_eq_true rfl, Nat.le_of_ble_eq_true rfl⟩) rfl (fun a26 H locs _ _ hP hD hS => ?_)
  refine W.cs (cells' := 91) (slots' := 57227) rfl rfl ?_
  have hP : va_P D vwCl [(h, .inr (9, [.ref qq1, .ref qq3, .ref qq9, .ref qq11, .null, .null, .null, .ref qq13, .ref qq15, .ref qq17, .ref qq19, .ref qq21, .ref qq23, .null, .ref qq5, .ref qq7, .int 0])), tT qq1 aq2 (nI 1) (nI 1000) 0, tA g aq2 1000 (fun _ => 0), (qq3, .inr (5, [.ref (a4 0), .int 0])), tT (a4 0) (a4 1) (nI 3) (nI 1001) 0, tA g (a4 1) 3003 (fun _ => 0), (qq5, .inr (2, [.ref (a6 0), .ref (a6 2), .ref (a6 4), .ref (a6 6), .ref (a6 8)])), tT (a6 0) (a6 1) (nI 12) (nI 80) 0, tT (a6 4) (a6 5) (nI 5) (nI 112) 0, tT (a6 8) (a6 9) (nI 2) (nI 8) 0, (qq7, .inr (2, [.ref (a8 0), .ref (a8 2), .ref (a8 4), .ref (a8 6), .ref (a8 8)])), tT (a8 0) (a8 1) (nI 12) (nI 80) 0, tT (a8 2) (a8 3) (nI 5) (nI 1000) 0, tT (a8 4) (a8 5) (nI 5) (nI 112) 0, tT (a8 6) (a8 7) (nI 1) (nI 16) 0, tA g (a8 7) 16 (fun _ => 0), tT (a8 8) (a8 9) (nI 2) (nI 8) 0, tA g (a8 9) 16 (fun _ => 0), (qq9, .inr (3, [.ref (a4 0), .ref (a10 0), .ref (a10 2), .ref (a10 4), .ref qq7, .int 0, .int 0, .int 0, .int 0, .int (-9), .int 0, .int 0])), tT (a10 0) (a10 1) (nI 1) (nI 6) 0, tT (a10 2) (a10 3) (nI 1) (nI 6) 0, tT (a10 4) (a10 5) (nI 1) (nI 80) 0, tA g (a10 5) 80 (fun _ => 0), (qq11, .inr (0, [.ref (a12 0), .ref (a12 2), .ref (a12 4), .ref qq5, .int 0, .int 0, .int 0, .int 0])), tT qq13 aq14 (nI 4) (nI 30) 0, (qq19, .inr (4, [.ref (a20 0), .ref (a20 2), .ref (a20 4), .ref (a20 6), .ref (a20 8), .int (-9), .int 0, .int 0, .int 0, .int 0, .int 0, .int 0])), (qq21, .inr (4, [.ref (a22 0), .ref (a22 2), .ref (a22 4), .ref (a22 6), .ref (a22 8), .int (-9), .int 0, .int 0, .int 0, .int 0, .int 0, .int 0])), (qq25, .inr (4, [.ref (a26 0), .ref (a26 2), .ref (a26 4), .ref (a26 6), .ref (a26 8), .int (-9), .int 0, .int 0, .int 0, .int 0, .int 0, .int 0])), tT (a26 0) (a26 1) (nI 1) (nI 400) 0, tA g (a26 1) 400 (fun _ => 0), tT (a26 2) (a26 3) (nI 7) (nI 400) 0, tA g (a26 3) 2800 (fun _ => 0), tT (a26 4) (a26 5) (nI 3) (nI 401) 0, tA g (a26 5) 1203 (fun _ => 0), tT (a26 6) (a26 7) (nI 1) (nI 400) 0, tA g (a26 7) 400 (fun _ => 0), tT (a26 8) (a26 9) (nI 1) (nI 80) 0, tA g (a26 9) 80 (fun _ => 0)] H := hP
  have hD : va_D A [(h, .inr (9, [.ref qq1, .ref qq3, .ref qq9, .ref qq11, .null, .null, .null, .ref qq13, .ref qq15, .ref qq17, .ref qq19, .ref qq21, .ref qq23, .null, .ref qq5, .ref qq7, .int 0])), tT qq1 aq2 (nI 1) (nI 1000) 0, tA g aq2 1000 (fun _ => 0), (qq3, .inr (5, [.ref (a4 0), .int 0])), tT (a4 0) (a4 1) (nI 3) (nI 1001) 0, tA g (a4 1) 3003 (fun _ => 0), (qq5, .inr (2, [.ref (a6 0), .ref (a6 2), .ref (a6 4), .ref (a6 6), .ref (a6 8)])), tT (a6 0) (a6 1) (nI 12) (nI 80) 0, tT (a6 4) (a6 5) (nI 5) (nI 112) 0, tT (a6 8) (a6 9) (nI 2) (nI 8) 0, (qq7, .inr (2, [.ref (a8 0), .ref (a8 2), .ref (a8 4), .ref (a8 6), .ref (a8 8)])), tT (a8 0) (a8 1) (nI 12) (nI 80) 0, tT (a8 2) (a8 3) (nI 5) (nI 1000) 0, tT (a8 4) (a8 5) (nI 5) (nI 112) 0, tT (a8 6) (a8 7) (nI 1) (nI 16) 0, tA g (a8 7) 16 (fun _ => 0), tT (a8 8) (a8 9) (nI 2) (nI 8) 0, tA g (a8 9) 16 (fun _ => 0), (qq9, .inr (3, [.ref (a4 0), .ref (a10 0), .ref (a10 2), .ref (a10 4), .ref qq7, .int 0, .int 0, .int 0, .int 0, .int (-9), .int 0, .int 0])), tT (a10 0) (a10 1) (nI 1) (nI 6) 0, tT (a10 2) (a10 3) (nI 1) (nI 6) 0, tT (a10 4) (a10 5) (nI 1) (nI 80) 0, tA g (a10 5) 80 (fun _ => 0), (qq11, .inr (0, [.ref (a12 0), .ref (a12 2), .ref (a12 4), .ref qq5, .int 0, .int 0, .int 0, .int 0])), tT qq13 aq14 (nI 4) (nI 30) 0, (qq19, .inr (4, [.ref (a20 0), .ref (a20 2), .ref (a20 4), .ref (a20 6), .ref (a20 8), .int (-9), .int 0, .int 0, .int 0, .int 0, .int 0, .int 0])), (qq21, .inr (4, [.ref (a22 0), .ref (a22 2), .ref (a22 4), .ref (a22 6), .ref (a22 8), .int (-9), .int 0, .int 0, .int 0, .int 0, .int 0, .int 0])), (qq25, .inr (4, [.ref (a26 0), .ref (a26 2), .ref (a26 4), .ref (a26 6), .ref (a26 8), .int (-9), .int 0, .int 0, .int 0, .int 0, .int 0, .int 0])), tT (a26 0) (a26 1) (nI 1) (nI 400) 0, tA g (a26 1) 400 (fun _ => 0), tT (a26 2) (a26 3) (nI 7) (nI 400) 0, tA g (a26 3) 2800 (fun _ => 0), tT (a26 4) (a26 5) (nI 3) (nI 401) 0, tA g (a26 5) 1203 (fun _ => 0), tT (a26 6) (a26 7) (nI 1) (nI 400) 0, tA g (a26 7) 400 (fun _ => 0), tT (a26 8) (a26 9) (nI 1) (nI 80) 0, tA g (a26 9) 80 (fun _ => 0)] := hD
  have hP : va_P D vwCl [(h, .inr (9, [.ref qq1, .ref qq3, .ref qq9, .ref qq11, .null, .null, .null, .ref qq13, .ref qq15, .ref qq17, .ref qq19, .ref qq21, .ref qq23, .null, .ref qq5, .ref qq7, .int 0])), tT qq1 aq2 (nI 1) (nI 1000) 0, tA g aq2 1000 (fun _ => 0), (qq3, .inr (5, [.ref (a4 0), .int 0])), tT (a4 0) (a4 1) (nI 3) (nI 1001) 0, tA g (a4 1) 3003 (fun _ => 0), (qq5, .inr (2, [.ref (a6 0), .ref (a6 2), .ref (a6 4), .ref (a6 6), .ref (a6 8)])), tT (a6 0) (a6 1) (nI 12) (nI 80) 0, tT (a6 4) (a6 5) (nI 5) (nI 112) 0, tT (a6 8) (a6 9) (nI 2) (nI 8) 0, (qq7, .inr (2, [.ref (a8 0), .ref (a8 2), .ref (a8 4), .ref (a8 6), .ref (a8 8)])), tT (a8 0) (a8 1) (nI 12) (nI 80) 0, tT (a8 2) (a8 3) (nI 5) (nI 1000) 0, tT (a8 4) (a8 5) (nI 5) (nI 112) 0, tT (a8 6) (a8 7) (nI 1) (nI 16) 0, tA g (a8 7) 16 (fun _ => 0), tT (a8 8) (a8 9) (nI 2) (nI 8) 0, tA g (a8 9) 16 (fun _ => 0), (qq9, .inr (3, [.ref (a4 0), .ref (a10 0), .ref (a10 2), .ref (a10 4), .ref qq7, .int 0, .int 0, .int 0, .int 0, .int (-9), .int 0, .int 0])), tT (a10 0) (a10 1) (nI 1) (nI 6) 0, tT (a10 2) (a10 3) (nI 1) (nI 6) 0, tT (a10 4) (a10 5) (nI 1) (nI 80) 0, tA g (a10 5) 80 (fun _ => 0), (qq11, .inr (0, [.ref (a12 0), .ref (a12 2), .ref (a12 4), .ref qq5, .int 0, .int 0, .int 0, .int 0])), tT qq13 aq14 (nI 4) (nI 30) 0, (qq19, .inr (4, [.ref (a20 0), .ref (a20 2), .ref (a20 4), .ref (a20 6), .ref (a20 8), .int (-9), .int 0, .int 0, .int 0, .int 0, .int 0, .int 0])), (qq21, .inr (4, [.ref (a22 0), .ref (a22 2), .ref (a22 4), .ref (a22 6), .ref (a22 8), .int (-9), .int 0, .int 0, .int 0, .int 0, .int 0, .int 0]))] H := vz_pickP hP [0, 1, 2, 3, 4, 5, 6, 7, 8, 9, 10, 11, 12, 13, 14, 15, 16, 17, 18, 19, 20, 21, 22, 23, 24, 25, 26] rfl
  have hD : va_D A [(h, .inr (9, [.ref qq1, .ref qq3, .ref qq9, .ref qq11, .null, .null, .null, .ref qq13, .ref qq15, .ref qq17, .ref qq19, .ref qq21, .ref qq23, .null, .ref qq5, .ref qq7, .int 0])), tT qq1 aq2 (nI 1) (nI 1000) 0, tA g aq2 1000 (fun _ => 0), (qq3, .inr (5, [.ref (a4 0), .int 0])), tT (a4 0) (a4 1) (nI 3) (nI 1001) 0, tA g (a4 1) 3003 (fun _ => 0), (qq5, .inr (2, [.ref (a6 0), .ref (a6 2), .ref (a6 4), .ref (a6 6), .ref (a6 8)])), tT (a6 0) (a6 1) (nI 12) (nI 80) 0, tT (a6 4) (a6 5) (nI 5) (nI 112) 0, tT (a6 8) (a6 9) (nI 2) (nI 8) 0, (qq7, .inr (2, [.ref (a8 0), .ref (a8 2), .ref (a8 4), .ref (a8 6), .ref (a8 8)])), tT (a8 0) (a8 1) (nI 12) (nI 80) 0, tT (a8 2) (a8 3) (nI 5) (nI 1000) 0, tT (a8 4) (a8 5) (nI 5) (nI 112) 0, tT (a8 6) (a8 7) (nI 1) (nI 16) 0, tA g (a8 7) 16 (fun _ => 0), tT (a8 8) (a8 9) (nI 2) (nI 8) 0, tA g (a8 9) 16 (fun _ => 0), (qq9, .inr (3, [.ref (a4 0), .ref (a10 0), .ref (a10 2), .ref (a10 4), .ref qq7, .int 0, .int 0, .int 0, .int 0, .int (-9), .int 0, .int 0])), tT (a10 0) (a10 1) (nI 1) (nI 6) 0, tT (a10 2) (a10 3) (nI 1) (nI 6) 0, tT (a10 4) (a10 5) (nI 1) (nI 80) 0, tA g (a10 5) 80 (fun _ => 0), (qq11, .inr (0, [.ref (a12 0), .ref (a12 2), .ref (a12 4), .ref qq5, .int 0, .int 0, .int 0, .int 0])), tT qq13 aq14 (nI 4) (nI 30) 0, (qq19, .inr (4, [.ref (a20 0), .ref (a20 2), .ref (a20 4), .ref (a20 6), .ref (a20 8), .int (-9), .int 0, .int 0, .int 0, .int 0, .int 0, .int 0])), (qq21, .inr (4, [.ref (a22 0), .ref (a22 2), .ref (a22 4), .ref (a22 6), .ref (a22 8), .int (-9), .int 0, .int 0, .int 0, .int 0, .int 0, .int 0]))] := hD.sub [0, 1, 2, 3, 4, 5, 6, 7, 8, 9, 10, 11, 12, 13, 14, 15, 16, 17, 18, 19, 20, 21, 22, 23, 24, 25, 26] (by decide) rfl
  refine va_putF (D := D) (ci := 9) (v := .ref qq25) (ty := .object "WaysAtlas$RunRecord") (C := RX9) (T := TX9) (N := 17) hx hb hts inlX9 tyX9 tyX9_ok nmX9 hown hK hP hD hS 0 rfl rfl 13 (by decide) (hts _ q44) (fun _ h => h) rfl hin rfl (by decide +kernel) rfl rfl (Nat.le_of_ble_eq_true rfl) dX9_init_171 (fun H locs hP hD hS => ?_)
  have hP : va_P D vwCl [(h, .inr (9, [.ref qq1, .ref qq3, .ref qq9, .ref qq11, .null, .null, .null, .ref qq13, .ref qq15, .ref qq17, .ref qq19, .ref qq21, .ref qq23, .ref qq25, .ref qq5, .ref qq7, .int 0])), tT qq1 aq2 (nI 1) (nI 1000) 0, tA g aq2 1000 (fun _ => 0), (qq3, .inr (5, [.ref (a4 0), .int 0])), tT (a4 0) (a4 1) (nI 3) (nI 1001) 0, tA g (a4 1) 3003 (fun _ => 0), (qq5, .inr (2, [.ref (a6 0), .ref (a6 2), .ref (a6 4), .ref (a6 6), .ref (a6 8)])), tT (a6 0) (a6 1) (nI 12) (nI 80) 0, tT (a6 4) (a6 5) (nI 5) (nI 112) 0, tT (a6 8) (a6 9) (nI 2) (nI 8) 0, (qq7, .inr (2, [.ref (a8 0), .ref (a8 2), .ref (a8 4), .ref (a8 6), .ref (a8 8)])), tT (a8 0) (a8 1) (nI 12) (nI 80) 0, tT (a8 2) (a8 3) (nI 5) (nI 1000) 0, tT (a8 4) (a8 5) (nI 5) (nI 112) 0, tT (a8 6) (a8 7) (nI 1) (nI 16) 0, tA g (a8 7) 16 (fun _ => 0), tT (a8 8) (a8 9) (nI 2) (nI 8) 0, tA g (a8 9) 16 (fun _ => 0), (qq9, .inr (3, [.ref (a4 0), .ref (a10 0), .ref (a10 2), .ref (a10 4), .ref qq7, .int 0, .int 0, .int 0, .int 0, .int (-9), .int 0, .int 0])), tT (a10 0) (a10 1) (nI 1) (nI 6) 0, tT (a10 2) (a10 3) (nI 1) (nI 6) 0, tT (a10 4) (a10 5) (nI 1) (nI 80) 0, tA g (a10 5) 80 (fun _ => 0), (qq11, .inr (0, [.ref (a12 0), .ref (a12 2), .ref (a12 4), .ref qq5, .int 0, .int 0, .int 0, .int 0])), tT qq13 aq14 (nI 4) (nI 30) 0, (qq19, .inr (4, [.ref (a20 0), .ref (a20 2), .ref (a20 4), .ref (a20 6), .ref (a20 8), .int (-9), .int 0, .int 0, .int 0, .int 0, .int 0, .int 0])), (qq21, .inr (4, [.ref (a22 0), .ref (a22 2), .ref (a22 4), .ref (a22 6), .ref (a22 8), .int (-9), .int 0, .int 0, .int 0, .int 0, .int 0, .int 0]))] H := hP
  have hD : va_D A [(h, .inr (9, [.ref qq1, .ref qq3, .ref qq9, .ref qq11, .null, .null, .null, .ref qq13, .ref qq15, .ref qq17, .ref qq19, .ref qq21, .ref qq23, .ref qq25, .ref qq5, .ref qq7, .int 0])), tT qq1 aq2 (nI 1) (nI 1000) 0, tA g aq2 1000 (fun _ => 0), (qq3, .inr (5, [.ref (a4 0), .int 0])), tT (a4 0) (a4 1) (nI 3) (nI 1001) 0, tA g (a4 1) 3003 (fun _ => 0), (qq5, .inr (2, [.ref (a6 0), .ref (a6 2), .ref (a6 4), .ref (a6 6), .ref (a6 8)])), tT (a6 0) (a6 1) (nI 12) (nI 80) 0, tT (a6 4) (a6 5) (nI 5) (nI 112) 0, tT (a6 8) (a6 9) (nI 2) (nI 8) 0, (qq7, .inr (2, [.ref (a8 0), .ref (a8 2), .ref (a8 4), .ref (a8 6), .ref (a8 8)])), tT (a8 0) (a8 1) (nI 12) (nI 80) 0, tT (a8 2) (a8 3) (nI 5) (nI 1000) 0, tT (a8 4) (a8 5) (nI 5) (nI 112) 0, tT (a8 6) (a8 7) (nI 1) (nI 16) 0, tA g (a8 7) 16 (fun _ => 0), tT (a8 8) (a8 9) (nI 2) (nI 8) 0, tA g (a8 9) 16 (fun _ => 0), (qq9, .inr (3, [.ref (a4 0), .ref (a10 0), .ref (a10 2), .ref (a10 4), .ref qq7, .int 0, .int 0, .int 0, .int 0, .int (-9), .int 0, .int 0])), tT (a10 0) (a10 1) (nI 1) (nI 6) 0, tT (a10 2) (a10 3) (nI 1) (nI 6) 0, tT (a10 4) (a10 5) (nI 1) (nI 80) 0, tA g (a10 5) 80 (fun _ => 0), (qq11, .inr (0, [.ref (a12 0), .ref (a12 2), .ref (a12 4), .ref qq5, .int 0, .int 0, .int 0, .int 0])), tT qq13 aq14 (nI 4) (nI 30) 0, (qq19, .inr (4, [.ref (a20 0), .ref (a20 2), .ref (a20 4), .ref (a20 6), .ref (a20 8), .int (-9), .int 0, .int 0, .int 0, .int 0, .int 0, .int 0])), (qq21, .inr (4, [.ref (a22 0), .ref (a22 2), .ref (a22 4), .ref (a22 6), .ref (a22 8), .int (-9), .int 0, .int 0, .int 0, .int 0, .int 0, .int 0]))] := hD
  refine lv_aload_n hx hb dX9_init_174 rfl (lv_at hl 0 rfl) ?_
  refine va_new (ci := 8) (fs := [.null, .null, .null, .null, .null, .null, .null, .null, .int 0, .int 0, .int 0]) (C := RX8) (T := TX8) (N := 11) hx hb hts inlX8 tyX8 tyX8_ok hown (hts _ q45) (hts _ q46) (hts _ q47) hK hP hD hS hA rfl (lt_s (lt_s (lt_s (lt_s (lt_s (lt_s (lt_s (lt_s (lt_s (lt_s (lt_s (lt_0) rfl) rfl) rfl) rfl) rfl) rfl) rfl) rfl) rfl) rfl) rfl) (Nat.le_of_ble_eq_true rfl) (Nat.le_of_ble_eq_true rfl) dX9_init_175 (fun qq27 H hP hD hS => ?_)
  refine W.cs (cells' := 92) (slots' := 57238) rfl rfl ?_
  have hP : va_P D vwCl [(h, .inr (9, [.ref qq1, .ref qq3, .ref qq9, .ref qq11, .null, .null, .null, .ref qq13, .ref qq15, .ref qq17, .ref qq19, .ref qq21, .ref qq23, .ref qq25, .ref qq5, .ref qq7, .int 0])), tT qq1 aq2 (nI 1) (nI 1000) 0, tA g aq2 1000 (fun _ => 0), (qq3, .inr (5, [.ref (a4 0), .int 0])), tT (a4 0) (a4 1) (nI 3) (nI 1001) 0, tA g (a4 1) 3003 (fun _ => 0), (qq5, .inr (2, [.ref (a6 0), .ref (a6 2), .ref (a6 4), .ref (a6 6), .ref (a6 8)])), tT (a6 0) (a6 1) (nI 12) (nI 80) 0, tT (a6 4) (a6 5) (nI 5) (nI 112) 0, tT (a6 8) (a6 9) (nI 2) (nI 8) 0, (qq7, .inr (2, [.ref (a8 0), .ref (a8 2), .ref (a8 4), .ref (a8 6), .ref (a8 8)])), tT (a8 0) (a8 1) (nI 12) (nI 80) 0, tT (a8 2) (a8 3) (nI 5) (nI 1000) 0, tT (a8 4) (a8 5) (nI 5) (nI 112) 0, tT (a8 6) (a8 7) (nI 1) (nI 16) 0, tA g (a8 7) 16 (fun _ => 0), tT (a8 8) (a8 9) (nI 2) (nI 8) 0, tA g (a8 9) 16 (fun _ => 0), (qq9, .inr (3, [.ref (a4 0), .ref (a10 0), .ref (a10 2), .ref (a10 4), .ref qq7, .int 0, .int 0, .int 0, .int 0, .int (-9), .int 0, .int 0])), tT (a10 0) (a10 1) (nI 1) (nI 6) 0, tT (a10 2) (a10 3) (nI 1) (nI 6) 0, tT (a10 4) (a10 5) (nI 1) (nI 80) 0, tA g (a10 5) 80 (fun _ => 0), (qq11, .inr (0, [.ref (a12 0), .ref (a12 2), .ref (a12 4), .ref qq5, .int 0, .int 0, .int 0, .int 0])), tT qq13 aq14 (nI 4) (nI 30) 0, (qq19, .inr (4, [.ref (a20 0), .ref (a20 2), .ref (a20 4), .ref (a20 6), .ref (a20 8), .int (-9), .int 0, .int 0, .int 0, .int 0, .int 0, .int 0])), (qq21, .inr (4, [.ref (a22 0), .ref (a22 2), .ref (a22 4), .ref (a22 6), .ref (a22 8), .int (-9), .int 0, .int 0, .int 0, .int 0, .int 0, .int 0])), (qq27, .inr (8, [.null, .null, .null, .null, .null, .null, .null, .null, .int 0, .int 0, .int 0]))] H := hP
  have hD : va_D A [(h, .inr (9, [.ref qq1, .ref qq3, .ref qq9, .ref qq11, .null, .null, .null, .ref qq13, .ref qq15, .ref qq17, .ref qq19, .ref qq21, .ref qq23, .ref qq25, .ref qq5, .ref qq7, .int 0])), tT qq1 aq2 (nI 1) (nI 1000) 0, tA g aq2 1000 (fun _ => 0), (qq3, .inr (5, [.ref (a4 0), .int 0])), tT (a4 0) (a4 1) (nI 3) (nI 1001) 0, tA g (a4 1) 3003 (fun _ => 0), (qq5, .inr (2, [.ref (a6 0), .ref (a6 2), .ref (a6 4), .ref (a6 6), .ref (a6 8)])), tT (a6 0) (a6 1) (nI 12) (nI 80) 0, tT (a6 4) (a6 5) (nI 5) (nI 112) 0, tT (a6 8) (a6 9) (nI 2) (nI 8) 0, (qq7, .inr (2, [.ref (a8 0), .ref (a8 2), .ref (a8 4), .ref (a8 6), .ref (a8 8)])), tT (a8 0) (a8 1) (nI 12) (nI 80) 0, tT (a8 2) (a8 3) (nI 5) (nI 1000) 0, tT (a8 4) (a8 5) (nI 5) (nI 112) 0, tT (a8 6) (a8 7) (nI 1) (nI 16) 0, tA g (a8 7) 16 (fun _ => 0), tT (a8 8) (a8 9) (nI 2) (nI 8) 0, tA g (a8 9) 16 (fun _ => 0), (qq9, .inr (3, [.ref (a4 0), .ref (a10 0), .ref (a10 2), .ref (a10 4), .ref qq7, .int 0, .int 0, .int 0, .int 0, .int (-9), .int 0, .int 0])), tT (a10 0) (a10 1) (nI 1) (nI 6) 0, tT (a10 2) (a10 3) (nI 1) (nI 6) 0, tT (a10 4) (a10 5) (nI 1) (nI 80) 0, tA g (a10 5) 80 (fun _ => 0), (qq11, .inr (0, [.ref (a12 0), .ref (a12 2), .ref (a12 4), .ref qq5, .int 0, .int 0, .int 0, .int 0])), tT qq13 aq14 (nI 4) (nI 30) 0, (qq19, .inr (4, [.ref (a20 0), .ref (a20 2), .ref (a20 4), .ref (a20 6), .ref (a20 8), .int (-9), .int 0, .int 0, .int 0, .int 0, .int 0, .int 0])), (qq21, .inr (4, [.ref (a22 0), .ref (a22 2), .ref (a22 4), .ref (a22 6), .ref (a22 8), .int (-9), .int 0, .int 0, .int 0, .int 0, .int 0, .int 0])), (qq27, .inr (8, [.null, .null, .null, .null, .null, .null, .null, .null, .int 0, .int 0, .int 0]))] := hD
  refine lv_dup hx hb dX9_init_178 rfl ?_
  refine lv_aload_n hx hb dX9_init_179 rfl (lv_at hl 0 rfl) ?_
  refine va_get (D := D) (ci := 9) (v := .ref qq5) (C := RX9) (T := TX9) (N := 17) hx hb hts inlX9 hown hK hP 0 rfl rfl 14 (by decide) (hts _ q24) (fun _ h => h) rfl dX9_init_180 ?_
  refine lv_aload_n hx hb dX9_init_183 rfl (lv_at hl 0 rfl) ?_
  refine va_get (D := D) (ci := 9) (v := .ref qq13) (C := RX9) (T := TX9) (N := 17) hx hb hts inlX9 hown hK hP 0 rfl rfl 7 (by decide) (hts _ q35) (fun _ h => h) rfl dX9_init_184 ?_
  refine lv_aload_n hx hb dX9_init_187 rfl (lv_at hl 0 rfl) ?_
  refine va_get (D := D) (ci := 9) (v := .ref qq19) (C := RX9) (T := TX9) (N := 17) hx hb hts inlX9 hown hK hP 0 rfl rfl 10 (by decide) (hts _ q41) (fun _ h => h) rfl dX9_init_188 ?_
  refine vz_Iv (wr := [(h, .inr (9, [.ref qq1, .ref qq3, .ref qq9, .ref qq11, .null, .null, .null, .ref qq13, .ref qq15, .ref qq17, .ref qq19, .ref qq21, .ref qq23, .ref qq25, .ref qq5, .ref qq7, .int 0])), tT qq1 aq2 (nI 1) (nI 1000) 0, tA g aq2 1000 (fun _ => 0), (qq3, .inr (5, [.ref (a4 0), .int 0])), tT (a4 0) (a4 1) (nI 3) (nI 1001) 0, tA g (a4 1) 3003 (fun _ => 0), (qq5, .inr (2, [.ref (a6 0), .ref (a6 2), .ref (a6 4), .ref (a6 6), .ref (a6 8)])), tT (a6 0) (a6 1) (nI 12) (nI 80) 0, tT (a6 4) (a6 5) (nI 5) (nI 112) 0, tT (a6 8) (a6 9) (nI 2) (nI 8) 0, (qq7, .inr (2, [.ref (a8 0), .ref (a8 2), .ref (a8 4), .ref (a8 6), .ref (a8 8)])), tT (a8 0) (a8 1) (nI 12) (nI 80) 0, tT (a8 2) (a8 3) (nI 5) (nI 1000) 0, tT (a8 4) (a8 5) (nI 5) (nI 112) 0, tT (a8 6) (a8 7) (nI 1) (nI 16) 0, tA g (a8 7) 16 (fun _ => 0), tT (a8 8) (a8 9) (nI 2) (nI 8) 0, tA g (a8 9) 16 (fun _ => 0), (qq9, .inr (3, [.ref (a4 0), .ref (a10 0), .ref (a10 2), .ref (a10 4), .ref qq7, .int 0, .int 0, .int 0, .int 0, .int (-9), .int 0, .int 0])), tT (a10 0) (a10 1) (nI 1) (nI 6) 0, tT (a10 2) (a10 3) (nI 1) (nI 6) 0, tT (a10 4) (a10 5) (nI 1) (nI 80) 0, tA g (a10 5) 80 (fun _ => 0), (qq11, .inr (0, [.ref (a12 0), .ref (a12 2), .ref (a12 4), .ref qq5, .int 0, .int 0, .int 0, .int 0])), tT qq13 aq14 (nI 4) (nI 30) 0, (qq19, .inr (4, [.ref (a20 0), .ref (a20 2), .ref (a20 4), .ref (a20 6), .ref (a20 8), .int (-9), .int 0, .int 0, .int 0, .int 0, .int 0, .int 0])), (qq21, .inr (4, [.ref (a22 0), .ref (a22 2), .ref (a22 4), .ref (a22 6), .ref (a22 8), .int (-9), .int 0, .int 0, .int 0, .int 0, .int 0, .int 0]))]) (As := [.ref qq5, .ref qq13, .ref qq19]) (rest := [.ref qq27, .ref h]) hx hb hml hown hts hK hA hP hD hS (c_W_init l D g qq27 H.size qq5 qq13 qq19) ki_X9_83 (⟨Nat.le_of_ble_eq_true rfl, Nat.le_of_ble_eq_true rfl⟩) [27] [0, 1, 2, 3, 4, 5, 6, 7, 8, 9, 10, 11, 12, 13, 14, 15, 16, 17, 18, 19, 20, 21, 22, 23, 24, 25, 26] rfl rfl (by decide) hl.1 (Nat.le_of_ble_eq_true rfl) dX9_init_191 (⟨Nat.le_of_ble_eq_true rfl, Nat.le_of_ble_eq_true rfl⟩) rfl (fun a28 H locs _ _ hP hD hS => ?_)
  refine W.cs (cells' := 102) (slots' := 62534) rfl rfl ?_
  have hP : va_P D vwCl [(h, .inr (9, [.ref qq1, .ref qq3, .ref qq9, .ref qq11, .null, .null, .null, .ref qq13, .ref qq15, .ref qq17, .ref qq19, .ref qq21, .ref qq23, .ref qq25, .ref qq5, .ref qq7, .int 0])), tT qq1 aq2 (nI 1) (nI 1000) 0, tA g aq2 1000 (fun _ => 0), (qq3, .inr (5, [.ref (a4 0), .int 0])), tT (a4 0) (a4 1) (nI 3) (nI 1001) 0, tA g (a4 1) 3003 (fun _ => 0), (qq5, .inr (2, [.ref (a6 0), .ref (a6 2), .ref (a6 4), .ref (a6 6), .ref (a6 8)])), tT (a6 0) (a6 1) (nI 12) (nI 80) 0, tT (a6 4) (a6 5) (nI 5) (nI 112) 0, tT (a6 8) (a6 9) (nI 2) (nI 8) 0, (qq7, .inr (2, [.ref (a8 0), .ref (a8 2), .ref (a8 4), .ref (a8 6), .ref (a8 8)])), tT (a8 0) (a8 1) (nI 12) (nI 80) 0, tT (a8 2) (a8 3) (nI 5) (nI 1000) 0, tT (a8 4) (a8 5) (nI 5) (nI 112) 0, tT (a8 6) (a8 7) (nI 1) (nI 16) 0, tA g (a8 7) 16 (fun _ => 0), tT (a8 8) (a8 9) (nI 2) (nI 8) 0, tA g (a8 9) 16 (fun _ => 0), (qq9, .inr (3, [.ref (a4 0), .ref (a10 0), .ref (a10 2), .ref (a10 4), .ref qq7, .int 0, .int 0, .int 0, .int 0, .int (-9), .int 0, .int 0])), tT (a10 0) (a10 1) (nI 1) (nI 6) 0, tT (a10 2) (a10 3) (nI 1) (nI 6) 0, tT (a10 4) (a10 5) (nI 1) (nI 80) 0, tA g (a10 5) 80 (fun _ => 0), (qq11, .inr (0, [.ref (a12 0), .ref (a12 2), .ref (a12 4), .ref qq5, .int 0, .int 0, .int 0, .int 0])), tT qq13 aq14 (nI 4) (nI 30) 0, (qq19, .inr (4, [.ref (a20 0), .ref (a20 2), .ref (a20 4), .ref (a20 6), .ref (a20 8), .int (-9), .int 0, .int 0, .int 0, .int 0, .int 0, .int 0])), (qq21, .inr (4, [.ref (a22 0), .ref (a22 2), .ref (a22 4), .ref (a22 6), .ref (a22 8), .int (-9), .int 0, .int 0, .int 0, .int 0, .int 0, .int 0])), (qq27, .inr (8, [.ref (a28 0), .ref (a28 2), .ref (a28 4), .ref (a28 6), .ref (a28 8), .ref qq5, .ref qq19, .ref qq13, .int 0, .int (-9), .int 0])), tT (a28 0) (a28 1) (nI 3) (nI 60) 0, tA g (a28 1) 180 (fun _ => 0), tT (a28 2) (a28 3) (nI 12) (nI 12) 0, tA g (a28 3) 144 (fun _ => 0), tT (a28 4) (a28 5) (nI 11) (nI 72) (nI 72), tA g (a28 5) 792 (tf (fun _ => 0) 0 (72 * 11) (-9)), tT (a28 6) (a28 7) (nI 9) (nI 400) 0, tA g (a28 7) 3600 (fun _ => 0), tT (a28 8) (a28 9) (nI 7) (nI 80) 0, tA g (a28 9) 560 (fun _ => 0)] H := hP
  have hD : va_D A [(h, .inr (9, [.ref qq1, .ref qq3, .ref qq9, .ref qq11, .null, .null, .null, .ref qq13, .ref qq15, .ref qq17, .ref qq19, .ref qq21, .ref qq23, .ref qq25, .ref qq5, .ref qq7, .int 0])), tT qq1 aq2 (nI 1) (nI 1000) 0, tA g aq2 1000 (fun _ => 0), (qq3, .inr (5, [.ref (a4 0), .int 0])), tT (a4 0) (a4 1) (nI 3) (nI 1001) 0, tA g (a4 1) 3003 (fun _ => 0), (qq5, .inr (2, [.ref (a6 0), .ref (a6 2), .ref (a6 4), .ref (a6 6), .ref (a6 8)])), tT (a6 0) (a6 1) (nI 12) (nI 80) 0, tT (a6 4) (a6 5) (nI 5) (nI 112) 0, tT (a6 8) (a6 9) (nI 2) (nI 8) 0, (qq7, .inr (2, [.ref (a8 0), .ref (a8 2), .ref (a8 4), .ref (a8 6), .ref (a8 8)])), tT (a8 0) (a8 1) (nI 12) (nI 80) 0, tT (a8 2) (a8 3) (nI 5) (nI 1000) 0, tT (a8 4) (a8 5) (nI 5) (nI 112) 0, tT (a8 6) (a8 7) (nI 1) (nI 16) 0, tA g (a8 7) 16 (fun _ => 0), tT (a8 8) (a8 9) (nI 2) (nI 8) 0, tA g (a8 9) 16 (fun _ => 0), (qq9, .inr (3, [.ref (a4 0), .ref (a10 0), .ref (a10 2), .ref (a10 4), .ref qq7, .int 0, .int 0, .int 0, .int 0, .int (-9), .int 0, .int 0])), tT (a10 0) (a10 1) (nI 1) (nI 6) 0, tT (a10 2) (a10 3) (nI 1) (nI 6) 0, tT (a10 4) (a10 5) (nI 1) (nI 80) 0, tA g (a10 5) 80 (fun _ => 0), (qq11, .inr (0, [.ref (a12 0), .ref (a12 2), .ref (a12 4), .ref qq5, .int 0, .int 0, .int 0, .int 0])), tT qq13 aq14 (nI 4) (nI 30) 0, (qq19, .inr (4, [.ref (a20 0), .ref (a20 2), .ref (a20 4), .ref (a20 6), .ref (a20 8), .int (-9), .int 0, .int 0, .int 0, .int 0, .int 0, .int 0])), (qq21, .inr (4, [.ref (a22 0), .ref (a22 2), .ref (a22 4), .ref (a22 6), .ref (a22 8), .int (-9), .int 0, .int 0, .int 0, .int 0, .int 0, .int 0])), (qq27, .inr (8, [.ref (a28 0), .ref (a28 2), .ref (a28 4), .ref (a28 6), .ref (a28 8), .ref qq5, .ref qq19, .ref qq13, .int 0, .int (-9), .int 0])), tT (a28 0) (a28 1) (nI 3) (nI 60) 0, tA g (a28 1) 180 (fun _ => 0), tT (a28 2) (a28 3) (nI 12) (nI 12) 0, tA g (a28 3) 144 (fun _ => 0), tT (a28 4) (a28 5) (nI 11) (nI 72) (nI 72), tA g (a28 5) 792 (tf (fun _ => 0) 0 (72 * 11) (-9)), tT (a28 6) (a28 7) (nI 9) (nI 400) 0, tA g (a28 7) 3600 (fun _ => 0), tT (a28 8) (a28 9) (nI 7) (nI 80) 0, tA g (a28 9) 560 (fun _ => 0)] := hD
  have hP : va_P D vwCl [(h, .inr (9, [.ref qq1, .ref qq3, .ref qq9, .ref qq11, .null, .null, .null, .ref qq13, .ref qq15, .ref qq17, .ref qq19, .ref qq21, .ref qq23, .ref qq25, .ref qq5, .ref qq7, .int 0])), tT qq1 aq2 (nI 1) (nI 1000) 0, tA g aq2 1000 (fun _ => 0), (qq3, .inr (5, [.ref (a4 0), .int 0])), tT (a4 0) (a4 1) (nI 3) (nI 1001) 0, tA g (a4 1) 3003 (fun _ => 0), (qq5, .inr (2, [.ref (a6 0), .ref (a6 2), .ref (a6 4), .ref (a6 6), .ref (a6 8)])), tT (a6 0) (a6 1) (nI 12) (nI 80) 0, tT (a6 4) (a6 5) (nI 5) (nI 112) 0, tT (a6 8) (a6 9) (nI 2) (nI 8) 0, (qq7, .inr (2, [.ref (a8 0), .ref (a8 2), .ref (a8 4), .ref (a8 6), .ref (a8 8)])), tT (a8 0) (a8 1) (nI 12) (nI 80) 0, tT (a8 2) (a8 3) (nI 5) (nI 1000) 0, tT (a8 4) (a8 5) (nI 5) (nI 112) 0, tT (a8 6) (a8 7) (nI 1) (nI 16) 0, tA g (a8 7) 16 (fun _ => 0), tT (a8 8) (a8 9) (nI 2) (nI 8) 0, tA g (a8 9) 16 (fun _ => 0), (qq9, .inr (3, [.ref (a4 0), .ref (a10 0), .ref (a10 2), .ref (a10 4), .ref qq7, .int 0, .int 0, .int 0, .int 0, .int (-9), .int 0, .int 0])), tT (a10 0) (a10 1) (nI 1) (nI 6) 0, tT (a10 2) (a10 3) (nI 1) (nI 6) 0, tT (a10 4) (a10 5) (nI 1) (nI 80) 0, tA g (a10 5) 80 (fun _ => 0), (qq11, .inr (0, [.ref (a12 0), .ref (a12 2), .ref (a12 4), .ref qq5, .int 0, .int 0, .int 0, .int 0])), tT qq13 aq14 (nI 4) (nI 30) 0, (qq19, .inr (4, [.ref (a20 0), .ref (a20 2), .ref (a20 4), .ref (a20 6), .ref (a20 8), .int (-9), .int 0, .int 0, .int 0, .int 0, .int 0, .int 0])), (qq21, .inr (4, [.ref (a22 0), .ref (a22 2), .ref (a22 4), .ref (a22 6), .ref (a22 8), .int (-9), .int 0, .int 0, .int 0, .int 0, .int 0, .int 0]))] H := vz_pickP hP [0, 1, 2, 3, 4, 5, 6, 7, 8, 9, 10, 11, 12, 13, 14, 15, 16, 17, 18, 19, 20, 21, 22, 23, 24, 25, 26] rfl
  have hD : va_D A [(h, .inr (9, [.ref qq1, .ref qq3, .ref qq9, .ref qq11, .null, .null, .null, .ref qq13, .ref qq15, .ref qq17, .ref qq19, .ref qq21, .ref qq23, .ref qq25, .ref qq5, .ref qq7, .int 0])), tT qq1 aq2 (nI 1) (nI 1000) 0, tA g aq2 1000 (fun _ => 0), (qq3, .inr (5, [.ref (a4 0), .int 0])), tT (a4 0) (a4 1) (nI 3) (nI 1001) 0, tA g (a4 1) 3003 (fun _ => 0), (qq5, .inr (2, [.ref (a6 0), .ref (a6 2), .ref (a6 4), .ref (a6 6), .ref (a6 8)])), tT (a6 0) (a6 1) (nI 12) (nI 80) 0, tT (a6 4) (a6 5) (nI 5) (nI 112) 0, tT (a6 8) (a6 9) (nI 2) (nI 8) 0, (qq7, .inr (2, [.ref (a8 0), .ref (a8 2), .ref (a8 4), .ref (a8 6), .ref (a8 8)])), tT (a8 0) (a8 1) (nI 12) (nI 80) 0, tT (a8 2) (a8 3) (nI 5) (nI 1000) 0, tT (a8 4) (a8 5) (nI 5) (nI 112) 0, tT (a8 6) (a8 7) (nI 1) (nI 16) 0, tA g (a8 7) 16 (fun _ => 0), tT (a8 8) (a8 9) (nI 2) (nI 8) 0, tA g (a8 9) 16 (fun _ => 0), (qq9, .inr (3, [.ref (a4 0), .ref (a10 0), .ref (a10 2), .ref (a10 4), .ref qq7, .int 0, .int 0, .int 0, .int 0, .int (-9), .int 0, .int 0])), tT (a10 0) (a10 1) (nI 1) (nI 6) 0, tT (a10 2) (a10 3) (nI 1) (nI 6) 0, tT (a10 4) (a10 5) (nI 1) (nI 80) 0, tA g (a10 5) 80 (fun _ => 0), (qq11, .inr (0, [.ref (a12 0), .ref (a12 2), .ref (a12 4), .ref qq5, .int 0, .int 0, .int 0, .int 0])), tT qq13 aq14 (nI 4) (nI 30) 0, (qq19, .inr (4, [.ref (a20 0), .ref (a20 2), .ref (a20 4), .ref (a20 6), .ref (a20 8), .int (-9), .int 0, .int 0, .int 0, .int 0, .int 0, .int 0])), (qq21, .inr (4, [.ref (a22 0), .ref (a22 2), .ref (a22 4), .ref (a22 6), .ref (a22 8), .int (-9), .int 0, .int 0, .int 0, .int 0, .int 0, .int 0]))] := hD.sub [0, 1, 2, 3, 4, 5, 6, 7, 8, 9, 10, 11, 12, 13, 14, 15, 16, 17, 18, 19, 20, 21, 22, 23, 24, 25, 26] (by decide) rfl
  refine va_putF (D := D) (ci := 9) (v := .ref qq27) (ty := .object "WaysAtlas$World") (C := RX9) (T := TX9) (N := 17) hx hb hts inlX9 tyX9 tyX9_ok nmX9 hown hK hP hD hS 0 rfl rfl 4 (by decide) (hts _ q48) (fun _ h => h) rfl hin rfl (by decide +kernel) rfl rfl (Nat.le_of_ble_eq_true rfl) dX9_init_194 (fun H locs hP hD hS => ?_)
  have hP : va_P D vwCl [(h, .inr (9, [.ref qq1, .ref qq3, .ref qq9, .ref qq11, .ref qq27, .null, .null, .ref qq13, .ref qq15, .ref qq17, .ref qq19, .ref qq21, .ref qq23, .ref qq25, .ref qq5, .ref qq7, .int 0])), tT qq1 aq2 (nI 1) (nI 1000) 0, tA g aq2 1000 (fun _ => 0), (qq3, .inr (5, [.ref (a4 0), .int 0])), tT (a4 0) (a4 1) (nI 3) (nI 1001) 0, tA g (a4 1) 3003 (fun _ => 0), (qq5, .inr (2, [.ref (a6 0), .ref (a6 2), .ref (a6 4), .ref (a6 6), .ref (a6 8)])), tT (a6 0) (a6 1) (nI 12) (nI 80) 0, tT (a6 4) (a6 5) (nI 5) (nI 112) 0, tT (a6 8) (a6 9) (nI 2) (nI 8) 0, (qq7, .inr (2, [.ref (a8 0), .ref (a8 2), .ref (a8 4), .ref (a8 6), .ref (a8 8)])), tT (a8 0) (a8 1) (nI 12) (nI 80) 0, tT (a8 2) (a8 3) (nI 5) (nI 1000) 0, tT (a8 4) (a8 5) (nI 5) (nI 112) 0, tT (a8 6) (a8 7) (nI 1) (nI 16) 0, tA g (a8 7) 16 (fun _ => 0), tT (a8 8) (a8 9) (nI 2) (nI 8) 0, tA g (a8 9) 16 (fun _ => 0), (qq9, .inr (3, [.ref (a4 0), .ref (a10 0), .ref (a10 2), .ref (a10 4), .ref qq7, .int 0, .int 0, .int 0, .int 0, .int (-9), .int 0, .int 0])), tT (a10 0) (a10 1) (nI 1) (nI 6) 0, tT (a10 2) (a10 3) (nI 1) (nI 6) 0, tT (a10 4) (a10 5) (nI 1) (nI 80) 0, tA g (a10 5) 80 (fun _ => 0), (qq11, .inr (0, [.ref (a12 0), .ref (a12 2), .ref (a12 4), .ref qq5, .int 0, .int 0, .int 0, .int 0])), tT qq13 aq14 (nI 4) (nI 30) 0, (qq19, .inr (4, [.ref (a20 0), .ref (a20 2), .ref (a20 4), .ref (a20 6), .ref (a20 8), .int (-9), .int 0, .int 0, .int 0, .int 0, .int 0, .int 0])), (qq21, .inr (4, [.ref (a22 0), .ref (a22 2), .ref (a22 4), .ref (a22 6), .ref (a22 8), .int (-9), .int 0, .int 0, .int 0, .int 0, .int 0, .int 0]))] H := hP
  have hD : va_D A [(h, .inr (9, [.ref qq1, .ref qq3, .ref qq9, .ref qq11, .ref qq27, .null, .null, .ref qq13, .ref qq15, .ref qq17, .ref qq19, .ref qq21, .ref qq23, .ref qq25, .ref qq5, .ref qq7, .int 0])), tT qq1 aq2 (nI 1) (nI 1000) 0, tA g aq2 1000 (fun _ => 0), (qq3, .inr (5, [.ref (a4 0), .int 0])), tT (a4 0) (a4 1) (nI 3) (nI 1001) 0, tA g (a4 1) 3003 (fun _ => 0), (qq5, .inr (2, [.ref (a6 0), .ref (a6 2), .ref (a6 4), .ref (a6 6), .ref (a6 8)])), tT (a6 0) (a6 1) (nI 12) (nI 80) 0, tT (a6 4) (a6 5) (nI 5) (nI 112) 0, tT (a6 8) (a6 9) (nI 2) (nI 8) 0, (qq7, .inr (2, [.ref (a8 0), .ref (a8 2), .ref (a8 4), .ref (a8 6), .ref (a8 8)])), tT (a8 0) (a8 1) (nI 12) (nI 80) 0, tT (a8 2) (a8 3) (nI 5) (nI 1000) 0, tT (a8 4) (a8 5) (nI 5) (nI 112) 0, tT (a8 6) (a8 7) (nI 1) (nI 16) 0, tA g (a8 7) 16 (fun _ => 0), tT (a8 8) (a8 9) (nI 2) (nI 8) 0, tA g (a8 9) 16 (fun _ => 0), (qq9, .inr (3, [.ref (a4 0), .ref (a10 0), .ref (a10 2), .ref (a10 4), .ref qq7, .int 0, .int 0, .int 0, .int 0, .int (-9), .int 0, .int 0])), tT (a10 0) (a10 1) (nI 1) (nI 6) 0, tT (a10 2) (a10 3) (nI 1) (nI 6) 0, tT (a10 4) (a10 5) (nI 1) (nI 80) 0, tA g (a10 5) 80 (fun _ => 0), (qq11, .inr (0, [.ref (a12 0), .ref (a12 2), .ref (a12 4), .ref qq5, .int 0, .int 0, .int 0, .int 0])), tT qq13 aq14 (nI 4) (nI 30) 0, (qq19, .inr (4, [.ref (a20 0), .ref (a20 2), .ref (a20 4), .ref (a20 6), .ref (a20 8), .int (-9), .int 0, .int 0, .int 0, .int 0, .int 0, .int 0])), (qq21, .inr (4, [.ref (a22 0), .ref (a22 2), .ref (a22 4), .ref (a22 6), .ref (a22 8), .int (-9), .int 0, .int 0, .int 0, .int 0, .int 0, .int 0]))] := hD
  refine lv_aload_n hx hb dX9_init_197 rfl (lv_at hl 0 rfl) ?_
  refine va_new (ci := 7) (fs := [.null, .int 0, .int 0, .int 0, .int 0, .int 0, .int 0]) (C := RX7) (T := TX7) (N := 7) hx hb hts inlX7 tyX7 tyX7_ok hown (hts _ q49) (hts _ q50) (hts _ q51) hK hP hD hS hA rfl (lt_s (lt_s (lt_s (lt_s (lt_s (lt_s (lt_s (lt_0) rfl) rfl) rfl) rfl) rfl) rfl) rfl) (Nat.le_of_ble_eq_true rfl) (Nat.le_of_ble_eq_true rfl) dX9_init_198 (fun qq29 H hP hD hS => ?_)
  refine W.cs (cells' := 103) (slots' := 62541) rfl rfl ?_
  have hP : va_P D vwCl [(h, .inr (9, [.ref qq1, .ref qq3, .ref qq9, .ref qq11, .ref qq27, .null, .null, .ref qq13, .ref qq15, .ref qq17, .ref qq19, .ref qq21, .ref qq23, .ref qq25, .ref qq5, .ref qq7, .int 0])), tT qq1 aq2 (nI 1) (nI 1000) 0, tA g aq2 1000 (fun _ => 0), (qq3, .inr (5, [.ref (a4 0), .int 0])), tT (a4 0) (a4 1) (nI 3) (nI 1001) 0, tA g (a4 1) 3003 (fun _ => 0), (qq5, .inr (2, [.ref (a6 0), .ref (a6 2), .ref (a6 4), .ref (a6 6), .ref (a6 8)])), tT (a6 0) (a6 1) (nI 12) (nI 80) 0, tT (a6 4) (a6 5) (nI 5) (nI 112) 0, tT (a6 8) (a6 9) (nI 2) (nI 8) 0, (qq7, .inr (2, [.ref (a8 0), .ref (a8 2), .ref (a8 4), .ref (a8 6), .ref (a8 8)])), tT (a8 0) (a8 1) (nI 12) (nI 80) 0, tT (a8 2) (a8 3) (nI 5) (nI 1000) 0, tT (a8 4) (a8 5) (nI 5) (nI 112) 0, tT (a8 6) (a8 7) (nI 1) (nI 16) 0, tA g (a8 7) 16 (fun _ => 0), tT (a8 8) (a8 9) (nI 2) (nI 8) 0, tA g (a8 9) 16 (fun _ => 0), (qq9, .inr (3, [.ref (a4 0), .ref (a10 0), .ref (a10 2), .ref (a10 4), .ref qq7, .int 0, .int 0, .int 0, .int 0, .int (-9), .int 0, .int 0])), tT (a10 0) (a10 1) (nI 1) (nI 6) 0, tT (a10 2) (a10 3) (nI 1) (nI 6) 0, tT (a10 4) (a10 5) (nI 1) (nI 80) 0, tA g (a10 5) 80 (fun _ => 0), (qq11, .inr (0, [.ref (a12 0), .ref (a12 2), .ref (a12 4), .ref qq5, .int 0, .int 0, .int 0, .int 0])), tT qq13 aq14 (nI 4) (nI 30) 0, (qq19, .inr (4, [.ref (a20 0), .ref (a20 2), .ref (a20 4), .ref (a20 6), .ref (a20 8), .int (-9), .int 0, .int 0, .int 0, .int 0, .int 0, .int 0])), (qq21, .inr (4, [.ref (a22 0), .ref (a22 2), .ref (a22 4), .ref (a22 6), .ref (a22 8), .int (-9), .int 0, .int 0, .int 0, .int 0, .int 0, .int 0])), (qq29, .inr (7, [.null, .int 0, .int 0, .int 0, .int 0, .int 0, .int 0]))] H := hP
  have hD : va_D A [(h, .inr (9, [.ref qq1, .ref qq3, .ref qq9, .ref qq11, .ref qq27, .null, .null, .ref qq13, .ref qq15, .ref qq17, .ref qq19, .ref qq21, .ref qq23, .ref qq25, .ref qq5, .ref qq7, .int 0])), tT qq1 aq2 (nI 1) (nI 1000) 0, tA g aq2 1000 (fun _ => 0), (qq3, .inr (5, [.ref (a4 0), .int 0])), tT (a4 0) (a4 1) (nI 3) (nI 1001) 0, tA g (a4 1) 3003 (fun _ => 0), (qq5, .inr (2, [.ref (a6 0), .ref (a6 2), .ref (a6 4), .ref (a6 6), .ref (a6 8)])), tT (a6 0) (a6 1) (nI 12) (nI 80) 0, tT (a6 4) (a6 5) (nI 5) (nI 112) 0, tT (a6 8) (a6 9) (nI 2) (nI 8) 0, (qq7, .inr (2, [.ref (a8 0), .ref (a8 2), .ref (a8 4), .ref (a8 6), .ref (a8 8)])), tT (a8 0) (a8 1) (nI 12) (nI 80) 0, tT (a8 2) (a8 3) (nI 5) (nI 1000) 0, tT (a8 4) (a8 5) (nI 5) (nI 112) 0, tT (a8 6) (a8 7) (nI 1) (nI 16) 0, tA g (a8 7) 16 (fun _ => 0), tT (a8 8) (a8 9) (nI 2) (nI 8) 0, tA g (a8 9) 16 (fun _ => 0), (qq9, .inr (3, [.ref (a4 0), .ref (a10 0), .ref (a10 2), .ref (a10 4), .ref qq7, .int 0, .int 0, .int 0, .int 0, .int (-9), .int 0, .int 0])), tT (a10 0) (a10 1) (nI 1) (nI 6) 0, tT (a10 2) (a10 3) (nI 1) (nI 6) 0, tT (a10 4) (a10 5) (nI 1) (nI 80) 0, tA g (a10 5) 80 (fun _ => 0), (qq11, .inr (0, [.ref (a12 0), .ref (a12 2), .ref (a12 4), .ref qq5, .int 0, .int 0, .int 0, .int 0])), tT qq13 aq14 (nI 4) (nI 30) 0, (qq19, .inr (4, [.ref (a20 0), .ref (a20 2), .ref (a20 4), .ref (a20 6), .ref (a20 8), .int (-9), .int 0, .int 0, .int 0, .int 0, .int 0, .int 0])), (qq21, .inr (4, [.ref (a22 0), .ref (a22 2), .ref (a22 4), .ref (a22 6), .ref (a22 8), .int (-9), .int 0, .int 0, .int 0, .int 0, .int 0, .int 0])), (qq29, .inr (7, [.null, .int 0, .int 0, .int 0, .int 0, .int 0, .int 0]))] := hD
  refine lv_dup hx hb dX9_init_201 rfl ?_
  refine lv_aload_n hx hb dX9_init_202 rfl (lv_at hl 0 rfl) ?_
  refine va_get (D := D) (ci := 9) (v := .ref qq27) (C := RX9) (T := TX9) (N := 17) hx hb hts inlX9 hown hK hP 0 rfl rfl 4 (by decide) (hts _ q48) (fun _ h => h) rfl dX9_init_203 ?_
  refine vz_Iv (wr := [(h, .inr (9, [.ref qq1, .ref qq3, .ref qq9, .ref qq11, .ref qq27, .null, .null, .ref qq13, .ref qq15, .ref qq17, .ref qq19, .ref qq21, .ref qq23, .ref qq25, .ref qq5, .ref qq7, .int 0])), tT qq1 aq2 (nI 1) (nI 1000) 0, tA g aq2 1000 (fun _ => 0), (qq3, .inr (5, [.ref (a4 0), .int 0])), tT (a4 0) (a4 1) (nI 3) (nI 1001) 0, tA g (a4 1) 3003 (fun _ => 0), (qq5, .inr (2, [.ref (a6 0), .ref (a6 2), .ref (a6 4), .ref (a6 6), .ref (a6 8)])), tT (a6 0) (a6 1) (nI 12) (nI 80) 0, tT (a6 4) (a6 5) (nI 5) (nI 112) 0, tT (a6 8) (a6 9) (nI 2) (nI 8) 0, (qq7, .inr (2, [.ref (a8 0), .ref (a8 2), .ref (a8 4), .ref (a8 6), .ref (a8 8)])), tT (a8 0) (a8 1) (nI 12) (nI 80) 0, tT (a8 2) (a8 3) (nI 5) (nI 1000) 0, tT (a8 4) (a8 5) (nI 5) (nI 112) 0, tT (a8 6) (a8 7) (nI 1) (nI 16) 0, tA g (a8 7) 16 (fun _ => 0), tT (a8 8) (a8 9) (nI 2) (nI 8) 0, tA g (a8 9) 16 (fun _ => 0), (qq9, .inr (3, [.ref (a4 0), .ref (a10 0), .ref (a10 2), .ref (a10 4), .ref qq7, .int 0, .int 0, .int 0, .int 0, .int (-9), .int 0, .int 0])), tT (a10 0) (a10 1) (nI 1) (nI 6) 0, tT (a10 2) (a10 3) (nI 1) (nI 6) 0, tT (a10 4) (a10 5) (nI 1) (nI 80) 0, tA g (a10 5) 80 (fun _ => 0), (qq11, .inr (0, [.ref (a12 0), .ref (a12 2), .ref (a12 4), .ref qq5, .int 0, .int 0, .int 0, .int 0])), tT qq13 aq14 (nI 4) (nI 30) 0, (qq19, .inr (4, [.ref (a20 0), .ref (a20 2), .ref (a20 4), .ref (a20 6), .ref (a20 8), .int (-9), .int 0, .int 0, .int 0, .int 0, .int 0, .int 0])), (qq21, .inr (4, [.ref (a22 0), .ref (a22 2), .ref (a22 4), .ref (a22 6), .ref (a22 8), .int (-9), .int 0, .int 0, .int 0, .int 0, .int 0, .int 0]))]) (As := [.ref qq27]) (rest := [.ref qq29, .ref h]) hx hb hml hown hts hK hA hP hD hS (c_K_init l D g qq29 H.size qq27) ki_X9_92 (⟨Nat.le_of_ble_eq_true rfl, Nat.le_of_ble_eq_true rfl⟩) [27] [0, 1, 2, 3, 4, 5, 6, 7, 8, 9, 10, 11, 12, 13, 14, 15, 16, 17, 18, 19, 20, 21, 22, 23, 24, 25, 26] rfl rfl (by decide) hl.1 (Nat.le_of_ble_eq_true rfl) dX9_init_206 (⟨Nat.le_of_ble_eq_true rfl, Nat.le_of_ble_eq_true rfl⟩) rfl (fun _ H locs _ _ hP hD hS => ?_)
  have hP : va_P D vwCl [(h, .inr (9, [.ref qq1, .ref qq3, .ref qq9, .ref qq11, .ref qq27, .null, .null, .ref qq13, .ref qq15, .ref qq17, .ref qq19, .ref qq21, .ref qq23, .ref qq25, .ref qq5, .ref qq7, .int 0])), tT qq1 aq2 (nI 1) (nI 1000) 0, tA g aq2 1000 (fun _ => 0), (qq3, .inr (5, [.ref (a4 0), .int 0])), tT (a4 0) (a4 1) (nI 3) (nI 1001) 0, tA g (a4 1) 3003 (fun _ => 0), (qq5, .inr (2, [.ref (a6 0), .ref (a6 2), .ref (a6 4), .ref (a6 6), .ref (a6 8)])), tT (a6 0) (a6 1) (nI 12) (nI 80) 0, tT (a6 4) (a6 5) (nI 5) (nI 112) 0, tT (a6 8) (a6 9) (nI 2) (nI 8) 0, (qq7, .inr (2, [.ref (a8 0), .ref (a8 2), .ref (a8 4), .ref (a8 6), .ref (a8 8)])), tT (a8 0) (a8 1) (nI 12) (nI 80) 0, tT (a8 2) (a8 3) (nI 5) (nI 1000) 0, tT (a8 4) (a8 5) (nI 5) (nI 112) 0, tT (a8 6) (a8 7) (nI 1) (nI 16) 0, tA g (a8 7) 16 (fun _ => 0), tT (a8 8) (a8 9) (nI 2) (nI 8) 0, tA g (a8 9) 16 (fun _ => 0), (qq9, .inr (3, [.ref (a4 0), .ref (a10 0), .ref (a10 2), .ref (a10 4), .ref qq7, .int 0, .int 0, .int 0, .int 0, .int (-9), .int 0, .int 0])), tT (a10 0) (a10 1) (nI 1) (nI 6) 0, tT (a10 2) (a10 3) (nI 1) (nI 6) 0, tT (a10 4) (a10 5) (nI 1) (nI 80) 0, tA g (a10 5) 80 (fun _ => 0), (qq11, .inr (0, [.ref (a12 0), .ref (a12 2), .ref (a12 4), .ref qq5, .int 0, .int 0, .int 0, .int 0])), tT qq13 aq14 (nI 4) (nI 30) 0, (qq19, .inr (4, [.ref (a20 0), .ref (a20 2), .ref (a20 4), .ref (a20 6), .ref (a20 8), .int (-9), .int 0, .int 0, .int 0, .int 0, .int 0, .int 0])), (qq21, .inr (4, [.ref (a22 0), .ref (a22 2), .ref (a22 4), .ref (a22 6), .ref (a22 8), .int (-9), .int 0, .int 0, .int 0, .int 0, .int 0, .int 0])), (qq29, .inr (7, [.ref qq27, .int (-9), .int (-9), .int 0, .int 0, .int 0, .int 0]))] H := hP
  have hD : va_D A [(h, .inr (9, [.ref qq1, .ref qq3, .ref qq9, .ref qq11, .ref qq27, .null, .null, .ref qq13, .ref qq15, .ref qq17, .ref qq19, .ref qq21, .ref qq23, .ref qq25, .ref qq5, .ref qq7, .int 0])), tT qq1 aq2 (nI 1) (nI 1000) 0, tA g aq2 1000 (fun _ => 0), (qq3, .inr (5, [.ref (a4 0), .int 0])), tT (a4 0) (a4 1) (nI 3) (nI 1001) 0, tA g (a4 1) 3003 (fun _ => 0), (qq5, .inr (2, [.ref (a6 0), .ref (a6 2), .ref (a6 4), .ref (a6 6), .ref (a6 8)])), tT (a6 0) (a6 1) (nI 12) (nI 80) 0, tT (a6 4) (a6 5) (nI 5) (nI 112) 0, tT (a6 8) (a6 9) (nI 2) (nI 8) 0, (qq7, .inr (2, [.ref (a8 0), .ref (a8 2), .ref (a8 4), .ref (a8 6), .ref (a8 8)])), tT (a8 0) (a8 1) (nI 12) (nI 80) 0, tT (a8 2) (a8 3) (nI 5) (nI 1000) 0, tT (a8 4) (a8 5) (nI 5) (nI 112) 0, tT (a8 6) (a8 7) (nI 1) (nI 16) 0, tA g (a8 7) 16 (fun _ => 0), tT (a8 8) (a8 9) (nI 2) (nI 8) 0, tA g (a8 9) 16 (fun _ => 0), (qq9, .inr (3, [.ref (a4 0), .ref (a10 0), .ref (a10 2), .ref (a10 4), .ref qq7, .int 0, .int 0, .int 0, .int 0, .int (-9), .int 0, .int 0])), tT (a10 0) (a10 1) (nI 1) (nI 6) 0, tT (a10 2) (a10 3) (nI 1) (nI 6) 0, tT (a10 4) (a10 5) (nI 1) (nI 80) 0, tA g (a10 5) 80 (fun _ => 0), (qq11, .inr (0, [.ref (a12 0), .ref (a12 2), .ref (a12 4), .ref qq5, .int 0, .int 0, .int 0, .int 0])), tT qq13 aq14 (nI 4) (nI 30) 0, (qq19, .inr (4, [.ref (a20 0), .ref (a20 2), .ref (a20 4), .ref (a20 6), .ref (a20 8), .int (-9), .int 0, .int 0, .int 0, .int 0, .int 0, .int 0])), (qq21, .inr (4, [.ref (a22 0), .ref (a22 2), .ref (a22 4), .ref (a22 6), .ref (a22 8), .int (-9), .int 0, .int 0, .int 0, .int 0, .int 0, .int 0])), (qq29, .inr (7, [.ref qq27, .int (-9), .int (-9), .int 0, .int 0, .int 0, .int 0]))] := hD
  have hP : va_P D vwCl [(h, .inr (9, [.ref qq1, .ref qq3, .ref qq9, .ref qq11, .ref qq27, .null, .null, .ref qq13, .ref qq15, .ref qq17, .ref qq19, .ref qq21, .ref qq23, .ref qq25, .ref qq5, .ref qq7, .int 0])), tT qq1 aq2 (nI 1) (nI 1000) 0, tA g aq2 1000 (fun _ => 0), (qq3, .inr (5, [.ref (a4 0), .int 0])), tT (a4 0) (a4 1) (nI 3) (nI 1001) 0, tA g (a4 1) 3003 (fun _ => 0), (qq5, .inr (2, [.ref (a6 0), .ref (a6 2), .ref (a6 4), .ref (a6 6), .ref (a6 8)])), tT (a6 0) (a6 1) (nI 12) (nI 80) 0, tT (a6 4) (a6 5) (nI 5) (nI 112) 0, tT (a6 8) (a6 9) (nI 2) (nI 8) 0, (qq7, .inr (2, [.ref (a8 0), .ref (a8 2), .ref (a8 4), .ref (a8 6), .ref (a8 8)])), tT (a8 0) (a8 1) (nI 12) (nI 80) 0, tT (a8 2) (a8 3) (nI 5) (nI 1000) 0, tT (a8 4) (a8 5) (nI 5) (nI 112) 0, tT (a8 6) (a8 7) (nI 1) (nI 16) 0, tA g (a8 7) 16 (fun _ => 0), tT (a8 8) (a8 9) (nI 2) (nI 8) 0, tA g (a8 9) 16 (fun _ => 0), (qq9, .inr (3, [.ref (a4 0), .ref (a10 0), .ref (a10 2), .ref (a10 4), .ref qq7, .int 0, .int 0, .int 0, .int 0, .int (-9), .int 0, .int 0])), tT (a10 0) (a10 1) (nI 1) (nI 6) 0, tT (a10 2) (a10 3) (nI 1) (nI 6) 0, tT (a10 4) (a10 5) (nI 1) (nI 80) 0, tA g (a10 5) 80 (fun _ => 0), (qq11, .inr (0, [.ref (a12 0), .ref (a12 2), .ref (a12 4), .ref qq5, .int 0, .int 0, .int 0, .int 0])), tT qq13 aq14 (nI 4) (nI 30) 0, (qq19, .inr (4, [.ref (a20 0), .ref (a20 2), .ref (a20 4), .ref (a20 6), .ref (a20 8), .int (-9), .int 0, .int 0, .int 0, .int 0, .int 0, .int 0])), (qq21, .inr (4, [.ref (a22 0), .ref (a22 2), .ref (a22 4), .ref (a22 6), .ref (a22 8), .int (-9), .int 0, .int 0, .int 0, .int 0, .int 0, .int 0]))] H := vz_pickP hP [0, 1, 2, 3, 4, 5, 6, 7, 8, 9, 10, 11, 12, 13, 14, 15, 16, 17, 18, 19, 20, 21, 22, 23, 24, 25, 26] rfl
  have hD : va_D A [(h, .inr (9, [.ref qq1, .ref qq3, .ref qq9, .ref qq11, .ref qq27, .null, .null, .ref qq13, .ref qq15, .ref qq17, .ref qq19, .ref qq21, .ref qq23, .ref qq25, .ref qq5, .ref qq7, .int 0])), tT qq1 aq2 (nI 1) (nI 1000) 0, tA g aq2 1000 (fun _ => 0), (qq3, .inr (5, [.ref (a4 0), .int 0])), tT (a4 0) (a4 1) (nI 3) (nI 1001) 0, tA g (a4 1) 3003 (fun _ => 0), (qq5, .inr (2, [.ref (a6 0), .ref (a6 2), .ref (a6 4), .ref (a6 6), .ref (a6 8)])), tT (a6 0) (a6 1) (nI 12) (nI 80) 0, tT (a6 4) (a6 5) (nI 5) (nI 112) 0, tT (a6 8) (a6 9) (nI 2) (nI 8) 0, (qq7, .inr (2, [.ref (a8 0), .ref (a8 2), .ref (a8 4), .ref (a8 6), .ref (a8 8)])), tT (a8 0) (a8 1) (nI 12) (nI 80) 0, tT (a8 2) (a8 3) (nI 5) (nI 1000) 0, tT (a8 4) (a8 5) (nI 5) (nI 112) 0, tT (a8 6) (a8 7) (nI 1) (nI 16) 0, tA g (a8 7) 16 (fun _ => 0), tT (a8 8) (a8 9) (nI 2) (nI 8) 0, tA g (a8 9) 16 (fun _ => 0), (qq9, .inr (3, [.ref (a4 0), .ref (a10 0), .ref (a10 2), .ref (a10 4), .ref qq7, .int 0, .int 0, .int 0, .int 0, .int (-9), .int 0, .int 0])), tT (a10 0) (a10 1) (nI 1) (nI 6) 0, tT (a10 2) (a10 3) (nI 1) (nI 6) 0, tT (a10 4) (a10 5) (nI 1) (nI 80) 0, tA g (a10 5) 80 (fun _ => 0), (qq11, .inr (0, [.ref (a12 0), .ref (a12 2), .ref (a12 4), .ref qq5, .int 0, .int 0, .int 0, .int 0])), tT qq13 aq14 (nI 4) (nI 30) 0, (qq19, .inr (4, [.ref (a20 0), .ref (a20 2), .ref (a20 4), .ref (a20 6), .ref (a20 8), .int (-9), .int 0, .int 0, .int 0, .int 0, .int 0, .int 0])), (qq21, .inr (4, [.ref (a22 0), .ref (a22 2), .ref (a22 4), .ref (a22 6), .ref (a22 8), .int (-9), .int 0, .int 0, .int 0, .int 0, .int 0, .int 0]))] := hD.sub [0, 1, 2, 3, 4, 5, 6, 7, 8, 9, 10, 11, 12, 13, 14, 15, 16, 17, 18, 19, 20, 21, 22, 23, 24, 25, 26] (by decide) rfl
  refine va_putF (D := D) (ci := 9) (v := .ref qq29) (ty := .object "WaysAtlas$Walker") (C := RX9) (T := TX9) (N := 17) hx hb hts inlX9 tyX9 tyX9_ok nmX9 hown hK hP hD hS 0 rfl rfl 5 (by decide) (hts _ q52) (fun _ h => h) rfl hin rfl (by decide +kernel) rfl rfl (Nat.le_of_ble_eq_true rfl) dX9_init_209 (fun H locs hP hD hS => ?_)
  have hP : va_P D vwCl [(h, .inr (9, [.ref qq1, .ref qq3, .ref qq9, .ref qq11, .ref qq27, .ref qq29, .null, .ref qq13, .ref qq15, .ref qq17, .ref qq19, .ref qq21, .ref qq23, .ref qq25, .ref qq5, .ref qq7, .int 0])), tT qq1 aq2 (nI 1) (nI 1000) 0, tA g aq2 1000 (fun _ => 0), (qq3, .inr (5, [.ref (a4 0), .int 0])), tT (a4 0) (a4 1) (nI 3) (nI 1001) 0, tA g (a4 1) 3003 (fun _ => 0), (qq5, .inr (2, [.ref (a6 0), .ref (a6 2), .ref (a6 4), .ref (a6 6), .ref (a6 8)])), tT (a6 0) (a6 1) (nI 12) (nI 80) 0, tT (a6 4) (a6 5) (nI 5) (nI 112) 0, tT (a6 8) (a6 9) (nI 2) (nI 8) 0, (qq7, .inr (2, [.ref (a8 0), .ref (a8 2), .ref (a8 4), .ref (a8 6), .ref (a8 8)])), tT (a8 0) (a8 1) (nI 12) (nI 80) 0, tT (a8 2) (a8 3) (nI 5) (nI 1000) 0, tT (a8 4) (a8 5) (nI 5) (nI 112) 0, tT (a8 6) (a8 7) (nI 1) (nI 16) 0, tA g (a8 7) 16 (fun _ => 0), tT (a8 8) (a8 9) (nI 2) (nI 8) 0, tA g (a8 9) 16 (fun _ => 0), (qq9, .inr (3, [.ref (a4 0), .ref (a10 0), .ref (a10 2), .ref (a10 4), .ref qq7, .int 0, .int 0, .int 0, .int 0, .int (-9), .int 0, .int 0])), tT (a10 0) (a10 1) (nI 1) (nI 6) 0, tT (a10 2) (a10 3) (nI 1) (nI 6) 0, tT (a10 4) (a10 5) (nI 1) (nI 80) 0, tA g (a10 5) 80 (fun _ => 0), (qq11, .inr (0, [.ref (a12 0), .ref (a12 2), .ref (a12 4), .ref qq5, .int 0, .int 0, .int 0, .int 0])), tT qq13 aq14 (nI 4) (nI 30) 0, (qq19, .inr (4, [.ref (a20 0), .ref (a20 2), .ref (a20 4), .ref (a20 6), .ref (a20 8), .int (-9), .int 0, .int 0, .int 0, .int 0, .int 0, .int 0])), (qq21, .inr (4, [.ref (a22 0), .ref (a22 2), .ref (a22 4), .ref (a22 6), .ref (a22 8), .int (-9), .int 0, .int 0, .int 0, .int 0, .int 0, .int 0]))] H := hP
  have hD : va_D A [(h, .inr (9, [.ref qq1, .ref qq3, .ref qq9, .ref qq11, .ref qq27, .ref qq29, .null, .ref qq13, .ref qq15, .ref qq17, .ref qq19, .ref qq21, .ref qq23, .ref qq25, .ref qq5, .ref qq7, .int 0])), tT qq1 aq2 (nI 1) (nI 1000) 0, tA g aq2 1000 (fun _ => 0), (qq3, .inr (5, [.ref (a4 0), .int 0])), tT (a4 0) (a4 1) (nI 3) (nI 1001) 0, tA g (a4 1) 3003 (fun _ => 0), (qq5, .inr (2, [.ref (a6 0), .ref (a6 2), .ref (a6 4), .ref (a6 6), .ref (a6 8)])), tT (a6 0) (a6 1) (nI 12) (nI 80) 0, tT (a6 4) (a6 5) (nI 5) (nI 112) 0, tT (a6 8) (a6 9) (nI 2) (nI 8) 0, (qq7, .inr (2, [.ref (a8 0), .ref (a8 2), .ref (a8 4), .ref (a8 6), .ref (a8 8)])), tT (a8 0) (a8 1) (nI 12) (nI 80) 0, tT (a8 2) (a8 3) (nI 5) (nI 1000) 0, tT (a8 4) (a8 5) (nI 5) (nI 112) 0, tT (a8 6) (a8 7) (nI 1) (nI 16) 0, tA g (a8 7) 16 (fun _ => 0), tT (a8 8) (a8 9) (nI 2) (nI 8) 0, tA g (a8 9) 16 (fun _ => 0), (qq9, .inr (3, [.ref (a4 0), .ref (a10 0), .ref (a10 2), .ref (a10 4), .ref qq7, .int 0, .int 0, .int 0, .int 0, .int (-9), .int 0, .int 0])), tT (a10 0) (a10 1) (nI 1) (nI 6) 0, tT (a10 2) (a10 3) (nI 1) (nI 6) 0, tT (a10 4) (a10 5) (nI 1) (nI 80) 0, tA g (a10 5) 80 (fun _ => 0), (qq11, .inr (0, [.ref (a12 0), .ref (a12 2), .ref (a12 4), .ref qq5, .int 0, .int 0, .int 0, .int 0])), tT qq13 aq14 (nI 4) (nI 30) 0, (qq19, .inr (4, [.ref (a20 0), .ref (a20 2), .ref (a20 4), .ref (a20 6), .ref (a20 8), .int (-9), .int 0, .int 0, .int 0, .int 0, .int 0, .int 0])), (qq21, .inr (4, [.ref (a22 0), .ref (a22 2), .ref (a22 4), .ref (a22 6), .ref (a22 8), .int (-9), .int 0, .int 0, .int 0, .int 0, .int 0, .int 0]))] := hD
  refine lv_aload_n hx hb dX9_init_212 rfl (lv_at hl 0 rfl) ?_
  refine va_new (ci := 1) (fs := [.null, .null, .null, .null, .int 0, .int 0, .int 0]) (C := RX1) (T := TX1) (N := 7) hx hb hts inlX1 tyX1 tyX1_ok hown (hts _ q53) (hts _ q54) (hts _ q55) hK hP hD hS hA rfl (lt_s (lt_s (lt_s (lt_s (lt_s (lt_s (lt_s (lt_0) rfl) rfl) rfl) rfl) rfl) rfl) rfl) (Nat.le_of_ble_eq_true rfl) (Nat.le_of_ble_eq_true rfl) dX9_init_213 (fun qq31 H hP hD hS => ?_)
  refine W.cs (cells' := 104) (slots' := 62548) rfl rfl ?_
  have hP : va_P D vwCl [(h, .inr (9, [.ref qq1, .ref qq3, .ref qq9, .ref qq11, .ref qq27, .ref qq29, .null, .ref qq13, .ref qq15, .ref qq17, .ref qq19, .ref qq21, .ref qq23, .ref qq25, .ref qq5, .ref qq7, .int 0])), tT qq1 aq2 (nI 1) (nI 1000) 0, tA g aq2 1000 (fun _ => 0), (qq3, .inr (5, [.ref (a4 0), .int 0])), tT (a4 0) (a4 1) (nI 3) (nI 1001) 0, tA g (a4 1) 3003 (fun _ => 0), (qq5, .inr (2, [.ref (a6 0), .ref (a6 2), .ref (a6 4), .ref (a6 6), .ref (a6 8)])), tT (a6 0) (a6 1) (nI 12) (nI 80) 0, tT (a6 4) (a6 5) (nI 5) (nI 112) 0, tT (a6 8) (a6 9) (nI 2) (nI 8) 0, (qq7, .inr (2, [.ref (a8 0), .ref (a8 2), .ref (a8 4), .ref (a8 6), .ref (a8 8)])), tT (a8 0) (a8 1) (nI 12) (nI 80) 0, tT (a8 2) (a8 3) (nI 5) (nI 1000) 0, tT (a8 4) (a8 5) (nI 5) (nI 112) 0, tT (a8 6) (a8 7) (nI 1) (nI 16) 0, tA g (a8 7) 16 (fun _ => 0), tT (a8 8) (a8 9) (nI 2) (nI 8) 0, tA g (a8 9) 16 (fun _ => 0), (qq9, .inr (3, [.ref (a4 0), .ref (a10 0), .ref (a10 2), .ref (a10 4), .ref qq7, .int 0, .int 0, .int 0, .int 0, .int (-9), .int 0, .int 0])), tT (a10 0) (a10 1) (nI 1) (nI 6) 0, tT (a10 2) (a10 3) (nI 1) (nI 6) 0, tT (a10 4) (a10 5) (nI 1) (nI 80) 0, tA g (a10 5) 80 (fun _ => 0), (qq11, .inr (0, [.ref (a12 0), .ref (a12 2), .ref (a12 4), .ref qq5, .int 0, .int 0, .int 0, .int 0])), tT qq13 aq14 (nI 4) (nI 30) 0, (qq19, .inr (4, [.ref (a20 0), .ref (a20 2), .ref (a20 4), .ref (a20 6), .ref (a20 8), .int (-9), .int 0, .int 0, .int 0, .int 0, .int 0, .int 0])), (qq21, .inr (4, [.ref (a22 0), .ref (a22 2), .ref (a22 4), .ref (a22 6), .ref (a22 8), .int (-9), .int 0, .int 0, .int 0, .int 0, .int 0, .int 0])), (qq31, .inr (1, [.null, .null, .null, .null, .int 0, .int 0, .int 0]))] H := hP
  have hD : va_D A [(h, .inr (9, [.ref qq1, .ref qq3, .ref qq9, .ref qq11, .ref qq27, .ref qq29, .null, .ref qq13, .ref qq15, .ref qq17, .ref qq19, .ref qq21, .ref qq23, .ref qq25, .ref qq5, .ref qq7, .int 0])), tT qq1 aq2 (nI 1) (nI 1000) 0, tA g aq2 1000 (fun _ => 0), (qq3, .inr (5, [.ref (a4 0), .int 0])), tT (a4 0) (a4 1) (nI 3) (nI 1001) 0, tA g (a4 1) 3003 (fun _ => 0), (qq5, .inr (2, [.ref (a6 0), .ref (a6 2), .ref (a6 4), .ref (a6 6), .ref (a6 8)])), tT (a6 0) (a6 1) (nI 12) (nI 80) 0, tT (a6 4) (a6 5) (nI 5) (nI 112) 0, tT (a6 8) (a6 9) (nI 2) (nI 8) 0, (qq7, .inr (2, [.ref (a8 0), .ref (a8 2), .ref (a8 4), .ref (a8 6), .ref (a8 8)])), tT (a8 0) (a8 1) (nI 12) (nI 80) 0, tT (a8 2) (a8 3) (nI 5) (nI 1000) 0, tT (a8 4) (a8 5) (nI 5) (nI 112) 0, tT (a8 6) (a8 7) (nI 1) (nI 16) 0, tA g (a8 7) 16 (fun _ => 0), tT (a8 8) (a8 9) (nI 2) (nI 8) 0, tA g (a8 9) 16 (fun _ => 0), (qq9, .inr (3, [.ref (a4 0), .ref (a10 0), .ref (a10 2), .ref (a10 4), .ref qq7, .int 0, .int 0, .int 0, .int 0, .int (-9), .int 0, .int 0])), tT (a10 0) (a10 1) (nI 1) (nI 6) 0, tT (a10 2) (a10 3) (nI 1) (nI 6) 0, tT (a10 4) (a10 5) (nI 1) (nI 80) 0, tA g (a10 5) 80 (fun _ => 0), (qq11, .inr (0, [.ref (a12 0), .ref (a12 2), .ref (a12 4), .ref qq5, .int 0, .int 0, .int 0, .int 0])), tT qq13 aq14 (nI 4) (nI 30) 0, (qq19, .inr (4, [.ref (a20 0), .ref (a20 2), .ref (a20 4), .ref (a20 6), .ref (a20 8), .int (-9), .int 0, .int 0, .int 0, .int 0, .int 0, .int 0])), (qq21, .inr (4, [.ref (a22 0), .ref (a22 2), .ref (a22 4), .ref (a22 6), .ref (a22 8), .int (-9), .int 0, .int 0, .int 0, .int 0, .int 0, .int 0])), (qq31, .inr (1, [.null, .null, .null, .null, .int 0, .int 0, .int 0]))] := hD
  refine lv_dup hx hb dX9_init_216 rfl ?_
  refine lv_aload_n hx hb dX9_init_217 rfl (lv_at hl 0 rfl) ?_
  refine va_get (D := D) (ci := 9) (v := .ref qq27) (C := RX9) (T := TX9) (N := 17) hx hb hts inlX9 hown hK hP 0 rfl rfl 4 (by decide) (hts _ q48) (fun _ h => h) rfl dX9_init_218 ?_
  refine lv_aload_n hx hb dX9_init_221 rfl (lv_at hl 0 rfl) ?_
  refine va_get (D := D) (ci := 9) (v := .ref qq11) (C := RX9) (T := TX9) (N := 17) hx hb hts inlX9 hown hK hP 0 rfl rfl 3 (by decide) (hts _ q34) (fun _ h => h) rfl dX9_init_222 ?_
  refine va_get (D := D) (ci := 0) (v := .ref (a12 0)) (C := RX0) (T := TX0) (N := 8) hx hb hts inlX0 hown hK hP 23 rfl rfl 0 (by decide) (hts _ q56) (fun _ h => h) rfl dX9_init_225 ?_
  refine lv_aload_n hx hb dX9_init_228 rfl (lv_at hl 0 rfl) ?_
  refine va_get (D := D) (ci := 9) (v := .ref qq11) (C := RX9) (T := TX9) (N := 17) hx hb hts inlX9 hown hK hP 0 rfl rfl 3 (by decide) (hts _ q34) (fun _ h => h) rfl dX9_init_229 ?_
  refine va_get (D := D) (ci := 0) (v := .ref (a12 2)) (C := RX0) (T := TX0) (N := 8) hx hb hts inlX0 hown hK hP 23 rfl rfl 1 (by decide) (hts _ q57) (fun _ h => h) rfl dX9_init_232 ?_
  refine vz_Iv (wr := [(h, .inr (9, [.ref qq1, .ref qq3, .ref qq9, .ref qq11, .ref qq27, .ref qq29, .null, .ref qq13, .ref qq15, .ref qq17, .ref qq19, .ref qq21, .ref qq23, .ref qq25, .ref qq5, .ref qq7, .int 0])), tT qq1 aq2 (nI 1) (nI 1000) 0, tA g aq2 1000 (fun _ => 0), (qq3, .inr (5, [.ref (a4 0), .int 0])), tT (a4 0) (a4 1) (nI 3) (nI 1001) 0, tA g (a4 1) 3003 (fun _ => 0), (qq5, .inr (2, [.ref (a6 0), .ref (a6 2), .ref (a6 4), .ref (a6 6), .ref (a6 8)])), tT (a6 0) (a6 1) (nI 12) (nI 80) 0, tT (a6 4) (a6 5) (nI 5) (nI 112) 0, tT (a6 8) (a6 9) (nI 2) (nI 8) 0, (qq7, .inr (2, [.ref (a8 0), .ref (a8 2), .ref (a8 4), .ref (a8 6), .ref (a8 8)])), tT (a8 0) (a8 1) (nI 12) (nI 80) 0, tT (a8 2) (a8 3) (nI 5) (nI 1000) 0, tT (a8 4) (a8 5) (nI 5) (nI 112) 0, tT (a8 6) (a8 7) (nI 1) (nI 16) 0, tA g (a8 7) 16 (fun _ => 0), tT (a8 8) (a8 9) (nI 2) (nI 8) 0, tA g (a8 9) 16 (fun _ => 0), (qq9, .inr (3, [.ref (a4 0), .ref (a10 0), .ref (a10 2), .ref (a10 4), .ref qq7, .int 0, .int 0, .int 0, .int 0, .int (-9), .int 0, .int 0])), tT (a10 0) (a10 1) (nI 1) (nI 6) 0, tT (a10 2) (a10 3) (nI 1) (nI 6) 0, tT (a10 4) (a10 5) (nI 1) (nI 80) 0, tA g (a10 5) 80 (fun _ => 0), (qq11, .inr (0, [.ref (a12 0), .ref (a12 2), .ref (a12 4), .ref qq5, .int 0, .int 0, .int 0, .int 0])), tT qq13 aq14 (nI 4) (nI 30) 0, (qq19, .inr (4, [.ref (a20 0), .ref (a20 2), .ref (a20 4), .ref (a20 6), .ref (a20 8), .int (-9), .int 0, .int 0, .int 0, .int 0, .int 0, .int 0])), (qq21, .inr (4, [.ref (a22 0), .ref (a22 2), .ref (a22 4), .ref (a22 6), .ref (a22 8), .int (-9), .int 0, .int 0, .int 0, .int 0, .int 0, .int 0]))]) (As := [.ref qq27, .ref (a12 0), .ref (a12 2)]) (rest := [.ref qq31, .ref h]) hx hb hml hown hts hK hA hP hD hS (c_M_init l D g qq31 H.size qq27 (a12 0) (a12 2)) ki_X9_107 (⟨Nat.le_of_ble_eq_true rfl, Nat.le_of_ble_eq_true rfl⟩) [27] [0, 1, 2, 3, 4, 5, 6, 7, 8, 9, 10, 11, 12, 13, 14, 15, 16, 17, 18, 19, 20, 21, 22, 23, 24, 25, 26] rfl rfl (by decide) hl.1 (Nat.le_of_ble_eq_true rfl) dX9_init_235 (⟨Nat.le_of_ble_eq_true rfl, Nat.le_of_ble_eq_true rfl⟩) rfl (fun a32 H locs _ _ hP hD hS => ?_)
  refine W.cs (cells' := 106) (slots' := 62616) rfl rfl ?_
  have hP : va_P D vwCl [(h, .inr (9, [.ref qq1, .ref qq3, .ref qq9, .ref qq11, .ref qq27, .ref qq29, .null, .ref qq13, .ref qq15, .ref qq17, .ref qq19, .ref qq21, .ref qq23, .ref qq25, .ref qq5, .ref qq7, .int 0])), tT qq1 aq2 (nI 1) (nI 1000) 0, tA g aq2 1000 (fun _ => 0), (qq3, .inr (5, [.ref (a4 0), .int 0])), tT (a4 0) (a4 1) (nI 3) (nI 1001) 0, tA g (a4 1) 3003 (fun _ => 0), (qq5, .inr (2, [.ref (a6 0), .ref (a6 2), .ref (a6 4), .ref (a6 6), .ref (a6 8)])), tT (a6 0) (a6 1) (nI 12) (nI 80) 0, tT (a6 4) (a6 5) (nI 5) (nI 112) 0, tT (a6 8) (a6 9) (nI 2) (nI 8) 0, (qq7, .inr (2, [.ref (a8 0), .ref (a8 2), .ref (a8 4), .ref (a8 6), .ref (a8 8)])), tT (a8 0) (a8 1) (nI 12) (nI 80) 0, tT (a8 2) (a8 3) (nI 5) (nI 1000) 0, tT (a8 4) (a8 5) (nI 5) (nI 112) 0, tT (a8 6) (a8 7) (nI 1) (nI 16) 0, tA g (a8 7) 16 (fun _ => 0), tT (a8 8) (a8 9) (nI 2) (nI 8) 0, tA g (a8 9) 16 (fun _ => 0), (qq9, .inr (3, [.ref (a4 0), .ref (a10 0), .ref (a10 2), .ref (a10 4), .ref qq7, .int 0, .int 0, .int 0, .int 0, .int (-9), .int 0, .int 0])), tT (a10 0) (a10 1) (nI 1) (nI 6) 0, tT (a10 2) (a10 3) (nI 1) (nI 6) 0, tT (a10 4) (a10 5) (nI 1) (nI 80) 0, tA g (a10 5) 80 (fun _ => 0), (qq11, .inr (0, [.ref (a12 0), .ref (a12 2), .ref (a12 4), .ref qq5, .int 0, .int 0, .int 0, .int 0])), tT qq13 aq14 (nI 4) (nI 30) 0, (qq19, .inr (4, [.ref (a20 0), .ref (a20 2), .ref (a20 4), .ref (a20 6), .ref (a20 8), .int (-9), .int 0, .int 0, .int 0, .int 0, .int 0, .int 0])), (qq21, .inr (4, [.ref (a22 0), .ref (a22 2), .ref (a22 4), .ref (a22 6), .ref (a22 8), .int (-9), .int 0, .int 0, .int 0, .int 0, .int 0, .int 0])), (qq31, .inr (1, [.ref qq27, .ref (a12 0), .ref (a12 2), .ref (a32 0), .int 0, .int 0, .int (-9)])), tT (a32 0) (a32 1) (nI 1) (nI 64) 0, tA g (a32 1) 64 (fun _ => 0)] H := hP
  have hD : va_D A [(h, .inr (9, [.ref qq1, .ref qq3, .ref qq9, .ref qq11, .ref qq27, .ref qq29, .null, .ref qq13, .ref qq15, .ref qq17, .ref qq19, .ref qq21, .ref qq23, .ref qq25, .ref qq5, .ref qq7, .int 0])), tT qq1 aq2 (nI 1) (nI 1000) 0, tA g aq2 1000 (fun _ => 0), (qq3, .inr (5, [.ref (a4 0), .int 0])), tT (a4 0) (a4 1) (nI 3) (nI 1001) 0, tA g (a4 1) 3003 (fun _ => 0), (qq5, .inr (2, [.ref (a6 0), .ref (a6 2), .ref (a6 4), .ref (a6 6), .ref (a6 8)])), tT (a6 0) (a6 1) (nI 12) (nI 80) 0, tT (a6 4) (a6 5) (nI 5) (nI 112) 0, tT (a6 8) (a6 9) (nI 2) (nI 8) 0, (qq7, .inr (2, [.ref (a8 0), .ref (a8 2), .ref (a8 4), .ref (a8 6), .ref (a8 8)])), tT (a8 0) (a8 1) (nI 12) (nI 80) 0, tT (a8 2) (a8 3) (nI 5) (nI 1000) 0, tT (a8 4) (a8 5) (nI 5) (nI 112) 0, tT (a8 6) (a8 7) (nI 1) (nI 16) 0, tA g (a8 7) 16 (fun _ => 0), tT (a8 8) (a8 9) (nI 2) (nI 8) 0, tA g (a8 9) 16 (fun _ => 0), (qq9, .inr (3, [.ref (a4 0), .ref (a10 0), .ref (a10 2), .ref (a10 4), .ref qq7, .int 0, .int 0, .int 0, .int 0, .int (-9), .int 0, .int 0])), tT (a10 0) (a10 1) (nI 1) (nI 6) 0, tT (a10 2) (a10 3) (nI 1) (nI 6) 0, tT (a10 4) (a10 5) (nI 1) (nI 80) 0, tA g (a10 5) 80 (fun _ => 0), (qq11, .inr (0, [.ref (a12 0), .ref (a12 2), .ref (a12 4), .ref qq5, .int 0, .int 0, .int 0, .int 0])), tT qq13 aq14 (nI 4) (nI 30) 0, (qq19, .inr (4, [.ref (a20 0), .ref (a20 2), .ref (a20 4), .ref (a20 6), .ref (a20 8), .int (-9), .int 0, .int 0, .int 0, .int 0, .int 0, .int 0])), (qq21, .inr (4, [.ref (a22 0), .ref (a22 2), .ref (a22 4), .ref (a22 6), .ref (a22 8), .int (-9), .int 0, .int 0, .int 0, .int 0, .int 0, .int 0])), (qq31, .inr (1, [.ref qq27, .ref (a12 0), .ref (a12 2), .ref (a32 0), .int 0, .int 0, .int (-9)])), tT (a32 0) (a32 1) (nI 1) (nI 64) 0, tA g (a32 1) 64 (fun _ => 0)] := hD
  have hP : va_P D vwCl [(h, .inr (9, [.ref qq1, .ref qq3, .ref qq9, .ref qq11, .ref qq27, .ref qq29, .null, .ref qq13, .ref qq15, .ref qq17, .ref qq19, .ref qq21, .ref qq23, .ref qq25, .ref qq5, .ref qq7, .int 0])), tT qq1 aq2 (nI 1) (nI 1000) 0, tA g aq2 1000 (fun _ => 0), (qq3, .inr (5, [.ref (a4 0), .int 0])), tT (a4 0) (a4 1) (nI 3) (nI 1001) 0, tA g (a4 1) 3003 (fun _ => 0), (qq5, .inr (2, [.ref (a6 0), .ref (a6 2), .ref (a6 4), .ref (a6 6), .ref (a6 8)])), tT (a6 0) (a6 1) (nI 12) (nI 80) 0, tT (a6 4) (a6 5) (nI 5) (nI 112) 0, tT (a6 8) (a6 9) (nI 2) (nI 8) 0, (qq7, .inr (2, [.ref (a8 0), .ref (a8 2), .ref (a8 4), .ref (a8 6), .ref (a8 8)])), tT (a8 0) (a8 1) (nI 12) (nI 80) 0, tT (a8 2) (a8 3) (nI 5) (nI 1000) 0, tT (a8 4) (a8 5) (nI 5) (nI 112) 0, tT (a8 6) (a8 7) (nI 1) (nI 16) 0, tA g (a8 7) 16 (fun _ => 0), tT (a8 8) (a8 9) (nI 2) (nI 8) 0, tA g (a8 9) 16 (fun _ => 0), (qq9, .inr (3, [.ref (a4 0), .ref (a10 0), .ref (a10 2), .ref (a10 4), .ref qq7, .int 0, .int 0, .int 0, .int 0, .int (-9), .int 0, .int 0])), tT (a10 0) (a10 1) (nI 1) (nI 6) 0, tT (a10 2) (a10 3) (nI 1) (nI 6) 0, tT (a10 4) (a10 5) (nI 1) (nI 80) 0, tA g (a10 5) 80 (fun _ => 0), (qq11, .inr (0, [.ref (a12 0), .ref (a12 2), .ref (a12 4), .ref qq5, .int 0, .int 0, .int 0, .int 0])), tT qq13 aq14 (nI 4) (nI 30) 0, (qq19, .inr (4, [.ref (a20 0), .ref (a20 2), .ref (a20 4), .ref (a20 6), .ref (a20 8), .int (-9), .int 0, .int 0, .int 0, .int 0, .int 0, .int 0])), (qq21, .inr (4, [.ref (a22 0), .ref (a22 2), .ref (a22 4), .ref (a22 6), .ref (a22 8), .int (-9), .int 0, .int 0, .int 0, .int 0, .int 0, .int 0]))] H := vz_pickP hP [0, 1, 2, 3, 4, 5, 6, 7, 8, 9, 10, 11, 12, 13, 14, 15, 16, 17, 18, 19, 20, 21, 22, 23, 24, 25, 26] rfl
  have hD : va_D A [(h, .inr (9, [.ref qq1, .ref qq3, .ref qq9, .ref qq11, .ref qq27, .ref qq29, .null, .ref qq13, .ref qq15, .ref qq17, .ref qq19, .ref qq21, .ref qq23, .ref qq25, .ref qq5, .ref qq7, .int 0])), tT qq1 aq2 (nI 1) (nI 1000) 0, tA g aq2 1000 (fun _ => 0), (qq3, .inr (5, [.ref (a4 0), .int 0])), tT (a4 0) (a4 1) (nI 3) (nI 1001) 0, tA g (a4 1) 3003 (fun _ => 0), (qq5, .inr (2, [.ref (a6 0), .ref (a6 2), .ref (a6 4), .ref (a6 6), .ref (a6 8)])), tT (a6 0) (a6 1) (nI 12) (nI 80) 0, tT (a6 4) (a6 5) (nI 5) (nI 112) 0, tT (a6 8) (a6 9) (nI 2) (nI 8) 0, (qq7, .inr (2, [.ref (a8 0), .ref (a8 2), .ref (a8 4), .ref (a8 6), .ref (a8 8)])), tT (a8 0) (a8 1) (nI 12) (nI 80) 0, tT (a8 2) (a8 3) (nI 5) (nI 1000) 0, tT (a8 4) (a8 5) (nI 5) (nI 112) 0, tT (a8 6) (a8 7) (nI 1) (nI 16) 0, tA g (a8 7) 16 (fun _ => 0), tT (a8 8) (a8 9) (nI 2) (nI 8) 0, tA g (a8 9) 16 (fun _ => 0), (qq9, .inr (3, [.ref (a4 0), .ref (a10 0), .ref (a10 2), .ref (a10 4), .ref qq7, .int 0, .int 0, .int 0, .int 0, .int (-9), .int 0, .int 0])), tT (a10 0) (a10 1) (nI 1) (nI 6) 0, tT (a10 2) (a10 3) (nI 1) (nI 6) 0, tT (a10 4) (a10 5) (nI 1) (nI 80) 0, tA g (a10 5) 80 (fun _ => 0), (qq11, .inr (0, [.ref (a12 0), .ref (a12 2), .ref (a12 4), .ref qq5, .int 0, .int 0, .int 0, .int 0])), tT qq13 aq14 (nI 4) (nI 30) 0, (qq19, .inr (4, [.ref (a20 0), .ref (a20 2), .ref (a20 4), .ref (a20 6), .ref (a20 8), .int (-9), .int 0, .int 0, .int 0, .int 0, .int 0, .int 0])), (qq21, .inr (4, [.ref (a22 0), .ref (a22 2), .ref (a22 4), .ref (a22 6), .ref (a22 8), .int (-9), .int 0, .int 0, .int 0, .int 0, .int 0, .int 0]))] := hD.sub [0, 1, 2, 3, 4, 5, 6, 7, 8, 9, 10, 11, 12, 13, 14, 15, 16, 17, 18, 19, 20, 21, 22, 23, 24, 25, 26] (by decide) rfl
  refine va_putF (D := D) (ci := 9) (v := .ref qq31) (ty := .object "WaysAtlas$Machine") (C := RX9) (T := TX9) (N := 17) hx hb hts inlX9 tyX9 tyX9_ok nmX9 hown hK hP hD hS 0 rfl rfl 6 (by decide) (hts _ q58) (fun _ h => h) rfl hin rfl (by decide +kernel) rfl rfl (Nat.le_of_ble_eq_true rfl) dX9_init_238 (fun H locs hP hD hS => ?_)
  have hP : va_P D vwCl [(h, .inr (9, [.ref qq1, .ref qq3, .ref qq9, .ref qq11, .ref qq27, .ref qq29, .ref qq31, .ref qq13, .ref qq15, .ref qq17, .ref qq19, .ref qq21, .ref qq23, .ref qq25, .ref qq5, .ref qq7, .int 0])), tT qq1 aq2 (nI 1) (nI 1000) 0, tA g aq2 1000 (fun _ => 0), (qq3, .inr (5, [.ref (a4 0), .int 0])), tT (a4 0) (a4 1) (nI 3) (nI 1001) 0, tA g (a4 1) 3003 (fun _ => 0), (qq5, .inr (2, [.ref (a6 0), .ref (a6 2), .ref (a6 4), .ref (a6 6), .ref (a6 8)])), tT (a6 0) (a6 1) (nI 12) (nI 80) 0, tT (a6 4) (a6 5) (nI 5) (nI 112) 0, tT (a6 8) (a6 9) (nI 2) (nI 8) 0, (qq7, .inr (2, [.ref (a8 0), .ref (a8 2), .ref (a8 4), .ref (a8 6), .ref (a8 8)])), tT (a8 0) (a8 1) (nI 12) (nI 80) 0, tT (a8 2) (a8 3) (nI 5) (nI 1000) 0, tT (a8 4) (a8 5) (nI 5) (nI 112) 0, tT (a8 6) (a8 7) (nI 1) (nI 16) 0, tA g (a8 7) 16 (fun _ => 0), tT (a8 8) (a8 9) (nI 2) (nI 8) 0, tA g (a8 9) 16 (fun _ => 0), (qq9, .inr (3, [.ref (a4 0), .ref (a10 0), .ref (a10 2), .ref (a10 4), .ref qq7, .int 0, .int 0, .int 0, .int 0, .int (-9), .int 0, .int 0])), tT (a10 0) (a10 1) (nI 1) (nI 6) 0, tT (a10 2) (a10 3) (nI 1) (nI 6) 0, tT (a10 4) (a10 5) (nI 1) (nI 80) 0, tA g (a10 5) 80 (fun _ => 0), (qq11, .inr (0, [.ref (a12 0), .ref (a12 2), .ref (a12 4), .ref qq5, .int 0, .int 0, .int 0, .int 0])), tT qq13 aq14 (nI 4) (nI 30) 0, (qq19, .inr (4, [.ref (a20 0), .ref (a20 2), .ref (a20 4), .ref (a20 6), .ref (a20 8), .int (-9), .int 0, .int 0, .int 0, .int 0, .int 0, .int 0])), (qq21, .inr (4, [.ref (a22 0), .ref (a22 2), .ref (a22 4), .ref (a22 6), .ref (a22 8), .int (-9), .int 0, .int 0, .int 0, .int 0, .int 0, .int 0]))] H := hP
  have hD : va_D A [(h, .inr (9, [.ref qq1, .ref qq3, .ref qq9, .ref qq11, .ref qq27, .ref qq29, .ref qq31, .ref qq13, .ref qq15, .ref qq17, .ref qq19, .ref qq21, .ref qq23, .ref qq25, .ref qq5, .ref qq7, .int 0])), tT qq1 aq2 (nI 1) (nI 1000) 0, tA g aq2 1000 (fun _ => 0), (qq3, .inr (5, [.ref (a4 0), .int 0])), tT (a4 0) (a4 1) (nI 3) (nI 1001) 0, tA g (a4 1) 3003 (fun _ => 0), (qq5, .inr (2, [.ref (a6 0), .ref (a6 2), .ref (a6 4), .ref (a6 6), .ref (a6 8)])), tT (a6 0) (a6 1) (nI 12) (nI 80) 0, tT (a6 4) (a6 5) (nI 5) (nI 112) 0, tT (a6 8) (a6 9) (nI 2) (nI 8) 0, (qq7, .inr (2, [.ref (a8 0), .ref (a8 2), .ref (a8 4), .ref (a8 6), .ref (a8 8)])), tT (a8 0) (a8 1) (nI 12) (nI 80) 0, tT (a8 2) (a8 3) (nI 5) (nI 1000) 0, tT (a8 4) (a8 5) (nI 5) (nI 112) 0, tT (a8 6) (a8 7) (nI 1) (nI 16) 0, tA g (a8 7) 16 (fun _ => 0), tT (a8 8) (a8 9) (nI 2) (nI 8) 0, tA g (a8 9) 16 (fun _ => 0), (qq9, .inr (3, [.ref (a4 0), .ref (a10 0), .ref (a10 2), .ref (a10 4), .ref qq7, .int 0, .int 0, .int 0, .int 0, .int (-9), .int 0, .int 0])), tT (a10 0) (a10 1) (nI 1) (nI 6) 0, tT (a10 2) (a10 3) (nI 1) (nI 6) 0, tT (a10 4) (a10 5) (nI 1) (nI 80) 0, tA g (a10 5) 80 (fun _ => 0), (qq11, .inr (0, [.ref (a12 0), .ref (a12 2), .ref (a12 4), .ref qq5, .int 0, .int 0, .int 0, .int 0])), tT qq13 aq14 (nI 4) (nI 30) 0, (qq19, .inr (4, [.ref (a20 0), .ref (a20 2), .ref (a20 4), .ref (a20 6), .ref (a20 8), .int (-9), .int 0, .int 0, .int 0, .int 0, .int 0, .int 0])), (qq21, .inr (4, [.ref (a22 0), .ref (a22 2), .ref (a22 4), .ref (a22 6), .ref (a22 8), .int (-9), .int 0, .int 0, .int 0, .int 0, .int 0, .int 0]))] := hD
  refine lv_aload_n hx hb dX9_init_241 rfl (lv_at hl 0 rfl) ?_
  refine lv_iconst (v := 0) hx hb dX9_init_242 (by decide) ?_
  refine va_put (D := D) (ci := 9) (v := .int 0) (ty := .int) (C := RX9) (T := TX9) (N := 17) hx hb hts inlX9 tyX9 tyX9_ok nmX9 hown hK hP hD hS 0 rfl rfl 16 (by decide) (hts _ q59) (fun _ h => h) rfl (by decide +kernel) rfl rfl (Nat.le_of_ble_eq_true rfl) dX9_init_243 (fun H locs hP hD hS => ?_)
  have hP : va_P D vwCl [(h, .inr (9, [.ref qq1, .ref qq3, .ref qq9, .ref qq11, .ref qq27, .ref qq29, .ref qq31, .ref qq13, .ref qq15, .ref qq17, .ref qq19, .ref qq21, .ref qq23, .ref qq25, .ref qq5, .ref qq7, .int 0])), tT qq1 aq2 (nI 1) (nI 1000) 0, tA g aq2 1000 (fun _ => 0), (qq3, .inr (5, [.ref (a4 0), .int 0])), tT (a4 0) (a4 1) (nI 3) (nI 1001) 0, tA g (a4 1) 3003 (fun _ => 0), (qq5, .inr (2, [.ref (a6 0), .ref (a6 2), .ref (a6 4), .ref (a6 6), .ref (a6 8)])), tT (a6 0) (a6 1) (nI 12) (nI 80) 0, tT (a6 4) (a6 5) (nI 5) (nI 112) 0, tT (a6 8) (a6 9) (nI 2) (nI 8) 0, (qq7, .inr (2, [.ref (a8 0), .ref (a8 2), .ref (a8 4), .ref (a8 6), .ref (a8 8)])), tT (a8 0) (a8 1) (nI 12) (nI 80) 0, tT (a8 2) (a8 3) (nI 5) (nI 1000) 0, tT (a8 4) (a8 5) (nI 5) (nI 112) 0, tT (a8 6) (a8 7) (nI 1) (nI 16) 0, tA g (a8 7) 16 (fun _ => 0), tT (a8 8) (a8 9) (nI 2) (nI 8) 0, tA g (a8 9) 16 (fun _ => 0), (qq9, .inr (3, [.ref (a4 0), .ref (a10 0), .ref (a10 2), .ref (a10 4), .ref qq7, .int 0, .int 0, .int 0, .int 0, .int (-9), .int 0, .int 0])), tT (a10 0) (a10 1) (nI 1) (nI 6) 0, tT (a10 2) (a10 3) (nI 1) (nI 6) 0, tT (a10 4) (a10 5) (nI 1) (nI 80) 0, tA g (a10 5) 80 (fun _ => 0), (qq11, .inr (0, [.ref (a12 0), .ref (a12 2), .ref (a12 4), .ref qq5, .int 0, .int 0, .int 0, .int 0])), tT qq13 aq14 (nI 4) (nI 30) 0, (qq19, .inr (4, [.ref (a20 0), .ref (a20 2), .ref (a20 4), .ref (a20 6), .ref (a20 8), .int (-9), .int 0, .int 0, .int 0, .int 0, .int 0, .int 0])), (qq21, .inr (4, [.ref (a22 0), .ref (a22 2), .ref (a22 4), .ref (a22 6), .ref (a22 8), .int (-9), .int 0, .int 0, .int 0, .int 0, .int 0, .int 0]))] H := hP
  have hD : va_D A [(h, .inr (9, [.ref qq1, .ref qq3, .ref qq9, .ref qq11, .ref qq27, .ref qq29, .ref qq31, .ref qq13, .ref qq15, .ref qq17, .ref qq19, .ref qq21, .ref qq23, .ref qq25, .ref qq5, .ref qq7, .int 0])), tT qq1 aq2 (nI 1) (nI 1000) 0, tA g aq2 1000 (fun _ => 0), (qq3, .inr (5, [.ref (a4 0), .int 0])), tT (a4 0) (a4 1) (nI 3) (nI 1001) 0, tA g (a4 1) 3003 (fun _ => 0), (qq5, .inr (2, [.ref (a6 0), .ref (a6 2), .ref (a6 4), .ref (a6 6), .ref (a6 8)])), tT (a6 0) (a6 1) (nI 12) (nI 80) 0, tT (a6 4) (a6 5) (nI 5) (nI 112) 0, tT (a6 8) (a6 9) (nI 2) (nI 8) 0, (qq7, .inr (2, [.ref (a8 0), .ref (a8 2), .ref (a8 4), .ref (a8 6), .ref (a8 8)])), tT (a8 0) (a8 1) (nI 12) (nI 80) 0, tT (a8 2) (a8 3) (nI 5) (nI 1000) 0, tT (a8 4) (a8 5) (nI 5) (nI 112) 0, tT (a8 6) (a8 7) (nI 1) (nI 16) 0, tA g (a8 7) 16 (fun _ => 0), tT (a8 8) (a8 9) (nI 2) (nI 8) 0, tA g (a8 9) 16 (fun _ => 0), (qq9, .inr (3, [.ref (a4 0), .ref (a10 0), .ref (a10 2), .ref (a10 4), .ref qq7, .int 0, .int 0, .int 0, .int 0, .int (-9), .int 0, .int 0])), tT (a10 0) (a10 1) (nI 1) (nI 6) 0, tT (a10 2) (a10 3) (nI 1) (nI 6) 0, tT (a10 4) (a10 5) (nI 1) (nI 80) 0, tA g (a10 5) 80 (fun _ => 0), (qq11, .inr (0, [.ref (a12 0), .ref (a12 2), .ref (a12 4), .ref qq5, .int 0, .int 0, .int 0, .int 0])), tT qq13 aq14 (nI 4) (nI 30) 0, (qq19, .inr (4, [.ref (a20 0), .ref (a20 2), .ref (a20 4), .ref (a20 6), .ref (a20 8), .int (-9), .int 0, .int 0, .int 0, .int 0, .int 0, .int 0])), (qq21, .inr (4, [.ref (a22 0), .ref (a22 2), .ref (a22 4), .ref (a22 6), .ref (a22 8), .int (-9), .int 0, .int 0, .int 0, .int 0, .int 0, .int 0]))] := hD
  exact vz_vret hx hb hr hlk hK hP hD hS (fun k => [qq1, aq2, qq3, (a4 0), (a4 1), qq9, (a10 0), (a10 2), (a10 4), (a10 5), qq7, (a8 0), (a8 2), (a8 4), (a8 6), (a8 7), (a8 8), (a8 9), qq5, (a6 0), (a6 4), (a6 8), (a6 2), (a6 6), qq13, qq19, qq21, qq11, qq27, qq29, qq31, qq15, qq17, qq23, qq25, (a10 1), (a10 3), (a8 1), (a8 3), (a8 5), (a6 1), (a6 5), (a6 9), aq14, (a20 0), (a20 2), (a20 4), (a20 6), (a20 8), (a22 0), (a22 2), (a22 4), (a22 6), (a22 8)].getD k 0) trivial [0, 1, 2, 3, 4, 5, 18, 19, 20, 21, 22, 10, 11, 12, 13, 14, 15, 16, 17, 6, 7, 8, 9, 24, 25, 26] rfl (by decide) (Nat.le_of_ble_eq_true rfl) (Nat.le_of_ble_eq_true rfl) dX9_init_246
theorem dX9_fault_0 : decode cX9_fault 0 = .ok (.aload_n 0, 1) := by decide +kernel
theorem dX9_fault_1 : decode cX9_fault 1 = .ok (.getfield 114, 3) := by decide +kernel
theorem dX9_fault_4 : decode cX9_fault 4 = .ok (.ireturn, 1) := by decide +kernel
set_option maxHeartbeats 4000000 in
set_option maxRecDepth 100000 in
theorem c_A_fault0 (l : Launch) (D : va_G) (g : Nat → ClassId) (h sz : Nat) (a : Nat → Nat)  : vz_Mi l D (tyG g) yX9_fault cX9_fault 1 0 0 0 0 .int [.ref h] sz [(h, .inr (9, [.ref (a 0), .ref (a 2), .ref (a 5), .ref (a 27), .ref (a 28), .ref (a 29), .ref (a 30), .ref (a 24), .ref (a 31), .ref (a 32), .ref (a 25), .ref (a 26), .ref (a 33), .ref (a 34), .ref (a 18), .ref (a 10), .int 0]))] (fun r (u : Unit) => r = 0) (fun u => [(h, .inr (9, [.ref (a 0), .ref (a 2), .ref (a 5), .ref (a 27), .ref (a 28), .ref (a 29), .ref (a 30), .ref (a 24), .ref (a 31), .ref (a 32), .ref (a 25), .ref (a 26), .ref (a 33), .ref (a 34), .ref (a 18), .ref (a 10), .int 0]))]) := by
  refine vz_si (by decide) (Nat.le_of_ble_eq_true rfl) (fun p e s m args below meth c hx hb hr hml hts hown hlk hin hK hsz A hA H locs hP hD hS ls hl => ?_)
  have hl : lv_has ls 1 [(0, .ref h)] := hl
  refine lv_aload_n hx hb dX9_fault_0 rfl (lv_at hl 0 rfl) ?_
  refine va_get (D := D) (ci := 9) (v := .int 0) (C := RX9) (T := TX9) (N := 17) hx hb hts inlX9 hown hK hP 0 rfl rfl 16 (by decide) (hts _ q59) (fun _ h => h) rfl dX9_fault_1 ?_
  exact vz_iret hx hb hr hlk hK hP hD hS (()) (rfl) [0] rfl (by decide) (Nat.le_refl 0) (Nat.le_refl 0) dX9_fault_4
theorem q964 : Cond.fieldLink RX9 153 "WaysAtlas$Program" "methods" "LWaysAtlas$Table;" ∈ wsL_law := mT_1 (List.mem_of_getElem? (i := 103) rfl) rfl
theorem q259 : Cond.fieldLink RX9 118 "WaysAtlas$Table" "rows" "I" ∈ wsL_law := mT_1 (List.mem_of_getElem? (i := 39) rfl) rfl
theorem dX9_count_0 : decode cX9_count 0 = .ok (.iload_n 1, 1) := by decide +kernel
theorem dX9_count_1 : decode cX9_count 1 = .ok (.iconst 4, 1) := by decide +kernel
theorem dX9_count_2 : decode cX9_count 2 = .ok (.if_icmp .ne 11, 3) := by decide +kernel
theorem dX9_count_5 : decode cX9_count 5 = .ok (.aload_n 0, 1) := by decide +kernel
theorem dX9_count_6 : decode cX9_count 6 = .ok (.getfield 56, 3) := by decide +kernel
theorem dX9_count_9 : decode cX9_count 9 = .ok (.getfield 118, 3) := by decide +kernel
theorem dX9_count_12 : decode cX9_count 12 = .ok (.ireturn, 1) := by decide +kernel
theorem dX9_count_13 : decode cX9_count 13 = .ok (.aload_n 0, 1) := by decide +kernel
theorem dX9_count_14 : decode cX9_count 14 = .ok (.getfield 28, 3) := by decide +kernel
theorem dX9_count_17 : decode cX9_count 17 = .ok (.getfield 153, 3) := by decide +kernel
theorem dX9_count_20 : decode cX9_count 20 = .ok (.getfield 118, 3) := by decide +kernel
theorem dX9_count_23 : decode cX9_count 23 = .ok (.ifCond .ne 5, 3) := by decide +kernel
theorem dX9_count_26 : decode cX9_count 26 = .ok (.iconst (-1), 1) := by decide +kernel
theorem dX9_count_27 : decode cX9_count 27 = .ok (.ireturn, 1) := by decide +kernel
set_option maxHeartbeats 4000000 in
set_option maxRecDepth 100000 in
theorem c_A_count0 (l : Launch) (D : va_G) (g : Nat → ClassId) (h sz : Nat) (a : Nat → Nat) (w : Int32)  : vz_Mi l D (tyG g) yX9_count cX9_count 2 0 0 0 0 .int [.ref h, .int w] sz [(h, .inr (9, [.ref (a 0), .ref (a 2), .ref (a 5), .ref (a 27), .ref (a 28), .ref (a 29), .ref (a 30), .ref (a 24), .ref (a 31), .ref (a 32), .ref (a 25), .ref (a 26), .ref (a 33), .ref (a 34), .ref (a 18), .ref (a 10), .int 0])), tT (a 24) (a 43) (nI 4) (nI 30) 0, ((a 18), .inr (2, [.ref (a 19), .ref (a 22), .ref (a 20), .ref (a 23), .ref (a 21)])), tT (a 21) (a 42) (nI 2) (nI 8) 0] (fun r (u : Unit) => r = if w = 4 then 0 else -1) (fun u => [(h, .inr (9, [.ref (a 0), .ref (a 2), .ref (a 5), .ref (a 27), .ref (a 28), .ref (a 29), .ref (a 30), .ref (a 24), .ref (a 31), .ref (a 32), .ref (a 25), .ref (a 26), .ref (a 33), .ref (a 34), .ref (a 18), .ref (a 10), .int 0])), tT (a 24) (a 43) (nI 4) (nI 30) 0, ((a 18), .inr (2, [.ref (a 19), .ref (a 22), .ref (a 20), .ref (a 23), .ref (a 21)])), tT (a 21) (a 42) (nI 2) (nI 8) 0]) := by
  refine vz_si (by decide) (Nat.le_of_ble_eq_true rfl) (fun p e s m args below meth c hx hb hr hml hts hown hlk hin hK hsz A hA H locs hP hD hS ls hl => ?_)
  have hl : lv_has ls 2 [(0, .ref h), (1, .int w)] := hl
  refine lv_iload_n hx hb dX9_count_0 rfl (lv_at hl 1 rfl) ?_
  refine lv_iconst (v := 4) hx hb dX9_count_1 (by decide) ?_
  refine lv_icmp_ne (tgt := 13) hx hb dX9_count_2 (by decide) (fun kc => ?_) (fun kc => ?_)
  · refine lv_aload_n hx hb dX9_count_13 rfl (lv_at hl 0 rfl) ?_
    refine va_get (D := D) (ci := 9) (v := .ref (a 18)) (C := RX9) (T := TX9) (N := 17) hx hb hts inlX9 hown hK hP 0 rfl rfl 14 (by decide) (hts _ q24) (fun _ h => h) rfl dX9_count_14 ?_
    refine va_get (D := D) (ci := 2) (v := .ref (a 21)) (C := RX2) (T := TX2) (N := 5) hx hb hts inlX2 hown hK hP 2 rfl rfl 4 (by decide) (hts _ q964) (fun _ h => h) rfl dX9_count_17 ?_
    refine va_get (D := D) (ci := 6) (v := .int 0) (C := RX6) (T := TX6) (N := 4) hx hb hts inlX6 hown hK hP 3 rfl rfl 3 (by decide) (hts _ q259) (fun _ h => h) rfl dX9_count_20 ?_
    refine lv_if_ne (tgt := 28) hx hb dX9_count_23 (by decide) (fun h9 => absurd (by decide) h9) (fun _ => ?_)
    refine lv_iconst (v := (-1)) hx hb dX9_count_26 (by decide) ?_
    exact vz_iret hx hb hr hlk hK hP hD hS (()) (by rw [if_neg kc]) [0, 1, 2, 3] rfl (by decide) (Nat.le_refl 0) (Nat.le_refl 0) dX9_count_27
  · refine lv_aload_n hx hb dX9_count_5 rfl (lv_at hl 0 rfl) ?_
    refine va_get (D := D) (ci := 9) (v := .ref (a 24)) (C := RX9) (T := TX9) (N := 17) hx hb hts inlX9 hown hK hP 0 rfl rfl 7 (by decide) (hts _ q35) (fun _ h => h) rfl dX9_count_6 ?_
    refine va_get (D := D) (ci := 6) (v := .int 0) (C := RX6) (T := TX6) (N := 4) hx hb hts inlX6 hown hK hP 1 rfl rfl 3 (by decide) (hts _ q259) (fun _ h => h) rfl dX9_count_9 ?_
    exact vz_iret hx hb hr hlk hK hP hD hS (()) (by rw [if_pos kc]) [0, 1, 2, 3] rfl (by decide) (Nat.le_refl 0) (Nat.le_refl 0) dX9_count_12
set_option maxHeartbeats 4000000 in
set_option maxRecDepth 100000 in
theorem c_T_get0 (l : Launch) (D : va_G) (g : Nat → ClassId) (h q sz : Nat) (w mo i j : Int32)  : vz_Mi l D (tyG g) yX6_get cX6_get 4 0 0 0 0 .int [.ref h, .int i, .int j] sz [tT h q w mo 0] (fun r (u : Unit) => r = -9) (fun u => [tT h q w mo 0]) := by
  refine vz_si (by decide) (Nat.le_of_ble_eq_true rfl) (fun p e s m args below meth c hx hb hr hml hts hown hlk hin hK hsz A hA H locs hP hD hS ls hl => ?_)
  have hl : lv_has ls 4 [(0, .ref h), (1, .int i), (2, .int j)] := hl
  refine lv_iload_n hx hb dX6_get_0 rfl (lv_at hl 1 rfl) ?_
  refine lv_if_lt (tgt := 24) hx hb dX6_get_1 (by decide) (fun kc => ?_) (fun kc => ?_)
  · refine lv_bipush (v := (-9)) hx hb dX6_get_24 (by decide) ?_
    exact vz_iret hx hb hr hlk hK hP hD hS (()) (rfl) [0] rfl (by decide) (Nat.le_refl 0) (Nat.le_refl 0) dX6_get_26
  · refine lv_iload_n hx hb dX6_get_4 rfl (lv_at hl 1 rfl) ?_
    refine lv_aload_n hx hb dX6_get_5 rfl (lv_at hl 0 rfl) ?_
    refine va_get (D := D) (ci := 6) (v := .int 0) (C := RX6) (T := TX6) (N := 4) hx hb hts inlX6 hown hK hP 0 rfl rfl 3 (by decide) (hts _ q72) (fun _ h => h) rfl dX6_get_6 ?_
    refine lv_icmp_ge (tgt := 24) hx hb dX6_get_9 (by decide) (fun _ => ?_) (fun h9 => absurd (Int32.not_lt.mp kc) h9)
    refine lv_bipush (v := (-9)) hx hb dX6_get_24 (by decide) ?_
    exact vz_iret hx hb hr hlk hK hP hD hS (()) (rfl) [0] rfl (by decide) (Nat.le_refl 0) (Nat.le_refl 0) dX6_get_26
theorem q511 : Cond.methodLink RX2 43 yX6_get ∈ wsL_law := mT_4 (List.mem_of_getElem? (i := 3) rfl) rfl
theorem kv_X2_43 : vz_cv RX2 43 yX6_get cX6_get 4 (some .int) 2 := ⟨q511, q294, q295, q15, q296, by decide +kernel⟩
theorem dX2_hasPart_0 : decode cX2_hasPart 0 = .ok (.aload_n 0, 1) := by decide +kernel
theorem dX2_hasPart_1 : decode cX2_hasPart 1 = .ok (.getfield 14, 3) := by decide +kernel
theorem dX2_hasPart_4 : decode cX2_hasPart 4 = .ok (.iload_n 1, 1) := by decide +kernel
theorem dX2_hasPart_5 : decode cX2_hasPart 5 = .ok (.iconst 0, 1) := by decide +kernel
theorem dX2_hasPart_6 : decode cX2_hasPart 6 = .ok (.invokevirtual 43, 3) := by decide +kernel
theorem dX2_hasPart_9 : decode cX2_hasPart 9 = .ok (.istore_n 3, 1) := by decide +kernel
theorem dX2_hasPart_10 : decode cX2_hasPart 10 = .ok (.iload_n 2, 1) := by decide +kernel
theorem dX2_hasPart_11 : decode cX2_hasPart 11 = .ok (.ifCond .ne 13, 3) := by decide +kernel
theorem dX2_hasPart_14 : decode cX2_hasPart 14 = .ok (.iload_n 3, 1) := by decide +kernel
theorem dX2_hasPart_15 : decode cX2_hasPart 15 = .ok (.ifCond .ne 7, 3) := by decide +kernel
theorem dX2_hasPart_22 : decode cX2_hasPart 22 = .ok (.iconst 0, 1) := by decide +kernel
theorem dX2_hasPart_23 : decode cX2_hasPart 23 = .ok (.ireturn, 1) := by decide +kernel
theorem dX2_hasPart_24 : decode cX2_hasPart 24 = .ok (.iload_n 2, 1) := by decide +kernel
theorem dX2_hasPart_25 : decode cX2_hasPart 25 = .ok (.iconst 3, 1) := by decide +kernel
theorem dX2_hasPart_26 : decode cX2_hasPart 26 = .ok (.if_icmp .le 9, 3) := by decide +kernel
theorem dX2_hasPart_29 : decode cX2_hasPart 29 = .ok (.iload_n 2, 1) := by decide +kernel
theorem dX2_hasPart_30 : decode cX2_hasPart 30 = .ok (.iconst 3, 1) := by decide +kernel
theorem dX2_hasPart_31 : decode cX2_hasPart 31 = .ok (.isub, 1) := by decide +kernel
theorem dX2_hasPart_32 : decode cX2_hasPart 32 = .ok (.goto 4, 3) := by decide +kernel
theorem dX2_hasPart_35 : decode cX2_hasPart 35 = .ok (.iload_n 2, 1) := by decide +kernel
theorem dX2_hasPart_36 : decode cX2_hasPart 36 = .ok (.istore 4, 2) := by decide +kernel
theorem dX2_hasPart_38 : decode cX2_hasPart 38 = .ok (.iload_n 3, 1) := by decide +kernel
theorem dX2_hasPart_39 : decode cX2_hasPart 39 = .ok (.bipush 15, 2) := by decide +kernel
theorem dX2_hasPart_41 : decode cX2_hasPart 41 = .ok (.if_icmp .ne 27, 3) := by decide +kernel
theorem dX2_hasPart_68 : decode cX2_hasPart 68 = .ok (.iconst 0, 1) := by decide +kernel
theorem dX2_hasPart_69 : decode cX2_hasPart 69 = .ok (.ireturn, 1) := by decide +kernel
set_option maxHeartbeats 4000000 in
set_option maxRecDepth 100000 in
theorem c_P_hasPart0 (l : Launch) (D : va_G) (g : Nat → ClassId) (h t0 t1 t2 t3 t4 q0 sz : Nat) (i j : Int32)  : vz_Mi l D (tyG g) yX2_hasPart cX2_hasPart 5 1 23 0 0 .boolean [.ref h, .int i, .int j] sz [(h, .inr (2, [.ref t0, .ref t1, .ref t2, .ref t3, .ref t4])), tT t0 q0 (nI 12) (nI 80) 0] (fun r (u : Unit) => r = 0) (fun u => [(h, .inr (2, [.ref t0, .ref t1, .ref t2, .ref t3, .ref t4])), tT t0 q0 (nI 12) (nI 80) 0]) := by
  refine vz_si (by decide) (Nat.le_of_ble_eq_true rfl) (fun p e s m args below meth c hx hb hr hml hts hown hlk hin hK hsz A hA H locs hP hD hS ls hl => ?_)
  have hl : lv_has ls 5 [(0, .ref h), (1, .int i), (2, .int j)] := hl
  refine lv_aload_n hx hb dX2_hasPart_0 rfl (lv_at hl 0 rfl) ?_
  refine va_get (D := D) (ci := 2) (v := .ref t0) (C := RX2) (T := TX2) (N := 5) hx hb hts inlX2 hown hK hP 0 rfl rfl 0 (by decide) (hts _ q86) (fun _ h => h) rfl dX2_hasPart_1 ?_
  refine lv_iload_n hx hb dX2_hasPart_4 rfl (lv_at hl 1 rfl) ?_
  refine lv_iconst (v := 0) hx hb dX2_hasPart_5 (by decide) ?_
  refine vz_Vi (wr := [(h, .inr (2, [.ref t0, .ref t1, .ref t2, .ref t3, .ref t4]))]) (As := [.int i, .int 0]) (rest := []) hx hb hml hown hts hK hA hP hD hS (c_T_get0 l D g t0 q0 H.size (nI 12) (nI 80) i 0) kv_X2_43 (⟨Nat.le_of_ble_eq_true rfl, Nat.le_of_ble_eq_true rfl⟩) (q0 := 1) (ci := 6) rfl rfl rfl [1] [0] rfl rfl (by decide) hl.1 (Nat.le_of_ble_eq_true rfl) dX2_hasPart_6 (⟨Nat.le_of_ble_eq_true rfl, Nat.le_of_ble_eq_true rfl⟩) rfl (fun r1 _ H locs e2 _ hP hD hS => ?_)
  subst e2
  have hP : va_P D vwCl [(h, .inr (2, [.ref t0, .ref t1, .ref t2, .ref t3, .ref t4])), tT t0 q0 (nI 12) (nI 80) 0] H := hP
  have hD : va_D A [(h, .inr (2, [.ref t0, .ref t1, .ref t2, .ref t3, .ref t4])), tT t0 q0 (nI 12) (nI 80) 0] := hD
  refine lv_istore_n (lv' := [(3, .int (-9)), (0, .ref h), (1, .int i), (2, .int j)]) hx hb dX2_hasPart_9 rfl hl (by decide) rfl (fun ls hl => ?_)
  refine lv_iload_n hx hb dX2_hasPart_10 rfl (lv_at hl 3 rfl) ?_
  refine lv_if_ne (tgt := 24) hx hb dX2_hasPart_11 (by decide) (fun kc => ?_) (fun kc => ?_)
  · refine lv_iload_n hx hb dX2_hasPart_24 rfl (lv_at hl 3 rfl) ?_
    refine lv_iconst (v := 3) hx hb dX2_hasPart_25 (by decide) ?_
    refine lv_icmp_le (tgt := 35) hx hb dX2_hasPart_26 (by decide) (fun kd => ?_) (fun kd => ?_)
    · refine lv_iload_n hx hb dX2_hasPart_35 rfl (lv_at hl 3 rfl) ?_
      refine lv_istore (lv' := [(4, .int j), (3, .int (-9)), (0, .ref h), (1, .int i), (2, .int j)]) hx hb dX2_hasPart_36 hl (by decide) rfl (fun ls hl => ?_)
      refine lv_iload_n hx hb dX2_hasPart_38 rfl (lv_at hl 1 rfl) ?_
      refine lv_bipush (v := 15) hx hb dX2_hasPart_39 (by decide) ?_
      refine lv_icmp_ne (tgt := 68) hx hb dX2_hasPart_41 (by decide) (fun _ => ?_) (fun h9 => absurd h9 (by decide))
      refine lv_iconst (v := 0) hx hb dX2_hasPart_68 (by decide) ?_
      exact vz_zret hx hb hr hlk hK hP hD hS (()) (rfl) [0, 1] rfl (by decide) (Nat.le_refl 0) (Nat.le_refl 0) (by decide) dX2_hasPart_69
    · refine lv_iload_n hx hb dX2_hasPart_29 rfl (lv_at hl 3 rfl) ?_
      refine lv_iconst (v := 3) hx hb dX2_hasPart_30 (by decide) ?_
      refine lv_isub hx hb dX2_hasPart_31 ?_
      refine lv_goto (tgt := 36) hx hb dX2_hasPart_32 (by decide) ?_
      refine lv_istore (lv' := [(4, .int (j - 3)), (3, .int (-9)), (0, .ref h), (1, .int i), (2, .int j)]) hx hb dX2_hasPart_36 hl (by decide) rfl (fun ls hl => ?_)
      refine lv_iload_n hx hb dX2_hasPart_38 rfl (lv_at hl 1 rfl) ?_
      refine lv_bipush (v := 15) hx hb dX2_hasPart_39 (by decide) ?_
      refine lv_icmp_ne (tgt := 68) hx hb dX2_hasPart_41 (by decide) (fun _ => ?_) (fun h9 => absurd h9 (by decide))
      refine lv_iconst (v := 0) hx hb dX2_hasPart_68 (by decide) ?_
      exact vz_zret hx hb hr hlk hK hP hD hS (()) (rfl) [0, 1] rfl (by decide) (Nat.le_refl 0) (Nat.le_refl 0) (by decide) dX2_hasPart_69
  · refine lv_iload_n hx hb dX2_hasPart_14 rfl (lv_at hl 0 rfl) ?_
    refine lv_if_ne (tgt := 22) hx hb dX2_hasPart_15 (by decide) (fun _ => ?_) (fun h9 => absurd h9 (by decide))
    refine lv_iconst (v := 0) hx hb dX2_hasPart_22 (by decide) ?_
    exact vz_zret hx hb hr hlk hK hP hD hS (()) (rfl) [0, 1] rfl (by decide) (Nat.le_refl 0) (Nat.le_refl 0) (by decide) dX2_hasPart_23
theorem q975 : Cond.methodLink RX9 162 yX2_hasPart ∈ wsL_law := mT_4 (List.mem_of_getElem? (i := 174) rfl) rfl
theorem q976 : Cond.instanceMethod yX2_hasPart ∈ wsL_law := mT_4 (List.mem_of_getElem? (i := 175) rfl) rfl
theorem q977 : Cond.selects RX2 yX2_hasPart yX2_hasPart ∈ wsL_law := mT_4 (List.mem_of_getElem? (i := 176) rfl) rfl
theorem q978 : Cond.code yX2_hasPart cX2_hasPart 5 (some .boolean) ∈ wsL_law := mT_4 (List.mem_of_getElem? (i := 177) rfl) rfl
theorem kv_X9_162 : vz_cv RX9 162 yX2_hasPart cX2_hasPart 5 (some .boolean) 2 := ⟨q975, q976, q977, q23, q978, by decide +kernel⟩
theorem dX9_plan_0 : decode cX9_plan 0 = .ok (.aload_n 0, 1) := by decide +kernel
theorem dX9_plan_1 : decode cX9_plan 1 = .ok (.getfield 28, 3) := by decide +kernel
theorem dX9_plan_4 : decode cX9_plan 4 = .ok (.iload_n 1, 1) := by decide +kernel
theorem dX9_plan_5 : decode cX9_plan 5 = .ok (.iload_n 2, 1) := by decide +kernel
theorem dX9_plan_6 : decode cX9_plan 6 = .ok (.invokevirtual 162, 3) := by decide +kernel
theorem dX9_plan_9 : decode cX9_plan 9 = .ok (.ifCond .eq 35, 3) := by decide +kernel
theorem dX9_plan_44 : decode cX9_plan 44 = .ok (.iconst (-1), 1) := by decide +kernel
theorem dX9_plan_45 : decode cX9_plan 45 = .ok (.ireturn, 1) := by decide +kernel
set_option maxHeartbeats 4000000 in
set_option maxRecDepth 100000 in
theorem c_A_plan0 (l : Launch) (D : va_G) (g : Nat → ClassId) (h sz : Nat) (a : Nat → Nat) (i j k n : Int32)  : vz_Mi l D (tyG g) yX9_plan cX9_plan 6 2 47 0 0 .int [.ref h, .int i, .int j, .int k, .int n] sz [(h, .inr (9, [.ref (a 0), .ref (a 2), .ref (a 5), .ref (a 27), .ref (a 28), .ref (a 29), .ref (a 30), .ref (a 24), .ref (a 31), .ref (a 32), .ref (a 25), .ref (a 26), .ref (a 33), .ref (a 34), .ref (a 18), .ref (a 10), .int 0])), ((a 18), .inr (2, [.ref (a 19), .ref (a 22), .ref (a 20), .ref (a 23), .ref (a 21)])), tT (a 19) (a 40) (nI 12) (nI 80) 0] (fun r (u : Unit) => r = -1) (fun u => [(h, .inr (9, [.ref (a 0), .ref (a 2), .ref (a 5), .ref (a 27), .ref (a 28), .ref (a 29), .ref (a 30), .ref (a 24), .ref (a 31), .ref (a 32), .ref (a 25), .ref (a 26), .ref (a 33), .ref (a 34), .ref (a 18), .ref (a 10), .int 0])), ((a 18), .inr (2, [.ref (a 19), .ref (a 22), .ref (a 20), .ref (a 23), .ref (a 21)])), tT (a 19) (a 40) (nI 12) (nI 80) 0]) := by
  refine vz_si (by decide) (Nat.le_of_ble_eq_true rfl) (fun p e s m args below meth c hx hb hr hml hts hown hlk hin hK hsz A hA H locs hP hD hS ls hl => ?_)
  have hl : lv_has ls 6 [(0, .ref h), (1, .int i), (2, .int j), (3, .int k), (4, .int n)] := hl
  refine lv_aload_n hx hb dX9_plan_0 rfl (lv_at hl 0 rfl) ?_
  refine va_get (D := D) (ci := 9) (v := .ref (a 18)) (C := RX9) (T := TX9) (N := 17) hx hb hts inlX9 hown hK hP 0 rfl rfl 14 (by decide) (hts _ q24) (fun _ h => h) rfl dX9_plan_1 ?_
  refine lv_iload_n hx hb dX9_plan_4 rfl (lv_at hl 1 rfl) ?_
  refine lv_iload_n hx hb dX9_plan_5 rfl (lv_at hl 2 rfl) ?_
  refine vz_Vi (wr := [(h, .inr (9, [.ref (a 0), .ref (a 2), .ref (a 5), .ref (a 27), .ref (a 28), .ref (a 29), .ref (a 30), .ref (a 24), .ref (a 31), .ref (a 32), .ref (a 25), .ref (a 26), .ref (a 33), .ref (a 34), .ref (a 18), .ref (a 10), .int 0]))]) (As := [.int i, .int j]) (rest := []) hx hb hml hown hts hK hA hP hD hS (c_P_hasPart0 l D g (a 18) (a 19) (a 22) (a 20) (a 23) (a 21) (a 40) H.size i j) kv_X9_162 (⟨Nat.le_of_ble_eq_true rfl, Nat.le_of_ble_eq_true rfl⟩) (q0 := 1) (ci := 2) rfl rfl rfl [1, 2] [0] rfl rfl (by decide) hl.1 (Nat.le_of_ble_eq_true rfl) dX9_plan_6 (⟨Nat.le_of_ble_eq_true rfl, Nat.le_of_ble_eq_true rfl⟩) rfl (fun rp _ H locs ep _ hP hD hS => ?_)
  subst ep
  have hP : va_P D vwCl [(h, .inr (9, [.ref (a 0), .ref (a 2), .ref (a 5), .ref (a 27), .ref (a 28), .ref (a 29), .ref (a 30), .ref (a 24), .ref (a 31), .ref (a 32), .ref (a 25), .ref (a 26), .ref (a 33), .ref (a 34), .ref (a 18), .ref (a 10), .int 0])), ((a 18), .inr (2, [.ref (a 19), .ref (a 22), .ref (a 20), .ref (a 23), .ref (a 21)])), tT (a 19) (a 40) (nI 12) (nI 80) 0] H := hP
  have hD : va_D A [(h, .inr (9, [.ref (a 0), .ref (a 2), .ref (a 5), .ref (a 27), .ref (a 28), .ref (a 29), .ref (a 30), .ref (a 24), .ref (a 31), .ref (a 32), .ref (a 25), .ref (a 26), .ref (a 33), .ref (a 34), .ref (a 18), .ref (a 10), .int 0])), ((a 18), .inr (2, [.ref (a 19), .ref (a 22), .ref (a 20), .ref (a 23), .ref (a 21)])), tT (a 19) (a 40) (nI 12) (nI 80) 0] := hD
  refine lv_if_eq (tgt := 44) hx hb dX9_plan_9 (by decide) (fun _ => ?_) (fun h9 => absurd (by decide) h9)
  refine lv_iconst (v := (-1)) hx hb dX9_plan_44 (by decide) ?_
  exact vz_iret hx hb hr hlk hK hP hD hS (()) (rfl) [0, 1, 2] rfl (by decide) (Nat.le_refl 0) (Nat.le_refl 0) dX9_plan_45
theorem q438 : Cond.methodLink RX9 133 yX6_reset ∈ wsL_law := mT_3 (List.mem_of_getElem? (i := 120) rfl) rfl
theorem kv_X9_133 : vz_cv RX9 133 yX6_reset cX6_reset 1 none 0 := ⟨q438, q290, q291, q15, q292, by decide +kernel⟩
theorem dX9_clear_0 : decode cX9_clear 0 = .ok (.aload_n 0, 1) := by decide +kernel
theorem dX9_clear_1 : decode cX9_clear 1 = .ok (.getfield 56, 3) := by decide +kernel
theorem dX9_clear_4 : decode cX9_clear 4 = .ok (.getfield 118, 3) := by decide +kernel
theorem dX9_clear_7 : decode cX9_clear 7 = .ok (.istore_n 1, 1) := by decide +kernel
theorem dX9_clear_8 : decode cX9_clear 8 = .ok (.aload_n 0, 1) := by decide +kernel
theorem dX9_clear_9 : decode cX9_clear 9 = .ok (.getfield 56, 3) := by decide +kernel
theorem dX9_clear_12 : decode cX9_clear 12 = .ok (.invokevirtual 133, 3) := by decide +kernel
theorem dX9_clear_15 : decode cX9_clear 15 = .ok (.iload_n 1, 1) := by decide +kernel
theorem dX9_clear_16 : decode cX9_clear 16 = .ok (.ireturn, 1) := by decide +kernel
set_option maxHeartbeats 4000000 in
set_option maxRecDepth 100000 in
theorem c_A_clear0 (l : Launch) (D : va_G) (g : Nat → ClassId) (h sz : Nat) (a : Nat → Nat)  : vz_Mi l D (tyG g) yX9_clear cX9_clear 2 1 20 0 0 .int [.ref h] sz [(h, .inr (9, [.ref (a 0), .ref (a 2), .ref (a 5), .ref (a 27), .ref (a 28), .ref (a 29), .ref (a 30), .ref (a 24), .ref (a 31), .ref (a 32), .ref (a 25), .ref (a 26), .ref (a 33), .ref (a 34), .ref (a 18), .ref (a 10), .int 0])), tT (a 24) (a 43) (nI 4) (nI 30) 0] (fun r (u : Unit) => r = 0) (fun u => [(h, .inr (9, [.ref (a 0), .ref (a 2), .ref (a 5), .ref (a 27), .ref (a 28), .ref (a 29), .ref (a 30), .ref (a 24), .ref (a 31), .ref (a 32), .ref (a 25), .ref (a 26), .ref (a 33), .ref (a 34), .ref (a 18), .ref (a 10), .int 0])), tT (a 24) (a 43) (nI 4) (nI 30) 0]) := by
  refine vz_si (by decide) (Nat.le_of_ble_eq_true rfl) (fun p e s m args below meth c hx hb hr hml hts hown hlk hin hK hsz A hA H locs hP hD hS ls hl => ?_)
  have hl : lv_has ls 2 [(0, .ref h)] := hl
  refine lv_aload_n hx hb dX9_clear_0 rfl (lv_at hl 0 rfl) ?_
  refine va_get (D := D) (ci := 9) (v := .ref (a 24)) (C := RX9) (T := TX9) (N := 17) hx hb hts inlX9 hown hK hP 0 rfl rfl 7 (by decide) (hts _ q35) (fun _ h => h) rfl dX9_clear_1 ?_
  refine va_get (D := D) (ci := 6) (v := .int 0) (C := RX6) (T := TX6) (N := 4) hx hb hts inlX6 hown hK hP 1 rfl rfl 3 (by decide) (hts _ q259) (fun _ h => h) rfl dX9_clear_4 ?_
  refine lv_istore_n (lv' := [(1, .int 0), (0, .ref h)]) hx hb dX9_clear_7 rfl hl (by decide) rfl (fun ls hl => ?_)
  refine lv_aload_n hx hb dX9_clear_8 rfl (lv_at hl 1 rfl) ?_
  refine va_get (D := D) (ci := 9) (v := .ref (a 24)) (C := RX9) (T := TX9) (N := 17) hx hb hts inlX9 hown hK hP 0 rfl rfl 7 (by decide) (hts _ q35) (fun _ h => h) rfl dX9_clear_9 ?_
  refine vz_Vv (wr := [(h, .inr (9, [.ref (a 0), .ref (a 2), .ref (a 5), .ref (a 27), .ref (a 28), .ref (a 29), .ref (a 30), .ref (a 24), .ref (a 31), .ref (a 32), .ref (a 25), .ref (a 26), .ref (a 33), .ref (a 34), .ref (a 18), .ref (a 10), .int 0]))]) (As := []) (rest := []) hx hb hml hown hts hK hA hP hD hS (c_T_reset l D g (a 24) (a 43) H.size (nI 4) (nI 30) 0) kv_X9_133 (⟨Nat.le_of_ble_eq_true rfl, Nat.le_of_ble_eq_true rfl⟩) (q0 := 1) (ci := 6) rfl rfl rfl [1] [0] rfl rfl (by decide) hl.1 (Nat.le_of_ble_eq_true rfl) dX9_clear_12 (⟨Nat.le_of_ble_eq_true rfl, Nat.le_of_ble_eq_true rfl⟩) rfl (fun _ H locs _ _ hP hD hS => ?_)
  have hP : va_P D vwCl [(h, .inr (9, [.ref (a 0), .ref (a 2), .ref (a 5), .ref (a 27), .ref (a 28), .ref (a 29), .ref (a 30), .ref (a 24), .ref (a 31), .ref (a 32), .ref (a 25), .ref (a 26), .ref (a 33), .ref (a 34), .ref (a 18), .ref (a 10), .int 0])), tT (a 24) (a 43) (nI 4) (nI 30) 0] H := hP
  have hD : va_D A [(h, .inr (9, [.ref (a 0), .ref (a 2), .ref (a 5), .ref (a 27), .ref (a 28), .ref (a 29), .ref (a 30), .ref (a 24), .ref (a 31), .ref (a 32), .ref (a 25), .ref (a 26), .ref (a 33), .ref (a 34), .ref (a 18), .ref (a 10), .int 0])), tT (a 24) (a 43) (nI 4) (nI 30) 0] := hD
  refine lv_iload_n hx hb dX9_clear_15 rfl (lv_at hl 0 rfl) ?_
  exact vz_iret hx hb hr hlk hK hP hD hS (()) (rfl) [0, 1] rfl (by decide) (Nat.le_refl 0) (Nat.le_refl 0) dX9_clear_16
theorem dX9_isNoMethod_0 : decode cX9_isNoMethod 0 = .ok (.iload_n 1, 1) := by decide +kernel
theorem dX9_isNoMethod_1 : decode cX9_isNoMethod 1 = .ok (.ifCond .lt 17, 3) := by decide +kernel
theorem dX9_isNoMethod_4 : decode cX9_isNoMethod 4 = .ok (.iload_n 1, 1) := by decide +kernel
theorem dX9_isNoMethod_5 : decode cX9_isNoMethod 5 = .ok (.aload_n 0, 1) := by decide +kernel
theorem dX9_isNoMethod_6 : decode cX9_isNoMethod 6 = .ok (.getfield 28, 3) := by decide +kernel
theorem dX9_isNoMethod_9 : decode cX9_isNoMethod 9 = .ok (.getfield 153, 3) := by decide +kernel
theorem dX9_isNoMethod_12 : decode cX9_isNoMethod 12 = .ok (.getfield 118, 3) := by decide +kernel
theorem dX9_isNoMethod_15 : decode cX9_isNoMethod 15 = .ok (.if_icmp .lt 7, 3) := by decide +kernel
theorem dX9_isNoMethod_18 : decode cX9_isNoMethod 18 = .ok (.iconst 1, 1) := by decide +kernel
theorem dX9_isNoMethod_19 : decode cX9_isNoMethod 19 = .ok (.goto 4, 3) := by decide +kernel
theorem dX9_isNoMethod_23 : decode cX9_isNoMethod 23 = .ok (.ireturn, 1) := by decide +kernel
set_option maxHeartbeats 4000000 in
set_option maxRecDepth 100000 in
theorem c_A_isNoMethod0 (l : Launch) (D : va_G) (g : Nat → ClassId) (h sz : Nat) (a : Nat → Nat) (i : Int32)  : vz_Mi l D (tyG g) yX9_isNoMethod cX9_isNoMethod 2 0 0 0 0 .boolean [.ref h, .int i] sz [(h, .inr (9, [.ref (a 0), .ref (a 2), .ref (a 5), .ref (a 27), .ref (a 28), .ref (a 29), .ref (a 30), .ref (a 24), .ref (a 31), .ref (a 32), .ref (a 25), .ref (a 26), .ref (a 33), .ref (a 34), .ref (a 18), .ref (a 10), .int 0])), ((a 18), .inr (2, [.ref (a 19), .ref (a 22), .ref (a 20), .ref (a 23), .ref (a 21)])), tT (a 21) (a 42) (nI 2) (nI 8) 0] (fun r (u : Unit) => r = 1) (fun u => [(h, .inr (9, [.ref (a 0), .ref (a 2), .ref (a 5), .ref (a 27), .ref (a 28), .ref (a 29), .ref (a 30), .ref (a 24), .ref (a 31), .ref (a 32), .ref (a 25), .ref (a 26), .ref (a 33), .ref (a 34), .ref (a 18), .ref (a 10), .int 0])), ((a 18), .inr (2, [.ref (a 19), .ref (a 22), .ref (a 20), .ref (a 23), .ref (a 21)])), tT (a 21) (a 42) (nI 2) (nI 8) 0]) := by
  refine vz_si (by decide) (Nat.le_of_ble_eq_true rfl) (fun p e s m args below meth c hx hb hr hml hts hown hlk hin hK hsz A hA H locs hP hD hS ls hl => ?_)
  have hl : lv_has ls 2 [(0, .ref h), (1, .int i)] := hl
  refine lv_iload_n hx hb dX9_isNoMethod_0 rfl (lv_at hl 1 rfl) ?_
  refine lv_if_lt (tgt := 18) hx hb dX9_isNoMethod_1 (by decide) (fun kc => ?_) (fun kc => ?_)
  · refine lv_iconst (v := 1) hx hb dX9_isNoMethod_18 (by decide) ?_
    refine lv_goto (tgt := 23) hx hb dX9_isNoMethod_19 (by decide) ?_
    exact vz_zret hx hb hr hlk hK hP hD hS (()) (rfl) [0, 1, 2] rfl (by decide) (Nat.le_refl 0) (Nat.le_refl 0) (by decide) dX9_isNoMethod_23
  · refine lv_iload_n hx hb dX9_isNoMethod_4 rfl (lv_at hl 1 rfl) ?_
    refine lv_aload_n hx hb dX9_isNoMethod_5 rfl (lv_at hl 0 rfl) ?_
    refine va_get (D := D) (ci := 9) (v := .ref (a 18)) (C := RX9) (T := TX9) (N := 17) hx hb hts inlX9 hown hK hP 0 rfl rfl 14 (by decide) (hts _ q24) (fun _ h => h) rfl dX9_isNoMethod_6 ?_
    refine va_get (D := D) (ci := 2) (v := .ref (a 21)) (C := RX2) (T := TX2) (N := 5) hx hb hts inlX2 hown hK hP 1 rfl rfl 4 (by decide) (hts _ q964) (fun _ h => h) rfl dX9_isNoMethod_9 ?_
    refine va_get (D := D) (ci := 6) (v := .int 0) (C := RX6) (T := TX6) (N := 4) hx hb hts inlX6 hown hK hP 2 rfl rfl 3 (by decide) (hts _ q259) (fun _ h => h) rfl dX9_isNoMethod_12 ?_
    refine lv_icmp_lt (tgt := 22) hx hb dX9_isNoMethod_15 (by decide) (fun h9 => absurd h9 (kc)) (fun _ => ?_)
    refine lv_iconst (v := 1) hx hb dX9_isNoMethod_18 (by decide) ?_
    refine lv_goto (tgt := 23) hx hb dX9_isNoMethod_19 (by decide) ?_
    exact vz_zret hx hb hr hlk hK hP hD hS (()) (rfl) [0, 1, 2] rfl (by decide) (Nat.le_refl 0) (Nat.le_refl 0) (by decide) dX9_isNoMethod_23
theorem q1007 : Cond.methodLink RX9 166 yX9_isNoMethod ∈ wsL_law := mT_4 (List.mem_of_getElem? (i := 186) rfl) rfl
theorem q1008 : Cond.instanceMethod yX9_isNoMethod ∈ wsL_law := mT_4 (List.mem_of_getElem? (i := 188) rfl) rfl
theorem q1009 : Cond.selects RX9 yX9_isNoMethod yX9_isNoMethod ∈ wsL_law := mS_4 (q := (yX9_isNoMethod, 17)) (List.mem_of_getElem? (i := 15) rfl) rfl
theorem q2 : Cond.initialized RX9 ∈ wsL_law := mT_1 (List.mem_of_getElem? (i := 1) rfl) rfl
theorem q1010 : Cond.code yX9_isNoMethod cX9_isNoMethod 2 (some .boolean) ∈ wsL_law := mT_4 (List.mem_of_getElem? (i := 189) rfl) rfl
theorem kv_X9_166 : vz_cv RX9 166 yX9_isNoMethod cX9_isNoMethod 2 (some .boolean) 1 := ⟨q1007, q1008, q1009, q2, q1010, by decide +kernel⟩
theorem dX9_ways_0 : decode cX9_ways 0 = .ok (.aload_n 0, 1) := by decide +kernel
theorem dX9_ways_1 : decode cX9_ways 1 = .ok (.iload_n 1, 1) := by decide +kernel
theorem dX9_ways_2 : decode cX9_ways 2 = .ok (.invokevirtual 166, 3) := by decide +kernel
theorem dX9_ways_5 : decode cX9_ways 5 = .ok (.ifCond .eq 5, 3) := by decide +kernel
theorem dX9_ways_8 : decode cX9_ways 8 = .ok (.iconst (-1), 1) := by decide +kernel
theorem dX9_ways_9 : decode cX9_ways 9 = .ok (.ireturn, 1) := by decide +kernel
set_option maxHeartbeats 4000000 in
set_option maxRecDepth 100000 in
theorem c_A_ways0 (l : Launch) (D : va_G) (g : Nat → ClassId) (h sz : Nat) (a : Nat → Nat) (i j k : Int32)  : vz_Mi l D (tyG g) yX9_ways cX9_ways 5 1 21 0 0 .int [.ref h, .int i, .int j, .int k] sz [(h, .inr (9, [.ref (a 0), .ref (a 2), .ref (a 5), .ref (a 27), .ref (a 28), .ref (a 29), .ref (a 30), .ref (a 24), .ref (a 31), .ref (a 32), .ref (a 25), .ref (a 26), .ref (a 33), .ref (a 34), .ref (a 18), .ref (a 10), .int 0])), ((a 18), .inr (2, [.ref (a 19), .ref (a 22), .ref (a 20), .ref (a 23), .ref (a 21)])), tT (a 21) (a 42) (nI 2) (nI 8) 0] (fun r (u : Unit) => r = -1) (fun u => [(h, .inr (9, [.ref (a 0), .ref (a 2), .ref (a 5), .ref (a 27), .ref (a 28), .ref (a 29), .ref (a 30), .ref (a 24), .ref (a 31), .ref (a 32), .ref (a 25), .ref (a 26), .ref (a 33), .ref (a 34), .ref (a 18), .ref (a 10), .int 0])), ((a 18), .inr (2, [.ref (a 19), .ref (a 22), .ref (a 20), .ref (a 23), .ref (a 21)])), tT (a 21) (a 42) (nI 2) (nI 8) 0]) := by
  refine vz_si (by decide) (Nat.le_of_ble_eq_true rfl) (fun p e s m args below meth c hx hb hr hml hts hown hlk hin hK hsz A hA H locs hP hD hS ls hl => ?_)
  have hl : lv_has ls 5 [(0, .ref h), (1, .int i), (2, .int j), (3, .int k)] := hl
  refine lv_aload_n hx hb dX9_ways_0 rfl (lv_at hl 0 rfl) ?_
  refine lv_iload_n hx hb dX9_ways_1 rfl (lv_at hl 1 rfl) ?_
  refine vz_Vi (wr := []) (As := [.int i]) (rest := []) hx hb hml hown hts hK hA hP hD hS (c_A_isNoMethod0 l D g h H.size a i) kv_X9_166 (⟨Nat.le_of_ble_eq_true rfl, Nat.le_of_ble_eq_true rfl⟩) (q0 := 0) (ci := 9) rfl rfl rfl [0, 1, 2] [] rfl rfl (by decide) hl.1 (Nat.le_of_ble_eq_true rfl) dX9_ways_2 (⟨Nat.le_of_ble_eq_true rfl, Nat.le_of_ble_eq_true rfl⟩) rfl (fun r1 _ H locs e2 _ hP hD hS => ?_)
  subst e2
  have hP : va_P D vwCl [(h, .inr (9, [.ref (a 0), .ref (a 2), .ref (a 5), .ref (a 27), .ref (a 28), .ref (a 29), .ref (a 30), .ref (a 24), .ref (a 31), .ref (a 32), .ref (a 25), .ref (a 26), .ref (a 33), .ref (a 34), .ref (a 18), .ref (a 10), .int 0])), ((a 18), .inr (2, [.ref (a 19), .ref (a 22), .ref (a 20), .ref (a 23), .ref (a 21)])), tT (a 21) (a 42) (nI 2) (nI 8) 0] H := hP
  have hD : va_D A [(h, .inr (9, [.ref (a 0), .ref (a 2), .ref (a 5), .ref (a 27), .ref (a 28), .ref (a 29), .ref (a 30), .ref (a 24), .ref (a 31), .ref (a 32), .ref (a 25), .ref (a 26), .ref (a 33), .ref (a 34), .ref (a 18), .ref (a 10), .int 0])), ((a 18), .inr (2, [.ref (a 19), .ref (a 22), .ref (a 20), .ref (a 23), .ref (a 21)])), tT (a 21) (a 42) (nI 2) (nI 8) 0] := hD
  refine lv_if_eq (tgt := 10) hx hb dX9_ways_5 (by decide) (fun h9 => absurd h9 (by decide)) (fun _ => ?_)
  refine lv_iconst (v := (-1)) hx hb dX9_ways_8 (by decide) ?_
  exact vz_iret hx hb hr hlk hK hP hD hS (()) (rfl) [0, 1, 2] rfl (by decide) (Nat.le_refl 0) (Nat.le_refl 0) dX9_ways_9
theorem dX9_same_0 : decode cX9_same 0 = .ok (.aload_n 0, 1) := by decide +kernel
theorem dX9_same_1 : decode cX9_same 1 = .ok (.iload_n 1, 1) := by decide +kernel
theorem dX9_same_2 : decode cX9_same 2 = .ok (.invokevirtual 166, 3) := by decide +kernel
theorem dX9_same_5 : decode cX9_same 5 = .ok (.ifCond .eq 5, 3) := by decide +kernel
theorem dX9_same_8 : decode cX9_same 8 = .ok (.iconst (-1), 1) := by decide +kernel
theorem dX9_same_9 : decode cX9_same 9 = .ok (.ireturn, 1) := by decide +kernel
set_option maxHeartbeats 4000000 in
set_option maxRecDepth 100000 in
theorem c_A_same0 (l : Launch) (D : va_G) (g : Nat → ClassId) (h sz : Nat) (a : Nat → Nat) (i j k : Int32)  : vz_Mi l D (tyG g) yX9_same cX9_same 4 1 21 0 0 .int [.ref h, .int i, .int j, .int k] sz [(h, .inr (9, [.ref (a 0), .ref (a 2), .ref (a 5), .ref (a 27), .ref (a 28), .ref (a 29), .ref (a 30), .ref (a 24), .ref (a 31), .ref (a 32), .ref (a 25), .ref (a 26), .ref (a 33), .ref (a 34), .ref (a 18), .ref (a 10), .int 0])), ((a 18), .inr (2, [.ref (a 19), .ref (a 22), .ref (a 20), .ref (a 23), .ref (a 21)])), tT (a 21) (a 42) (nI 2) (nI 8) 0] (fun r (u : Unit) => r = -1) (fun u => [(h, .inr (9, [.ref (a 0), .ref (a 2), .ref (a 5), .ref (a 27), .ref (a 28), .ref (a 29), .ref (a 30), .ref (a 24), .ref (a 31), .ref (a 32), .ref (a 25), .ref (a 26), .ref (a 33), .ref (a 34), .ref (a 18), .ref (a 10), .int 0])), ((a 18), .inr (2, [.ref (a 19), .ref (a 22), .ref (a 20), .ref (a 23), .ref (a 21)])), tT (a 21) (a 42) (nI 2) (nI 8) 0]) := by
  refine vz_si (by decide) (Nat.le_of_ble_eq_true rfl) (fun p e s m args below meth c hx hb hr hml hts hown hlk hin hK hsz A hA H locs hP hD hS ls hl => ?_)
  have hl : lv_has ls 4 [(0, .ref h), (1, .int i), (2, .int j), (3, .int k)] := hl
  refine lv_aload_n hx hb dX9_same_0 rfl (lv_at hl 0 rfl) ?_
  refine lv_iload_n hx hb dX9_same_1 rfl (lv_at hl 1 rfl) ?_
  refine vz_Vi (wr := []) (As := [.int i]) (rest := []) hx hb hml hown hts hK hA hP hD hS (c_A_isNoMethod0 l D g h H.size a i) kv_X9_166 (⟨Nat.le_of_ble_eq_true rfl, Nat.le_of_ble_eq_true rfl⟩) (q0 := 0) (ci := 9) rfl rfl rfl [0, 1, 2] [] rfl rfl (by decide) hl.1 (Nat.le_of_ble_eq_true rfl) dX9_same_2 (⟨Nat.le_of_ble_eq_true rfl, Nat.le_of_ble_eq_true rfl⟩) rfl (fun r1 _ H locs e2 _ hP hD hS => ?_)
  subst e2
  have hP : va_P D vwCl [(h, .inr (9, [.ref (a 0), .ref (a 2), .ref (a 5), .ref (a 27), .ref (a 28), .ref (a 29), .ref (a 30), .ref (a 24), .ref (a 31), .ref (a 32), .ref (a 25), .ref (a 26), .ref (a 33), .ref (a 34), .ref (a 18), .ref (a 10), .int 0])), ((a 18), .inr (2, [.ref (a 19), .ref (a 22), .ref (a 20), .ref (a 23), .ref (a 21)])), tT (a 21) (a 42) (nI 2) (nI 8) 0] H := hP
  have hD : va_D A [(h, .inr (9, [.ref (a 0), .ref (a 2), .ref (a 5), .ref (a 27), .ref (a 28), .ref (a 29), .ref (a 30), .ref (a 24), .ref (a 31), .ref (a 32), .ref (a 25), .ref (a 26), .ref (a 33), .ref (a 34), .ref (a 18), .ref (a 10), .int 0])), ((a 18), .inr (2, [.ref (a 19), .ref (a 22), .ref (a 20), .ref (a 23), .ref (a 21)])), tT (a 21) (a 42) (nI 2) (nI 8) 0] := hD
  refine lv_if_eq (tgt := 10) hx hb dX9_same_5 (by decide) (fun h9 => absurd h9 (by decide)) (fun _ => ?_)
  refine lv_iconst (v := (-1)) hx hb dX9_same_8 (by decide) ?_
  exact vz_iret hx hb hr hlk hK hP hD hS (()) (rfl) [0, 1, 2] rfl (by decide) (Nat.le_refl 0) (Nat.le_refl 0) dX9_same_9
theorem dX9_run_0 : decode cX9_run 0 = .ok (.aload_n 0, 1) := by decide +kernel
theorem dX9_run_1 : decode cX9_run 1 = .ok (.iload_n 2, 1) := by decide +kernel
theorem dX9_run_2 : decode cX9_run 2 = .ok (.invokevirtual 166, 3) := by decide +kernel
theorem dX9_run_5 : decode cX9_run 5 = .ok (.ifCond .ne 16, 3) := by decide +kernel
theorem dX9_run_21 : decode cX9_run 21 = .ok (.iconst (-1), 1) := by decide +kernel
theorem dX9_run_22 : decode cX9_run 22 = .ok (.ireturn, 1) := by decide +kernel
set_option maxHeartbeats 4000000 in
set_option maxRecDepth 100000 in
theorem c_A_run0 (l : Launch) (D : va_G) (g : Nat → ClassId) (h sz : Nat) (a : Nat → Nat) (b i j k n : Int32)  : vz_Mi l D (tyG g) yX9_run cX9_run 6 1 21 0 0 .int [.ref h, .int b, .int i, .int j, .int k, .int n] sz [(h, .inr (9, [.ref (a 0), .ref (a 2), .ref (a 5), .ref (a 27), .ref (a 28), .ref (a 29), .ref (a 30), .ref (a 24), .ref (a 31), .ref (a 32), .ref (a 25), .ref (a 26), .ref (a 33), .ref (a 34), .ref (a 18), .ref (a 10), .int 0])), ((a 18), .inr (2, [.ref (a 19), .ref (a 22), .ref (a 20), .ref (a 23), .ref (a 21)])), tT (a 21) (a 42) (nI 2) (nI 8) 0] (fun r (u : Unit) => r = -1) (fun u => [(h, .inr (9, [.ref (a 0), .ref (a 2), .ref (a 5), .ref (a 27), .ref (a 28), .ref (a 29), .ref (a 30), .ref (a 24), .ref (a 31), .ref (a 32), .ref (a 25), .ref (a 26), .ref (a 33), .ref (a 34), .ref (a 18), .ref (a 10), .int 0])), ((a 18), .inr (2, [.ref (a 19), .ref (a 22), .ref (a 20), .ref (a 23), .ref (a 21)])), tT (a 21) (a 42) (nI 2) (nI 8) 0]) := by
  refine vz_si (by decide) (Nat.le_of_ble_eq_true rfl) (fun p e s m args below meth c hx hb hr hml hts hown hlk hin hK hsz A hA H locs hP hD hS ls hl => ?_)
  have hl : lv_has ls 6 [(0, .ref h), (1, .int b), (2, .int i), (3, .int j), (4, .int k), (5, .int n)] := hl
  refine lv_aload_n hx hb dX9_run_0 rfl (lv_at hl 0 rfl) ?_
  refine lv_iload_n hx hb dX9_run_1 rfl (lv_at hl 2 rfl) ?_
  refine vz_Vi (wr := []) (As := [.int i]) (rest := []) hx hb hml hown hts hK hA hP hD hS (c_A_isNoMethod0 l D g h H.size a i) kv_X9_166 (⟨Nat.le_of_ble_eq_true rfl, Nat.le_of_ble_eq_true rfl⟩) (q0 := 0) (ci := 9) rfl rfl rfl [0, 1, 2] [] rfl rfl (by decide) hl.1 (Nat.le_of_ble_eq_true rfl) dX9_run_2 (⟨Nat.le_of_ble_eq_true rfl, Nat.le_of_ble_eq_true rfl⟩) rfl (fun r1 _ H locs e2 _ hP hD hS => ?_)
  subst e2
  have hP : va_P D vwCl [(h, .inr (9, [.ref (a 0), .ref (a 2), .ref (a 5), .ref (a 27), .ref (a 28), .ref (a 29), .ref (a 30), .ref (a 24), .ref (a 31), .ref (a 32), .ref (a 25), .ref (a 26), .ref (a 33), .ref (a 34), .ref (a 18), .ref (a 10), .int 0])), ((a 18), .inr (2, [.ref (a 19), .ref (a 22), .ref (a 20), .ref (a 23), .ref (a 21)])), tT (a 21) (a 42) (nI 2) (nI 8) 0] H := hP
  have hD : va_D A [(h, .inr (9, [.ref (a 0), .ref (a 2), .ref (a 5), .ref (a 27), .ref (a 28), .ref (a 29), .ref (a 30), .ref (a 24), .ref (a 31), .ref (a 32), .ref (a 25), .ref (a 26), .ref (a 33), .ref (a 34), .ref (a 18), .ref (a 10), .int 0])), ((a 18), .inr (2, [.ref (a 19), .ref (a 22), .ref (a 20), .ref (a 23), .ref (a 21)])), tT (a 21) (a 42) (nI 2) (nI 8) 0] := hD
  refine lv_if_ne (tgt := 21) hx hb dX9_run_5 (by decide) (fun _ => ?_) (fun h9 => absurd h9 (by decide))
  refine lv_iconst (v := (-1)) hx hb dX9_run_21 (by decide) ?_
  exact vz_iret hx hb hr hlk hK hP hD hS (()) (rfl) [0, 1, 2] rfl (by decide) (Nat.le_refl 0) (Nat.le_refl 0) dX9_run_22
theorem dX9_chosen_0 : decode cX9_chosen 0 = .ok (.iload_n 1, 1) := by decide +kernel
theorem dX9_chosen_1 : decode cX9_chosen 1 = .ok (.iconst 1, 1) := by decide +kernel
theorem dX9_chosen_2 : decode cX9_chosen 2 = .ok (.if_icmp .ne 10, 3) := by decide +kernel
theorem dX9_chosen_5 : decode cX9_chosen 5 = .ok (.aload_n 0, 1) := by decide +kernel
theorem dX9_chosen_6 : decode cX9_chosen 6 = .ok (.getfield 72, 3) := by decide +kernel
theorem dX9_chosen_9 : decode cX9_chosen 9 = .ok (.goto 7, 3) := by decide +kernel
theorem dX9_chosen_12 : decode cX9_chosen 12 = .ok (.aload_n 0, 1) := by decide +kernel
theorem dX9_chosen_13 : decode cX9_chosen 13 = .ok (.getfield 68, 3) := by decide +kernel
theorem dX9_chosen_16 : decode cX9_chosen 16 = .ok (.areturn, 1) := by decide +kernel
set_option maxHeartbeats 4000000 in
set_option maxRecDepth 100000 in
theorem c_A_chosen (l : Launch) (D : va_G) (g : Nat → ClassId) (h sz : Nat) (a : Nat → Nat) (w : Int32)  : vz_Mr l D (tyG g) yX9_chosen cX9_chosen 2 0 0 0 0 ((.object "WaysAtlas$RunRecord")) [.ref h, .int w] sz [(h, .inr (9, [.ref (a 0), .ref (a 2), .ref (a 5), .ref (a 27), .ref (a 28), .ref (a 29), .ref (a 30), .ref (a 24), .ref (a 31), .ref (a 32), .ref (a 25), .ref (a 26), .ref (a 33), .ref (a 34), .ref (a 18), .ref (a 10), .int 0]))] (fun u : Unit => if w = 1 then (a 26) else (a 25)) (fun u => [(h, .inr (9, [.ref (a 0), .ref (a 2), .ref (a 5), .ref (a 27), .ref (a 28), .ref (a 29), .ref (a 30), .ref (a 24), .ref (a 31), .ref (a 32), .ref (a 25), .ref (a 26), .ref (a 33), .ref (a 34), .ref (a 18), .ref (a 10), .int 0]))]) := by
  refine vz_sr (by decide) (Nat.le_of_ble_eq_true rfl) (fun p e s m args below meth c hx hb hr hml hts hown hlk hin hK hsz A hA H locs hP hD hS ls hl => ?_)
  have hl : lv_has ls 2 [(0, .ref h), (1, .int w)] := hl
  refine lv_iload_n hx hb dX9_chosen_0 rfl (lv_at hl 1 rfl) ?_
  refine lv_iconst (v := 1) hx hb dX9_chosen_1 (by decide) ?_
  refine lv_icmp_ne (tgt := 12) hx hb dX9_chosen_2 (by decide) (fun kc => ?_) (fun kc => ?_)
  · refine lv_aload_n hx hb dX9_chosen_12 rfl (lv_at hl 0 rfl) ?_
    refine va_get (D := D) (ci := 9) (v := .ref (a 25)) (C := RX9) (T := TX9) (N := 17) hx hb hts inlX9 hown hK hP 0 rfl rfl 10 (by decide) (hts _ q41) (fun _ h => h) rfl dX9_chosen_13 ?_
    exact vz_rret hx hb hr hlk hK hP hD hS () (by rw [if_neg kc]) [0] rfl (by decide) (Nat.le_refl 0) (Nat.le_refl 0) ⟨_, rfl⟩ dX9_chosen_16
  · refine lv_aload_n hx hb dX9_chosen_5 rfl (lv_at hl 0 rfl) ?_
    refine va_get (D := D) (ci := 9) (v := .ref (a 26)) (C := RX9) (T := TX9) (N := 17) hx hb hts inlX9 hown hK hP 0 rfl rfl 11 (by decide) (hts _ q42) (fun _ h => h) rfl dX9_chosen_6 ?_
    refine lv_goto (tgt := 16) hx hb dX9_chosen_9 (by decide) ?_
    exact vz_rret hx hb hr hlk hK hP hD hS () (by rw [if_pos kc]) [0] rfl (by decide) (Nat.le_refl 0) (Nat.le_refl 0) ⟨_, rfl⟩ dX9_chosen_16
theorem q1518 : Cond.methodLink RX9 177 yX9_chosen ∈ wsL_law := mT_6 (List.mem_of_getElem? (i := 20) rfl) rfl
theorem q1519 : Cond.instanceMethod yX9_chosen ∈ wsL_law := mT_6 (List.mem_of_getElem? (i := 22) rfl) rfl
theorem q1520 : Cond.selects RX9 yX9_chosen yX9_chosen ∈ wsL_law := mS_7 (q := (yX9_chosen, 17)) (List.mem_of_getElem? (i := 6) rfl) rfl
theorem q1521 : Cond.code yX9_chosen cX9_chosen 2 (some (.object "WaysAtlas$RunRecord")) ∈ wsL_law := mT_6 (List.mem_of_getElem? (i := 23) rfl) rfl
theorem kv_X9_177 : vz_cv RX9 177 yX9_chosen cX9_chosen 2 (some (.object "WaysAtlas$RunRecord")) 1 := ⟨q1518, q1519, q1520, q2, q1521, by decide +kernel⟩
theorem q282 : Cond.fieldLink RX9 147 "WaysAtlas$RunRecord" "ended" "I" ∈ wsL_law := mT_1 (List.mem_of_getElem? (i := 222) rfl) rfl
theorem dX9_isNoRun_0 : decode cX9_isNoRun 0 = .ok (.iload_n 1, 1) := by decide +kernel
theorem dX9_isNoRun_1 : decode cX9_isNoRun 1 = .ok (.ifCond .lt 21, 3) := by decide +kernel
theorem dX9_isNoRun_4 : decode cX9_isNoRun 4 = .ok (.iload_n 1, 1) := by decide +kernel
theorem dX9_isNoRun_5 : decode cX9_isNoRun 5 = .ok (.iconst 1, 1) := by decide +kernel
theorem dX9_isNoRun_6 : decode cX9_isNoRun 6 = .ok (.if_icmp .gt 16, 3) := by decide +kernel
theorem dX9_isNoRun_9 : decode cX9_isNoRun 9 = .ok (.aload_n 0, 1) := by decide +kernel
theorem dX9_isNoRun_10 : decode cX9_isNoRun 10 = .ok (.iload_n 1, 1) := by decide +kernel
theorem dX9_isNoRun_11 : decode cX9_isNoRun 11 = .ok (.invokevirtual 177, 3) := by decide +kernel
theorem dX9_isNoRun_14 : decode cX9_isNoRun 14 = .ok (.getfield 147, 3) := by decide +kernel
theorem dX9_isNoRun_17 : decode cX9_isNoRun 17 = .ok (.bipush (-9), 2) := by decide +kernel
theorem dX9_isNoRun_19 : decode cX9_isNoRun 19 = .ok (.if_icmp .ne 7, 3) := by decide +kernel
theorem dX9_isNoRun_22 : decode cX9_isNoRun 22 = .ok (.iconst 1, 1) := by decide +kernel
theorem dX9_isNoRun_23 : decode cX9_isNoRun 23 = .ok (.goto 4, 3) := by decide +kernel
theorem dX9_isNoRun_27 : decode cX9_isNoRun 27 = .ok (.ireturn, 1) := by decide +kernel
set_option maxHeartbeats 4000000 in
set_option maxRecDepth 100000 in
theorem c_A_isNoRun0 (l : Launch) (D : va_G) (g : Nat → ClassId) (h sz : Nat) (a : Nat → Nat) (w : Int32)  : vz_Mi l D (tyG g) yX9_isNoRun cX9_isNoRun 2 1 21 0 0 .boolean [.ref h, .int w] sz [(h, .inr (9, [.ref (a 0), .ref (a 2), .ref (a 5), .ref (a 27), .ref (a 28), .ref (a 29), .ref (a 30), .ref (a 24), .ref (a 31), .ref (a 32), .ref (a 25), .ref (a 26), .ref (a 33), .ref (a 34), .ref (a 18), .ref (a 10), .int 0])), ((a 25), .inr (4, [.ref (a 44), .ref (a 45), .ref (a 46), .ref (a 47), .ref (a 48), .int (-9), .int 0, .int 0, .int 0, .int 0, .int 0, .int 0])), ((a 26), .inr (4, [.ref (a 49), .ref (a 50), .ref (a 51), .ref (a 52), .ref (a 53), .int (-9), .int 0, .int 0, .int 0, .int 0, .int 0, .int 0]))] (fun r (u : Unit) => r = 1) (fun u => [(h, .inr (9, [.ref (a 0), .ref (a 2), .ref (a 5), .ref (a 27), .ref (a 28), .ref (a 29), .ref (a 30), .ref (a 24), .ref (a 31), .ref (a 32), .ref (a 25), .ref (a 26), .ref (a 33), .ref (a 34), .ref (a 18), .ref (a 10), .int 0])), ((a 25), .inr (4, [.ref (a 44), .ref (a 45), .ref (a 46), .ref (a 47), .ref (a 48), .int (-9), .int 0, .int 0, .int 0, .int 0, .int 0, .int 0])), ((a 26), .inr (4, [.ref (a 49), .ref (a 50), .ref (a 51), .ref (a 52), .ref (a 53), .int (-9), .int 0, .int 0, .int 0, .int 0, .int 0, .int 0]))]) := by
  refine vz_si (by decide) (Nat.le_of_ble_eq_true rfl) (fun p e s m args below meth c hx hb hr hml hts hown hlk hin hK hsz A hA H locs hP hD hS ls hl => ?_)
  have hl : lv_has ls 2 [(0, .ref h), (1, .int w)] := hl
  refine lv_iload_n hx hb dX9_isNoRun_0 rfl (lv_at hl 1 rfl) ?_
  refine lv_if_lt (tgt := 22) hx hb dX9_isNoRun_1 (by decide) (fun kc => ?_) (fun kc => ?_)
  · refine lv_iconst (v := 1) hx hb dX9_isNoRun_22 (by decide) ?_
    refine lv_goto (tgt := 27) hx hb dX9_isNoRun_23 (by decide) ?_
    exact vz_zret hx hb hr hlk hK hP hD hS (()) (rfl) [0, 1, 2] rfl (by decide) (Nat.le_refl 0) (Nat.le_refl 0) (by decide) dX9_isNoRun_27
  · refine lv_iload_n hx hb dX9_isNoRun_4 rfl (lv_at hl 1 rfl) ?_
    refine lv_iconst (v := 1) hx hb dX9_isNoRun_5 (by decide) ?_
    refine lv_icmp_gt (tgt := 22) hx hb dX9_isNoRun_6 (by decide) (fun kd => ?_) (fun kd => ?_)
    · refine lv_iconst (v := 1) hx hb dX9_isNoRun_22 (by decide) ?_
      refine lv_goto (tgt := 27) hx hb dX9_isNoRun_23 (by decide) ?_
      exact vz_zret hx hb hr hlk hK hP hD hS (()) (rfl) [0, 1, 2] rfl (by decide) (Nat.le_refl 0) (Nat.le_refl 0) (by decide) dX9_isNoRun_27
    · by_cases ke : w = 1
      · refine lv_aload_n hx hb dX9_isNoRun_9 rfl (lv_at hl 0 rfl) ?_
        refine lv_iload_n hx hb dX9_isNoRun_10 rfl (lv_at hl 1 rfl) ?_
        refine vz_Vr (wr := [((a 25), .inr (4, [.ref (a 44), .ref (a 45), .ref (a 46), .ref (a 47), .ref (a 48), .int (-9), .int 0, .int 0, .int 0, .int 0, .int 0, .int 0])), ((a 26), .inr (4, [.ref (a 49), .ref (a 50), .ref (a 51), .ref (a 52), .ref (a 53), .int (-9), .int 0, .int 0, .int 0, .int 0, .int 0, .int 0]))]) (As := [.int w]) (rest := []) hx hb hml hown hts hK hA hP hD hS (c_A_chosen l D g h H.size a w) kv_X9_177 (⟨Nat.le_of_ble_eq_true rfl, Nat.le_of_ble_eq_true rfl⟩) (q0 := 0) (ci := 9) rfl rfl rfl [0] [1, 2] rfl rfl (by decide) hl.1 (Nat.le_of_ble_eq_true rfl) dX9_isNoRun_11 (⟨Nat.le_of_ble_eq_true rfl, Nat.le_of_ble_eq_true rfl⟩) rfl (fun _ rc H locs ec _ hP hD hS => ?_)
        rw [if_pos ke] at ec
        subst ec
        have hP : va_P D vwCl [((a 25), .inr (4, [.ref (a 44), .ref (a 45), .ref (a 46), .ref (a 47), .ref (a 48), .int (-9), .int 0, .int 0, .int 0, .int 0, .int 0, .int 0])), ((a 26), .inr (4, [.ref (a 49), .ref (a 50), .ref (a 51), .ref (a 52), .ref (a 53), .int (-9), .int 0, .int 0, .int 0, .int 0, .int 0, .int 0])), (h, .inr (9, [.ref (a 0), .ref (a 2), .ref (a 5), .ref (a 27), .ref (a 28), .ref (a 29), .ref (a 30), .ref (a 24), .ref (a 31), .ref (a 32), .ref (a 25), .ref (a 26), .ref (a 33), .ref (a 34), .ref (a 18), .ref (a 10), .int 0]))] H := hP
        have hD : va_D A [((a 25), .inr (4, [.ref (a 44), .ref (a 45), .ref (a 46), .ref (a 47), .ref (a 48), .int (-9), .int 0, .int 0, .int 0, .int 0, .int 0, .int 0])), ((a 26), .inr (4, [.ref (a 49), .ref (a 50), .ref (a 51), .ref (a 52), .ref (a 53), .int (-9), .int 0, .int 0, .int 0, .int 0, .int 0, .int 0])), (h, .inr (9, [.ref (a 0), .ref (a 2), .ref (a 5), .ref (a 27), .ref (a 28), .ref (a 29), .ref (a 30), .ref (a 24), .ref (a 31), .ref (a 32), .ref (a 25), .ref (a 26), .ref (a 33), .ref (a 34), .ref (a 18), .ref (a 10), .int 0]))] := hD
        refine va_get (D := D) (ci := 4) (v := .int (-9)) (C := RX4) (T := TX4) (N := 12) hx hb hts inlX4 hown hK hP 1 rfl rfl 5 (by decide) (hts _ q282) (fun _ h => h) rfl dX9_isNoRun_14 ?_
        refine lv_bipush (v := (-9)) hx hb dX9_isNoRun_17 (by decide) ?_
        refine lv_icmp_ne (tgt := 26) hx hb dX9_isNoRun_19 (by decide) (fun h9 => absurd (by decide) h9) (fun _ => ?_)
        refine lv_iconst (v := 1) hx hb dX9_isNoRun_22 (by decide) ?_
        refine lv_goto (tgt := 27) hx hb dX9_isNoRun_23 (by decide) ?_
        exact vz_zret hx hb hr hlk hK hP hD hS (()) (rfl) [2, 0, 1] rfl (by decide) (Nat.le_refl 0) (Nat.le_refl 0) (by decide) dX9_isNoRun_27
      · refine lv_aload_n hx hb dX9_isNoRun_9 rfl (lv_at hl 0 rfl) ?_
        refine lv_iload_n hx hb dX9_isNoRun_10 rfl (lv_at hl 1 rfl) ?_
        refine vz_Vr (wr := [((a 25), .inr (4, [.ref (a 44), .ref (a 45), .ref (a 46), .ref (a 47), .ref (a 48), .int (-9), .int 0, .int 0, .int 0, .int 0, .int 0, .int 0])), ((a 26), .inr (4, [.ref (a 49), .ref (a 50), .ref (a 51), .ref (a 52), .ref (a 53), .int (-9), .int 0, .int 0, .int 0, .int 0, .int 0, .int 0]))]) (As := [.int w]) (rest := []) hx hb hml hown hts hK hA hP hD hS (c_A_chosen l D g h H.size a w) kv_X9_177 (⟨Nat.le_of_ble_eq_true rfl, Nat.le_of_ble_eq_true rfl⟩) (q0 := 0) (ci := 9) rfl rfl rfl [0] [1, 2] rfl rfl (by decide) hl.1 (Nat.le_of_ble_eq_true rfl) dX9_isNoRun_11 (⟨Nat.le_of_ble_eq_true rfl, Nat.le_of_ble_eq_true rfl⟩) rfl (fun _ rc H locs ec _ hP hD hS => ?_)
        rw [if_neg ke] at ec
        subst ec
        have hP : va_P D vwCl [((a 25), .inr (4, [.ref (a 44), .ref (a 45), .ref (a 46), .ref (a 47), .ref (a 48), .int (-9), .int 0, .int 0, .int 0, .int 0, .int 0, .int 0])), ((a 26), .inr (4, [.ref (a 49), .ref (a 50), .ref (a 51), .ref (a 52), .ref (a 53), .int (-9), .int 0, .int 0, .int 0, .int 0, .int 0, .int 0])), (h, .inr (9, [.ref (a 0), .ref (a 2), .ref (a 5), .ref (a 27), .ref (a 28), .ref (a 29), .ref (a 30), .ref (a 24), .ref (a 31), .ref (a 32), .ref (a 25), .ref (a 26), .ref (a 33), .ref (a 34), .ref (a 18), .ref (a 10), .int 0]))] H := hP
        have hD : va_D A [((a 25), .inr (4, [.ref (a 44), .ref (a 45), .ref (a 46), .ref (a 47), .ref (a 48), .int (-9), .int 0, .int 0, .int 0, .int 0, .int 0, .int 0])), ((a 26), .inr (4, [.ref (a 49), .ref (a 50), .ref (a 51), .ref (a 52), .ref (a 53), .int (-9), .int 0, .int 0, .int 0, .int 0, .int 0, .int 0])), (h, .inr (9, [.ref (a 0), .ref (a 2), .ref (a 5), .ref (a 27), .ref (a 28), .ref (a 29), .ref (a 30), .ref (a 24), .ref (a 31), .ref (a 32), .ref (a 25), .ref (a 26), .ref (a 33), .ref (a 34), .ref (a 18), .ref (a 10), .int 0]))] := hD
        refine va_get (D := D) (ci := 4) (v := .int (-9)) (C := RX4) (T := TX4) (N := 12) hx hb hts inlX4 hown hK hP 0 rfl rfl 5 (by decide) (hts _ q282) (fun _ h => h) rfl dX9_isNoRun_14 ?_
        refine lv_bipush (v := (-9)) hx hb dX9_isNoRun_17 (by decide) ?_
        refine lv_icmp_ne (tgt := 26) hx hb dX9_isNoRun_19 (by decide) (fun h9 => absurd (by decide) h9) (fun _ => ?_)
        refine lv_iconst (v := 1) hx hb dX9_isNoRun_22 (by decide) ?_
        refine lv_goto (tgt := 27) hx hb dX9_isNoRun_23 (by decide) ?_
        exact vz_zret hx hb hr hlk hK hP hD hS (()) (rfl) [2, 0, 1] rfl (by decide) (Nat.le_refl 0) (Nat.le_refl 0) (by decide) dX9_isNoRun_27
theorem q1514 : Cond.methodLink RX9 174 yX9_isNoRun ∈ wsL_law := mT_6 (List.mem_of_getElem? (i := 16) rfl) rfl
theorem q1515 : Cond.instanceMethod yX9_isNoRun ∈ wsL_law := mT_6 (List.mem_of_getElem? (i := 18) rfl) rfl
theorem q1516 : Cond.selects RX9 yX9_isNoRun yX9_isNoRun ∈ wsL_law := mS_7 (q := (yX9_isNoRun, 17)) (List.mem_of_getElem? (i := 5) rfl) rfl
theorem q1517 : Cond.code yX9_isNoRun cX9_isNoRun 2 (some .boolean) ∈ wsL_law := mT_6 (List.mem_of_getElem? (i := 19) rfl) rfl
theorem kv_X9_174 : vz_cv RX9 174 yX9_isNoRun cX9_isNoRun 2 (some .boolean) 1 := ⟨q1514, q1515, q1516, q2, q1517, by decide +kernel⟩
theorem dX9_ran_0 : decode cX9_ran 0 = .ok (.aload_n 0, 1) := by decide +kernel
theorem dX9_ran_1 : decode cX9_ran 1 = .ok (.iload_n 1, 1) := by decide +kernel
theorem dX9_ran_2 : decode cX9_ran 2 = .ok (.invokevirtual 174, 3) := by decide +kernel
theorem dX9_ran_5 : decode cX9_ran 5 = .ok (.ifCond .ne 13, 3) := by decide +kernel
theorem dX9_ran_18 : decode cX9_ran 18 = .ok (.iconst (-1), 1) := by decide +kernel
theorem dX9_ran_19 : decode cX9_ran 19 = .ok (.ireturn, 1) := by decide +kernel
set_option maxHeartbeats 4000000 in
set_option maxRecDepth 100000 in
theorem c_A_ran0 (l : Launch) (D : va_G) (g : Nat → ClassId) (h sz : Nat) (a : Nat → Nat) (w i : Int32)  : vz_Mi l D (tyG g) yX9_ran cX9_ran 3 2 42 0 0 .int [.ref h, .int w, .int i] sz [(h, .inr (9, [.ref (a 0), .ref (a 2), .ref (a 5), .ref (a 27), .ref (a 28), .ref (a 29), .ref (a 30), .ref (a 24), .ref (a 31), .ref (a 32), .ref (a 25), .ref (a 26), .ref (a 33), .ref (a 34), .ref (a 18), .ref (a 10), .int 0])), ((a 25), .inr (4, [.ref (a 44), .ref (a 45), .ref (a 46), .ref (a 47), .ref (a 48), .int (-9), .int 0, .int 0, .int 0, .int 0, .int 0, .int 0])), ((a 26), .inr (4, [.ref (a 49), .ref (a 50), .ref (a 51), .ref (a 52), .ref (a 53), .int (-9), .int 0, .int 0, .int 0, .int 0, .int 0, .int 0]))] (fun r (u : Unit) => r = -1) (fun u => [(h, .inr (9, [.ref (a 0), .ref (a 2), .ref (a 5), .ref (a 27), .ref (a 28), .ref (a 29), .ref (a 30), .ref (a 24), .ref (a 31), .ref (a 32), .ref (a 25), .ref (a 26), .ref (a 33), .ref (a 34), .ref (a 18), .ref (a 10), .int 0])), ((a 25), .inr (4, [.ref (a 44), .ref (a 45), .ref (a 46), .ref (a 47), .ref (a 48), .int (-9), .int 0, .int 0, .int 0, .int 0, .int 0, .int 0])), ((a 26), .inr (4, [.ref (a 49), .ref (a 50), .ref (a 51), .ref (a 52), .ref (a 53), .int (-9), .int 0, .int 0, .int 0, .int 0, .int 0, .int 0]))]) := by
  refine vz_si (by decide) (Nat.le_of_ble_eq_true rfl) (fun p e s m args below meth c hx hb hr hml hts hown hlk hin hK hsz A hA H locs hP hD hS ls hl => ?_)
  have hl : lv_has ls 3 [(0, .ref h), (1, .int w), (2, .int i)] := hl
  refine lv_aload_n hx hb dX9_ran_0 rfl (lv_at hl 0 rfl) ?_
  refine lv_iload_n hx hb dX9_ran_1 rfl (lv_at hl 1 rfl) ?_
  refine vz_Vi (wr := []) (As := [.int w]) (rest := []) hx hb hml hown hts hK hA hP hD hS (c_A_isNoRun0 l D g h H.size a w) kv_X9_174 (⟨Nat.le_of_ble_eq_true rfl, Nat.le_of_ble_eq_true rfl⟩) (q0 := 0) (ci := 9) rfl rfl rfl [0, 1, 2] [] rfl rfl (by decide) hl.1 (Nat.le_of_ble_eq_true rfl) dX9_ran_2 (⟨Nat.le_of_ble_eq_true rfl, Nat.le_of_ble_eq_true rfl⟩) rfl (fun r1 _ H locs e2 _ hP hD hS => ?_)
  subst e2
  have hP : va_P D vwCl [(h, .inr (9, [.ref (a 0), .ref (a 2), .ref (a 5), .ref (a 27), .ref (a 28), .ref (a 29), .ref (a 30), .ref (a 24), .ref (a 31), .ref (a 32), .ref (a 25), .ref (a 26), .ref (a 33), .ref (a 34), .ref (a 18), .ref (a 10), .int 0])), ((a 25), .inr (4, [.ref (a 44), .ref (a 45), .ref (a 46), .ref (a 47), .ref (a 48), .int (-9), .int 0, .int 0, .int 0, .int 0, .int 0, .int 0])), ((a 26), .inr (4, [.ref (a 49), .ref (a 50), .ref (a 51), .ref (a 52), .ref (a 53), .int (-9), .int 0, .int 0, .int 0, .int 0, .int 0, .int 0]))] H := hP
  have hD : va_D A [(h, .inr (9, [.ref (a 0), .ref (a 2), .ref (a 5), .ref (a 27), .ref (a 28), .ref (a 29), .ref (a 30), .ref (a 24), .ref (a 31), .ref (a 32), .ref (a 25), .ref (a 26), .ref (a 33), .ref (a 34), .ref (a 18), .ref (a 10), .int 0])), ((a 25), .inr (4, [.ref (a 44), .ref (a 45), .ref (a 46), .ref (a 47), .ref (a 48), .int (-9), .int 0, .int 0, .int 0, .int 0, .int 0, .int 0])), ((a 26), .inr (4, [.ref (a 49), .ref (a 50), .ref (a 51), .ref (a 52), .ref (a 53), .int (-9), .int 0, .int 0, .int 0, .int 0, .int 0, .int 0]))] := hD
  refine lv_if_ne (tgt := 18) hx hb dX9_ran_5 (by decide) (fun _ => ?_) (fun h9 => absurd h9 (by decide))
  refine lv_iconst (v := (-1)) hx hb dX9_ran_18 (by decide) ?_
  exact vz_iret hx hb hr hlk hK hP hD hS (()) (rfl) [0, 1, 2] rfl (by decide) (Nat.le_refl 0) (Nat.le_refl 0) dX9_ran_19
theorem dX9_mark_0 : decode cX9_mark 0 = .ok (.aload_n 0, 1) := by decide +kernel
theorem dX9_mark_1 : decode cX9_mark 1 = .ok (.iload_n 1, 1) := by decide +kernel
theorem dX9_mark_2 : decode cX9_mark 2 = .ok (.invokevirtual 174, 3) := by decide +kernel
theorem dX9_mark_5 : decode cX9_mark 5 = .ok (.ifCond .eq 7, 3) := by decide +kernel
theorem dX9_mark_8 : decode cX9_mark 8 = .ok (.iconst (-1), 1) := by decide +kernel
theorem dX9_mark_9 : decode cX9_mark 9 = .ok (.goto 16, 3) := by decide +kernel
theorem dX9_mark_25 : decode cX9_mark 25 = .ok (.ireturn, 1) := by decide +kernel
set_option maxHeartbeats 4000000 in
set_option maxRecDepth 100000 in
theorem c_A_mark0 (l : Launch) (D : va_G) (g : Nat → ClassId) (h sz : Nat) (a : Nat → Nat) (w i : Int32)  : vz_Mi l D (tyG g) yX9_mark cX9_mark 3 2 42 0 0 .int [.ref h, .int w, .int i] sz [(h, .inr (9, [.ref (a 0), .ref (a 2), .ref (a 5), .ref (a 27), .ref (a 28), .ref (a 29), .ref (a 30), .ref (a 24), .ref (a 31), .ref (a 32), .ref (a 25), .ref (a 26), .ref (a 33), .ref (a 34), .ref (a 18), .ref (a 10), .int 0])), ((a 25), .inr (4, [.ref (a 44), .ref (a 45), .ref (a 46), .ref (a 47), .ref (a 48), .int (-9), .int 0, .int 0, .int 0, .int 0, .int 0, .int 0])), ((a 26), .inr (4, [.ref (a 49), .ref (a 50), .ref (a 51), .ref (a 52), .ref (a 53), .int (-9), .int 0, .int 0, .int 0, .int 0, .int 0, .int 0]))] (fun r (u : Unit) => r = -1) (fun u => [(h, .inr (9, [.ref (a 0), .ref (a 2), .ref (a 5), .ref (a 27), .ref (a 28), .ref (a 29), .ref (a 30), .ref (a 24), .ref (a 31), .ref (a 32), .ref (a 25), .ref (a 26), .ref (a 33), .ref (a 34), .ref (a 18), .ref (a 10), .int 0])), ((a 25), .inr (4, [.ref (a 44), .ref (a 45), .ref (a 46), .ref (a 47), .ref (a 48), .int (-9), .int 0, .int 0, .int 0, .int 0, .int 0, .int 0])), ((a 26), .inr (4, [.ref (a 49), .ref (a 50), .ref (a 51), .ref (a 52), .ref (a 53), .int (-9), .int 0, .int 0, .int 0, .int 0, .int 0, .int 0]))]) := by
  refine vz_si (by decide) (Nat.le_of_ble_eq_true rfl) (fun p e s m args below meth c hx hb hr hml hts hown hlk hin hK hsz A hA H locs hP hD hS ls hl => ?_)
  have hl : lv_has ls 3 [(0, .ref h), (1, .int w), (2, .int i)] := hl
  refine lv_aload_n hx hb dX9_mark_0 rfl (lv_at hl 0 rfl) ?_
  refine lv_iload_n hx hb dX9_mark_1 rfl (lv_at hl 1 rfl) ?_
  refine vz_Vi (wr := []) (As := [.int w]) (rest := []) hx hb hml hown hts hK hA hP hD hS (c_A_isNoRun0 l D g h H.size a w) kv_X9_174 (⟨Nat.le_of_ble_eq_true rfl, Nat.le_of_ble_eq_true rfl⟩) (q0 := 0) (ci := 9) rfl rfl rfl [0, 1, 2] [] rfl rfl (by decide) hl.1 (Nat.le_of_ble_eq_true rfl) dX9_mark_2 (⟨Nat.le_of_ble_eq_true rfl, Nat.le_of_ble_eq_true rfl⟩) rfl (fun r1 _ H locs e2 _ hP hD hS => ?_)
  subst e2
  have hP : va_P D vwCl [(h, .inr (9, [.ref (a 0), .ref (a 2), .ref (a 5), .ref (a 27), .ref (a 28), .ref (a 29), .ref (a 30), .ref (a 24), .ref (a 31), .ref (a 32), .ref (a 25), .ref (a 26), .ref (a 33), .ref (a 34), .ref (a 18), .ref (a 10), .int 0])), ((a 25), .inr (4, [.ref (a 44), .ref (a 45), .ref (a 46), .ref (a 47), .ref (a 48), .int (-9), .int 0, .int 0, .int 0, .int 0, .int 0, .int 0])), ((a 26), .inr (4, [.ref (a 49), .ref (a 50), .ref (a 51), .ref (a 52), .ref (a 53), .int (-9), .int 0, .int 0, .int 0, .int 0, .int 0, .int 0]))] H := hP
  have hD : va_D A [(h, .inr (9, [.ref (a 0), .ref (a 2), .ref (a 5), .ref (a 27), .ref (a 28), .ref (a 29), .ref (a 30), .ref (a 24), .ref (a 31), .ref (a 32), .ref (a 25), .ref (a 26), .ref (a 33), .ref (a 34), .ref (a 18), .ref (a 10), .int 0])), ((a 25), .inr (4, [.ref (a 44), .ref (a 45), .ref (a 46), .ref (a 47), .ref (a 48), .int (-9), .int 0, .int 0, .int 0, .int 0, .int 0, .int 0])), ((a 26), .inr (4, [.ref (a 49), .ref (a 50), .ref (a 51), .ref (a 52), .ref (a 53), .int (-9), .int 0, .int 0, .int 0, .int 0, .int 0, .int 0]))] := hD
  refine lv_if_eq (tgt := 12) hx hb dX9_mark_5 (by decide) (fun h9 => absurd h9 (by decide)) (fun _ => ?_)
  refine lv_iconst (v := (-1)) hx hb dX9_mark_8 (by decide) ?_
  refine lv_goto (tgt := 25) hx hb dX9_mark_9 (by decide) ?_
  exact vz_iret hx hb hr hlk hK hP hD hS (()) (rfl) [0, 1, 2] rfl (by decide) (Nat.le_refl 0) (Nat.le_refl 0) dX9_mark_25
theorem dX9_failure_0 : decode cX9_failure 0 = .ok (.aload_n 0, 1) := by decide +kernel
theorem dX9_failure_1 : decode cX9_failure 1 = .ok (.iload_n 1, 1) := by decide +kernel
theorem dX9_failure_2 : decode cX9_failure 2 = .ok (.invokevirtual 174, 3) := by decide +kernel
theorem dX9_failure_5 : decode cX9_failure 5 = .ok (.ifCond .ne 12, 3) := by decide +kernel
theorem dX9_failure_17 : decode cX9_failure 17 = .ok (.iconst (-1), 1) := by decide +kernel
theorem dX9_failure_18 : decode cX9_failure 18 = .ok (.ireturn, 1) := by decide +kernel
set_option maxHeartbeats 4000000 in
set_option maxRecDepth 100000 in
theorem c_A_failure0 (l : Launch) (D : va_G) (g : Nat → ClassId) (h sz : Nat) (a : Nat → Nat) (w i j : Int32)  : vz_Mi l D (tyG g) yX9_failure cX9_failure 4 2 42 0 0 .int [.ref h, .int w, .int i, .int j] sz [(h, .inr (9, [.ref (a 0), .ref (a 2), .ref (a 5), .ref (a 27), .ref (a 28), .ref (a 29), .ref (a 30), .ref (a 24), .ref (a 31), .ref (a 32), .ref (a 25), .ref (a 26), .ref (a 33), .ref (a 34), .ref (a 18), .ref (a 10), .int 0])), ((a 25), .inr (4, [.ref (a 44), .ref (a 45), .ref (a 46), .ref (a 47), .ref (a 48), .int (-9), .int 0, .int 0, .int 0, .int 0, .int 0, .int 0])), ((a 26), .inr (4, [.ref (a 49), .ref (a 50), .ref (a 51), .ref (a 52), .ref (a 53), .int (-9), .int 0, .int 0, .int 0, .int 0, .int 0, .int 0]))] (fun r (u : Unit) => r = -1) (fun u => [(h, .inr (9, [.ref (a 0), .ref (a 2), .ref (a 5), .ref (a 27), .ref (a 28), .ref (a 29), .ref (a 30), .ref (a 24), .ref (a 31), .ref (a 32), .ref (a 25), .ref (a 26), .ref (a 33), .ref (a 34), .ref (a 18), .ref (a 10), .int 0])), ((a 25), .inr (4, [.ref (a 44), .ref (a 45), .ref (a 46), .ref (a 47), .ref (a 48), .int (-9), .int 0, .int 0, .int 0, .int 0, .int 0, .int 0])), ((a 26), .inr (4, [.ref (a 49), .ref (a 50), .ref (a 51), .ref (a 52), .ref (a 53), .int (-9), .int 0, .int 0, .int 0, .int 0, .int 0, .int 0]))]) := by
  refine vz_si (by decide) (Nat.le_of_ble_eq_true rfl) (fun p e s m args below meth c hx hb hr hml hts hown hlk hin hK hsz A hA H locs hP hD hS ls hl => ?_)
  have hl : lv_has ls 4 [(0, .ref h), (1, .int w), (2, .int i), (3, .int j)] := hl
  refine lv_aload_n hx hb dX9_failure_0 rfl (lv_at hl 0 rfl) ?_
  refine lv_iload_n hx hb dX9_failure_1 rfl (lv_at hl 1 rfl) ?_
  refine vz_Vi (wr := []) (As := [.int w]) (rest := []) hx hb hml hown hts hK hA hP hD hS (c_A_isNoRun0 l D g h H.size a w) kv_X9_174 (⟨Nat.le_of_ble_eq_true rfl, Nat.le_of_ble_eq_true rfl⟩) (q0 := 0) (ci := 9) rfl rfl rfl [0, 1, 2] [] rfl rfl (by decide) hl.1 (Nat.le_of_ble_eq_true rfl) dX9_failure_2 (⟨Nat.le_of_ble_eq_true rfl, Nat.le_of_ble_eq_true rfl⟩) rfl (fun r1 _ H locs e2 _ hP hD hS => ?_)
  subst e2
  have hP : va_P D vwCl [(h, .inr (9, [.ref (a 0), .ref (a 2), .ref (a 5), .ref (a 27), .ref (a 28), .ref (a 29), .ref (a 30), .ref (a 24), .ref (a 31), .ref (a 32), .ref (a 25), .ref (a 26), .ref (a 33), .ref (a 34), .ref (a 18), .ref (a 10), .int 0])), ((a 25), .inr (4, [.ref (a 44), .ref (a 45), .ref (a 46), .ref (a 47), .ref (a 48), .int (-9), .int 0, .int 0, .int 0, .int 0, .int 0, .int 0])), ((a 26), .inr (4, [.ref (a 49), .ref (a 50), .ref (a 51), .ref (a 52), .ref (a 53), .int (-9), .int 0, .int 0, .int 0, .int 0, .int 0, .int 0]))] H := hP
  have hD : va_D A [(h, .inr (9, [.ref (a 0), .ref (a 2), .ref (a 5), .ref (a 27), .ref (a 28), .ref (a 29), .ref (a 30), .ref (a 24), .ref (a 31), .ref (a 32), .ref (a 25), .ref (a 26), .ref (a 33), .ref (a 34), .ref (a 18), .ref (a 10), .int 0])), ((a 25), .inr (4, [.ref (a 44), .ref (a 45), .ref (a 46), .ref (a 47), .ref (a 48), .int (-9), .int 0, .int 0, .int 0, .int 0, .int 0, .int 0])), ((a 26), .inr (4, [.ref (a 49), .ref (a 50), .ref (a 51), .ref (a 52), .ref (a 53), .int (-9), .int 0, .int 0, .int 0, .int 0, .int 0, .int 0]))] := hD
  refine lv_if_ne (tgt := 17) hx hb dX9_failure_5 (by decide) (fun _ => ?_) (fun h9 => absurd h9 (by decide))
  refine lv_iconst (v := (-1)) hx hb dX9_failure_17 (by decide) ?_
  exact vz_iret hx hb hr hlk hK hP hD hS (()) (rfl) [0, 1, 2] rfl (by decide) (Nat.le_refl 0) (Nat.le_refl 0) dX9_failure_18
theorem dX9_trace_0 : decode cX9_trace 0 = .ok (.aload_n 0, 1) := by decide +kernel
theorem dX9_trace_1 : decode cX9_trace 1 = .ok (.iload_n 1, 1) := by decide +kernel
theorem dX9_trace_2 : decode cX9_trace 2 = .ok (.invokevirtual 174, 3) := by decide +kernel
theorem dX9_trace_5 : decode cX9_trace 5 = .ok (.ifCond .eq 7, 3) := by decide +kernel
theorem dX9_trace_8 : decode cX9_trace 8 = .ok (.iconst (-1), 1) := by decide +kernel
theorem dX9_trace_9 : decode cX9_trace 9 = .ok (.goto 13, 3) := by decide +kernel
theorem dX9_trace_22 : decode cX9_trace 22 = .ok (.ireturn, 1) := by decide +kernel
set_option maxHeartbeats 4000000 in
set_option maxRecDepth 100000 in
theorem c_A_trace0 (l : Launch) (D : va_G) (g : Nat → ClassId) (h sz : Nat) (a : Nat → Nat) (w i j : Int32)  : vz_Mi l D (tyG g) yX9_trace cX9_trace 4 2 42 0 0 .int [.ref h, .int w, .int i, .int j] sz [(h, .inr (9, [.ref (a 0), .ref (a 2), .ref (a 5), .ref (a 27), .ref (a 28), .ref (a 29), .ref (a 30), .ref (a 24), .ref (a 31), .ref (a 32), .ref (a 25), .ref (a 26), .ref (a 33), .ref (a 34), .ref (a 18), .ref (a 10), .int 0])), ((a 25), .inr (4, [.ref (a 44), .ref (a 45), .ref (a 46), .ref (a 47), .ref (a 48), .int (-9), .int 0, .int 0, .int 0, .int 0, .int 0, .int 0])), ((a 26), .inr (4, [.ref (a 49), .ref (a 50), .ref (a 51), .ref (a 52), .ref (a 53), .int (-9), .int 0, .int 0, .int 0, .int 0, .int 0, .int 0]))] (fun r (u : Unit) => r = -1) (fun u => [(h, .inr (9, [.ref (a 0), .ref (a 2), .ref (a 5), .ref (a 27), .ref (a 28), .ref (a 29), .ref (a 30), .ref (a 24), .ref (a 31), .ref (a 32), .ref (a 25), .ref (a 26), .ref (a 33), .ref (a 34), .ref (a 18), .ref (a 10), .int 0])), ((a 25), .inr (4, [.ref (a 44), .ref (a 45), .ref (a 46), .ref (a 47), .ref (a 48), .int (-9), .int 0, .int 0, .int 0, .int 0, .int 0, .int 0])), ((a 26), .inr (4, [.ref (a 49), .ref (a 50), .ref (a 51), .ref (a 52), .ref (a 53), .int (-9), .int 0, .int 0, .int 0, .int 0, .int 0, .int 0]))]) := by
  refine vz_si (by decide) (Nat.le_of_ble_eq_true rfl) (fun p e s m args below meth c hx hb hr hml hts hown hlk hin hK hsz A hA H locs hP hD hS ls hl => ?_)
  have hl : lv_has ls 4 [(0, .ref h), (1, .int w), (2, .int i), (3, .int j)] := hl
  refine lv_aload_n hx hb dX9_trace_0 rfl (lv_at hl 0 rfl) ?_
  refine lv_iload_n hx hb dX9_trace_1 rfl (lv_at hl 1 rfl) ?_
  refine vz_Vi (wr := []) (As := [.int w]) (rest := []) hx hb hml hown hts hK hA hP hD hS (c_A_isNoRun0 l D g h H.size a w) kv_X9_174 (⟨Nat.le_of_ble_eq_true rfl, Nat.le_of_ble_eq_true rfl⟩) (q0 := 0) (ci := 9) rfl rfl rfl [0, 1, 2] [] rfl rfl (by decide) hl.1 (Nat.le_of_ble_eq_true rfl) dX9_trace_2 (⟨Nat.le_of_ble_eq_true rfl, Nat.le_of_ble_eq_true rfl⟩) rfl (fun r1 _ H locs e2 _ hP hD hS => ?_)
  subst e2
  have hP : va_P D vwCl [(h, .inr (9, [.ref (a 0), .ref (a 2), .ref (a 5), .ref (a 27), .ref (a 28), .ref (a 29), .ref (a 30), .ref (a 24), .ref (a 31), .ref (a 32), .ref (a 25), .ref (a 26), .ref (a 33), .ref (a 34), .ref (a 18), .ref (a 10), .int 0])), ((a 25), .inr (4, [.ref (a 44), .ref (a 45), .ref (a 46), .ref (a 47), .ref (a 48), .int (-9), .int 0, .int 0, .int 0, .int 0, .int 0, .int 0])), ((a 26), .inr (4, [.ref (a 49), .ref (a 50), .ref (a 51), .ref (a 52), .ref (a 53), .int (-9), .int 0, .int 0, .int 0, .int 0, .int 0, .int 0]))] H := hP
  have hD : va_D A [(h, .inr (9, [.ref (a 0), .ref (a 2), .ref (a 5), .ref (a 27), .ref (a 28), .ref (a 29), .ref (a 30), .ref (a 24), .ref (a 31), .ref (a 32), .ref (a 25), .ref (a 26), .ref (a 33), .ref (a 34), .ref (a 18), .ref (a 10), .int 0])), ((a 25), .inr (4, [.ref (a 44), .ref (a 45), .ref (a 46), .ref (a 47), .ref (a 48), .int (-9), .int 0, .int 0, .int 0, .int 0, .int 0, .int 0])), ((a 26), .inr (4, [.ref (a 49), .ref (a 50), .ref (a 51), .ref (a 52), .ref (a 53), .int (-9), .int 0, .int 0, .int 0, .int 0, .int 0, .int 0]))] := hD
  refine lv_if_eq (tgt := 12) hx hb dX9_trace_5 (by decide) (fun h9 => absurd h9 (by decide)) (fun _ => ?_)
  refine lv_iconst (v := (-1)) hx hb dX9_trace_8 (by decide) ?_
  refine lv_goto (tgt := 22) hx hb dX9_trace_9 (by decide) ?_
  exact vz_iret hx hb hr hlk hK hP hD hS (()) (rfl) [0, 1, 2] rfl (by decide) (Nat.le_refl 0) (Nat.le_refl 0) dX9_trace_22
theorem dX9_closed_0 : decode cX9_closed 0 = .ok (.aload_n 0, 1) := by decide +kernel
theorem dX9_closed_1 : decode cX9_closed 1 = .ok (.iload_n 1, 1) := by decide +kernel
theorem dX9_closed_2 : decode cX9_closed 2 = .ok (.invokevirtual 174, 3) := by decide +kernel
theorem dX9_closed_5 : decode cX9_closed 5 = .ok (.ifCond .eq 7, 3) := by decide +kernel
theorem dX9_closed_8 : decode cX9_closed 8 = .ok (.iconst (-1), 1) := by decide +kernel
theorem dX9_closed_9 : decode cX9_closed 9 = .ok (.goto 16, 3) := by decide +kernel
theorem dX9_closed_25 : decode cX9_closed 25 = .ok (.ireturn, 1) := by decide +kernel
set_option maxHeartbeats 4000000 in
set_option maxRecDepth 100000 in
theorem c_A_closed0 (l : Launch) (D : va_G) (g : Nat → ClassId) (h sz : Nat) (a : Nat → Nat) (w i : Int32)  : vz_Mi l D (tyG g) yX9_closed cX9_closed 3 2 42 0 0 .int [.ref h, .int w, .int i] sz [(h, .inr (9, [.ref (a 0), .ref (a 2), .ref (a 5), .ref (a 27), .ref (a 28), .ref (a 29), .ref (a 30), .ref (a 24), .ref (a 31), .ref (a 32), .ref (a 25), .ref (a 26), .ref (a 33), .ref (a 34), .ref (a 18), .ref (a 10), .int 0])), ((a 25), .inr (4, [.ref (a 44), .ref (a 45), .ref (a 46), .ref (a 47), .ref (a 48), .int (-9), .int 0, .int 0, .int 0, .int 0, .int 0, .int 0])), ((a 26), .inr (4, [.ref (a 49), .ref (a 50), .ref (a 51), .ref (a 52), .ref (a 53), .int (-9), .int 0, .int 0, .int 0, .int 0, .int 0, .int 0]))] (fun r (u : Unit) => r = -1) (fun u => [(h, .inr (9, [.ref (a 0), .ref (a 2), .ref (a 5), .ref (a 27), .ref (a 28), .ref (a 29), .ref (a 30), .ref (a 24), .ref (a 31), .ref (a 32), .ref (a 25), .ref (a 26), .ref (a 33), .ref (a 34), .ref (a 18), .ref (a 10), .int 0])), ((a 25), .inr (4, [.ref (a 44), .ref (a 45), .ref (a 46), .ref (a 47), .ref (a 48), .int (-9), .int 0, .int 0, .int 0, .int 0, .int 0, .int 0])), ((a 26), .inr (4, [.ref (a 49), .ref (a 50), .ref (a 51), .ref (a 52), .ref (a 53), .int (-9), .int 0, .int 0, .int 0, .int 0, .int 0, .int 0]))]) := by
  refine vz_si (by decide) (Nat.le_of_ble_eq_true rfl) (fun p e s m args below meth c hx hb hr hml hts hown hlk hin hK hsz A hA H locs hP hD hS ls hl => ?_)
  have hl : lv_has ls 3 [(0, .ref h), (1, .int w), (2, .int i)] := hl
  refine lv_aload_n hx hb dX9_closed_0 rfl (lv_at hl 0 rfl) ?_
  refine lv_iload_n hx hb dX9_closed_1 rfl (lv_at hl 1 rfl) ?_
  refine vz_Vi (wr := []) (As := [.int w]) (rest := []) hx hb hml hown hts hK hA hP hD hS (c_A_isNoRun0 l D g h H.size a w) kv_X9_174 (⟨Nat.le_of_ble_eq_true rfl, Nat.le_of_ble_eq_true rfl⟩) (q0 := 0) (ci := 9) rfl rfl rfl [0, 1, 2] [] rfl rfl (by decide) hl.1 (Nat.le_of_ble_eq_true rfl) dX9_closed_2 (⟨Nat.le_of_ble_eq_true rfl, Nat.le_of_ble_eq_true rfl⟩) rfl (fun r1 _ H locs e2 _ hP hD hS => ?_)
  subst e2
  have hP : va_P D vwCl [(h, .inr (9, [.ref (a 0), .ref (a 2), .ref (a 5), .ref (a 27), .ref (a 28), .ref (a 29), .ref (a 30), .ref (a 24), .ref (a 31), .ref (a 32), .ref (a 25), .ref (a 26), .ref (a 33), .ref (a 34), .ref (a 18), .ref (a 10), .int 0])), ((a 25), .inr (4, [.ref (a 44), .ref (a 45), .ref (a 46), .ref (a 47), .ref (a 48), .int (-9), .int 0, .int 0, .int 0, .int 0, .int 0, .int 0])), ((a 26), .inr (4, [.ref (a 49), .ref (a 50), .ref (a 51), .ref (a 52), .ref (a 53), .int (-9), .int 0, .int 0, .int 0, .int 0, .int 0, .int 0]))] H := hP
  have hD : va_D A [(h, .inr (9, [.ref (a 0), .ref (a 2), .ref (a 5), .ref (a 27), .ref (a 28), .ref (a 29), .ref (a 30), .ref (a 24), .ref (a 31), .ref (a 32), .ref (a 25), .ref (a 26), .ref (a 33), .ref (a 34), .ref (a 18), .ref (a 10), .int 0])), ((a 25), .inr (4, [.ref (a 44), .ref (a 45), .ref (a 46), .ref (a 47), .ref (a 48), .int (-9), .int 0, .int 0, .int 0, .int 0, .int 0, .int 0])), ((a 26), .inr (4, [.ref (a 49), .ref (a 50), .ref (a 51), .ref (a 52), .ref (a 53), .int (-9), .int 0, .int 0, .int 0, .int 0, .int 0, .int 0]))] := hD
  refine lv_if_eq (tgt := 12) hx hb dX9_closed_5 (by decide) (fun h9 => absurd h9 (by decide)) (fun _ => ?_)
  refine lv_iconst (v := (-1)) hx hb dX9_closed_8 (by decide) ?_
  refine lv_goto (tgt := 25) hx hb dX9_closed_9 (by decide) ?_
  exact vz_iret hx hb hr hlk hK hP hD hS (()) (rfl) [0, 1, 2] rfl (by decide) (Nat.le_refl 0) (Nat.le_refl 0) dX9_closed_25
theorem dX9_entered_0 : decode cX9_entered 0 = .ok (.aload_n 0, 1) := by decide +kernel
theorem dX9_entered_1 : decode cX9_entered 1 = .ok (.iload_n 1, 1) := by decide +kernel
theorem dX9_entered_2 : decode cX9_entered 2 = .ok (.invokevirtual 174, 3) := by decide +kernel
theorem dX9_entered_5 : decode cX9_entered 5 = .ok (.ifCond .ne 20, 3) := by decide +kernel
theorem dX9_entered_25 : decode cX9_entered 25 = .ok (.iconst (-1), 1) := by decide +kernel
theorem dX9_entered_26 : decode cX9_entered 26 = .ok (.ireturn, 1) := by decide +kernel
set_option maxHeartbeats 4000000 in
set_option maxRecDepth 100000 in
theorem c_A_entered0 (l : Launch) (D : va_G) (g : Nat → ClassId) (h sz : Nat) (a : Nat → Nat) (w i : Int32)  : vz_Mi l D (tyG g) yX9_entered cX9_entered 3 2 42 0 0 .int [.ref h, .int w, .int i] sz [(h, .inr (9, [.ref (a 0), .ref (a 2), .ref (a 5), .ref (a 27), .ref (a 28), .ref (a 29), .ref (a 30), .ref (a 24), .ref (a 31), .ref (a 32), .ref (a 25), .ref (a 26), .ref (a 33), .ref (a 34), .ref (a 18), .ref (a 10), .int 0])), ((a 25), .inr (4, [.ref (a 44), .ref (a 45), .ref (a 46), .ref (a 47), .ref (a 48), .int (-9), .int 0, .int 0, .int 0, .int 0, .int 0, .int 0])), ((a 26), .inr (4, [.ref (a 49), .ref (a 50), .ref (a 51), .ref (a 52), .ref (a 53), .int (-9), .int 0, .int 0, .int 0, .int 0, .int 0, .int 0]))] (fun r (u : Unit) => r = -1) (fun u => [(h, .inr (9, [.ref (a 0), .ref (a 2), .ref (a 5), .ref (a 27), .ref (a 28), .ref (a 29), .ref (a 30), .ref (a 24), .ref (a 31), .ref (a 32), .ref (a 25), .ref (a 26), .ref (a 33), .ref (a 34), .ref (a 18), .ref (a 10), .int 0])), ((a 25), .inr (4, [.ref (a 44), .ref (a 45), .ref (a 46), .ref (a 47), .ref (a 48), .int (-9), .int 0, .int 0, .int 0, .int 0, .int 0, .int 0])), ((a 26), .inr (4, [.ref (a 49), .ref (a 50), .ref (a 51), .ref (a 52), .ref (a 53), .int (-9), .int 0, .int 0, .int 0, .int 0, .int 0, .int 0]))]) := by
  refine vz_si (by decide) (Nat.le_of_ble_eq_true rfl) (fun p e s m args below meth c hx hb hr hml hts hown hlk hin hK hsz A hA H locs hP hD hS ls hl => ?_)
  have hl : lv_has ls 3 [(0, .ref h), (1, .int w), (2, .int i)] := hl
  refine lv_aload_n hx hb dX9_entered_0 rfl (lv_at hl 0 rfl) ?_
  refine lv_iload_n hx hb dX9_entered_1 rfl (lv_at hl 1 rfl) ?_
  refine vz_Vi (wr := []) (As := [.int w]) (rest := []) hx hb hml hown hts hK hA hP hD hS (c_A_isNoRun0 l D g h H.size a w) kv_X9_174 (⟨Nat.le_of_ble_eq_true rfl, Nat.le_of_ble_eq_true rfl⟩) (q0 := 0) (ci := 9) rfl rfl rfl [0, 1, 2] [] rfl rfl (by decide) hl.1 (Nat.le_of_ble_eq_true rfl) dX9_entered_2 (⟨Nat.le_of_ble_eq_true rfl, Nat.le_of_ble_eq_true rfl⟩) rfl (fun r1 _ H locs e2 _ hP hD hS => ?_)
  subst e2
  have hP : va_P D vwCl [(h, .inr (9, [.ref (a 0), .ref (a 2), .ref (a 5), .ref (a 27), .ref (a 28), .ref (a 29), .ref (a 30), .ref (a 24), .ref (a 31), .ref (a 32), .ref (a 25), .ref (a 26), .ref (a 33), .ref (a 34), .ref (a 18), .ref (a 10), .int 0])), ((a 25), .inr (4, [.ref (a 44), .ref (a 45), .ref (a 46), .ref (a 47), .ref (a 48), .int (-9), .int 0, .int 0, .int 0, .int 0, .int 0, .int 0])), ((a 26), .inr (4, [.ref (a 49), .ref (a 50), .ref (a 51), .ref (a 52), .ref (a 53), .int (-9), .int 0, .int 0, .int 0, .int 0, .int 0, .int 0]))] H := hP
  have hD : va_D A [(h, .inr (9, [.ref (a 0), .ref (a 2), .ref (a 5), .ref (a 27), .ref (a 28), .ref (a 29), .ref (a 30), .ref (a 24), .ref (a 31), .ref (a 32), .ref (a 25), .ref (a 26), .ref (a 33), .ref (a 34), .ref (a 18), .ref (a 10), .int 0])), ((a 25), .inr (4, [.ref (a 44), .ref (a 45), .ref (a 46), .ref (a 47), .ref (a 48), .int (-9), .int 0, .int 0, .int 0, .int 0, .int 0, .int 0])), ((a 26), .inr (4, [.ref (a 49), .ref (a 50), .ref (a 51), .ref (a 52), .ref (a 53), .int (-9), .int 0, .int 0, .int 0, .int 0, .int 0, .int 0]))] := hD
  refine lv_if_ne (tgt := 25) hx hb dX9_entered_5 (by decide) (fun _ => ?_) (fun h9 => absurd h9 (by decide))
  refine lv_iconst (v := (-1)) hx hb dX9_entered_25 (by decide) ?_
  exact vz_iret hx hb hr hlk hK hP hD hS (()) (rfl) [0, 1, 2] rfl (by decide) (Nat.le_refl 0) (Nat.le_refl 0) dX9_entered_26
theorem q966 : Cond.fieldLink RX9 159 "WaysAtlas$Program" "catches" "LWaysAtlas$Table;" ∈ wsL_law := mT_1 (List.mem_of_getElem? (i := 92) rfl) rfl
theorem dX9_handler_0 : decode cX9_handler 0 = .ok (.iload_n 1, 1) := by decide +kernel
theorem dX9_handler_1 : decode cX9_handler 1 = .ok (.ifCond .lt 26, 3) := by decide +kernel
theorem dX9_handler_4 : decode cX9_handler 4 = .ok (.iload_n 1, 1) := by decide +kernel
theorem dX9_handler_5 : decode cX9_handler 5 = .ok (.aload_n 0, 1) := by decide +kernel
theorem dX9_handler_6 : decode cX9_handler 6 = .ok (.getfield 28, 3) := by decide +kernel
theorem dX9_handler_9 : decode cX9_handler 9 = .ok (.getfield 159, 3) := by decide +kernel
theorem dX9_handler_12 : decode cX9_handler 12 = .ok (.getfield 118, 3) := by decide +kernel
theorem dX9_handler_15 : decode cX9_handler 15 = .ok (.if_icmp .ge 12, 3) := by decide +kernel
theorem dX9_handler_27 : decode cX9_handler 27 = .ok (.iconst (-1), 1) := by decide +kernel
theorem dX9_handler_28 : decode cX9_handler 28 = .ok (.ireturn, 1) := by decide +kernel
set_option maxHeartbeats 4000000 in
set_option maxRecDepth 100000 in
theorem c_A_handler0 (l : Launch) (D : va_G) (g : Nat → ClassId) (h sz : Nat) (a : Nat → Nat) (i j : Int32)  : vz_Mi l D (tyG g) yX9_handler cX9_handler 3 0 0 0 0 .int [.ref h, .int i, .int j] sz [(h, .inr (9, [.ref (a 0), .ref (a 2), .ref (a 5), .ref (a 27), .ref (a 28), .ref (a 29), .ref (a 30), .ref (a 24), .ref (a 31), .ref (a 32), .ref (a 25), .ref (a 26), .ref (a 33), .ref (a 34), .ref (a 18), .ref (a 10), .int 0])), ((a 18), .inr (2, [.ref (a 19), .ref (a 22), .ref (a 20), .ref (a 23), .ref (a 21)])), tT (a 20) (a 41) (nI 5) (nI 112) 0] (fun r (u : Unit) => r = -1) (fun u => [(h, .inr (9, [.ref (a 0), .ref (a 2), .ref (a 5), .ref (a 27), .ref (a 28), .ref (a 29), .ref (a 30), .ref (a 24), .ref (a 31), .ref (a 32), .ref (a 25), .ref (a 26), .ref (a 33), .ref (a 34), .ref (a 18), .ref (a 10), .int 0])), ((a 18), .inr (2, [.ref (a 19), .ref (a 22), .ref (a 20), .ref (a 23), .ref (a 21)])), tT (a 20) (a 41) (nI 5) (nI 112) 0]) := by
  refine vz_si (by decide) (Nat.le_of_ble_eq_true rfl) (fun p e s m args below meth c hx hb hr hml hts hown hlk hin hK hsz A hA H locs hP hD hS ls hl => ?_)
  have hl : lv_has ls 3 [(0, .ref h), (1, .int i), (2, .int j)] := hl
  refine lv_iload_n hx hb dX9_handler_0 rfl (lv_at hl 1 rfl) ?_
  refine lv_if_lt (tgt := 27) hx hb dX9_handler_1 (by decide) (fun kc => ?_) (fun kc => ?_)
  · refine lv_iconst (v := (-1)) hx hb dX9_handler_27 (by decide) ?_
    exact vz_iret hx hb hr hlk hK hP hD hS (()) (rfl) [0, 1, 2] rfl (by decide) (Nat.le_refl 0) (Nat.le_refl 0) dX9_handler_28
  · refine lv_iload_n hx hb dX9_handler_4 rfl (lv_at hl 1 rfl) ?_
    refine lv_aload_n hx hb dX9_handler_5 rfl (lv_at hl 0 rfl) ?_
    refine va_get (D := D) (ci := 9) (v := .ref (a 18)) (C := RX9) (T := TX9) (N := 17) hx hb hts inlX9 hown hK hP 0 rfl rfl 14 (by decide) (hts _ q24) (fun _ h => h) rfl dX9_handler_6 ?_
    refine va_get (D := D) (ci := 2) (v := .ref (a 20)) (C := RX2) (T := TX2) (N := 5) hx hb hts inlX2 hown hK hP 1 rfl rfl 2 (by decide) (hts _ q966) (fun _ h => h) rfl dX9_handler_9 ?_
    refine va_get (D := D) (ci := 6) (v := .int 0) (C := RX6) (T := TX6) (N := 4) hx hb hts inlX6 hown hK hP 2 rfl rfl 3 (by decide) (hts _ q259) (fun _ h => h) rfl dX9_handler_12 ?_
    refine lv_icmp_ge (tgt := 27) hx hb dX9_handler_15 (by decide) (fun _ => ?_) (fun h9 => absurd (Int32.not_lt.mp kc) h9)
    refine lv_iconst (v := (-1)) hx hb dX9_handler_27 (by decide) ?_
    exact vz_iret hx hb hr hlk hK hP hD hS (()) (rfl) [0, 1, 2] rfl (by decide) (Nat.le_refl 0) (Nat.le_refl 0) dX9_handler_28
theorem q284 : Cond.methodLink RX9 129 yX5_scan ∈ wsL_law := mT_2 (List.mem_of_getElem? (i := 206) rfl) rfl
theorem q285 : Cond.instanceMethod yX5_scan ∈ wsL_law := mT_2 (List.mem_of_getElem? (i := 207) rfl) rfl
theorem q286 : Cond.selects RX5 yX5_scan yX5_scan ∈ wsL_law := mT_2 (List.mem_of_getElem? (i := 208) rfl) rfl
theorem q287 : Cond.code yX5_scan cX5_scan 4 none ∈ wsL_law := mT_2 (List.mem_of_getElem? (i := 209) rfl) rfl
theorem kv_X9_129 : vz_cv RX9 129 yX5_scan cX5_scan 4 none 1 := ⟨q284, q285, q286, q19, q287, by decide +kernel⟩
theorem q439 : Cond.methodLink RX9 136 yX3_read ∈ wsL_law := mT_3 (List.mem_of_getElem? (i := 121) rfl) rfl
theorem q440 : Cond.instanceMethod yX3_read ∈ wsL_law := mT_3 (List.mem_of_getElem? (i := 122) rfl) rfl
theorem q441 : Cond.selects RX3 yX3_read yX3_read ∈ wsL_law := mT_3 (List.mem_of_getElem? (i := 123) rfl) rfl
theorem q442 : Cond.code yX3_read cX3_read 5 none ∈ wsL_law := mT_3 (List.mem_of_getElem? (i := 124) rfl) rfl
theorem kv_X9_136 : vz_cv RX9 136 yX3_read cX3_read 5 none 1 := ⟨q439, q440, q441, q28, q442, by decide +kernel⟩
theorem q280 : Cond.fieldLink RX9 139 "WaysAtlas$Reader" "fault" "I" ∈ wsL_law := mT_1 (List.mem_of_getElem? (i := 135) rfl) rfl
theorem q281 : Cond.fieldLink RX9 140 "WaysAtlas$Reader" "faultPlace" "I" ∈ wsL_law := mT_1 (List.mem_of_getElem? (i := 137) rfl) rfl
theorem dX9_compile_0 : decode cX9_compile 0 = .ok (.aload_n 0, 1) := by decide +kernel
theorem dX9_compile_1 : decode cX9_compile 1 = .ok (.getfield 21, 3) := by decide +kernel
theorem dX9_compile_4 : decode cX9_compile 4 = .ok (.aload_n 0, 1) := by decide +kernel
theorem dX9_compile_5 : decode cX9_compile 5 = .ok (.getfield 14, 3) := by decide +kernel
theorem dX9_compile_8 : decode cX9_compile 8 = .ok (.invokevirtual 129, 3) := by decide +kernel
theorem dX9_compile_11 : decode cX9_compile 11 = .ok (.aload_n 0, 1) := by decide +kernel
theorem dX9_compile_12 : decode cX9_compile 12 = .ok (.getfield 14, 3) := by decide +kernel
theorem dX9_compile_15 : decode cX9_compile 15 = .ok (.invokevirtual 133, 3) := by decide +kernel
theorem dX9_compile_18 : decode cX9_compile 18 = .ok (.aload_n 0, 1) := by decide +kernel
theorem dX9_compile_19 : decode cX9_compile 19 = .ok (.getfield 43, 3) := by decide +kernel
theorem dX9_compile_22 : decode cX9_compile 22 = .ok (.aload_n 0, 1) := by decide +kernel
theorem dX9_compile_23 : decode cX9_compile 23 = .ok (.getfield 32, 3) := by decide +kernel
theorem dX9_compile_26 : decode cX9_compile 26 = .ok (.invokevirtual 136, 3) := by decide +kernel
theorem dX9_compile_29 : decode cX9_compile 29 = .ok (.aload_n 0, 1) := by decide +kernel
theorem dX9_compile_30 : decode cX9_compile 30 = .ok (.aload_n 0, 1) := by decide +kernel
theorem dX9_compile_31 : decode cX9_compile 31 = .ok (.getfield 43, 3) := by decide +kernel
theorem dX9_compile_34 : decode cX9_compile 34 = .ok (.getfield 139, 3) := by decide +kernel
theorem dX9_compile_37 : decode cX9_compile 37 = .ok (.putfield 114, 3) := by decide +kernel
theorem dX9_compile_40 : decode cX9_compile 40 = .ok (.aload_n 0, 1) := by decide +kernel
theorem dX9_compile_41 : decode cX9_compile 41 = .ok (.getfield 114, 3) := by decide +kernel
theorem dX9_compile_44 : decode cX9_compile 44 = .ok (.ifCond .eq 14, 3) := by decide +kernel
theorem dX9_compile_47 : decode cX9_compile 47 = .ok (.bipush (-100), 2) := by decide +kernel
theorem dX9_compile_49 : decode cX9_compile 49 = .ok (.aload_n 0, 1) := by decide +kernel
theorem dX9_compile_50 : decode cX9_compile 50 = .ok (.getfield 43, 3) := by decide +kernel
theorem dX9_compile_53 : decode cX9_compile 53 = .ok (.getfield 140, 3) := by decide +kernel
theorem dX9_compile_56 : decode cX9_compile 56 = .ok (.isub, 1) := by decide +kernel
theorem dX9_compile_57 : decode cX9_compile 57 = .ok (.ireturn, 1) := by decide +kernel
set_option maxHeartbeats 4000000 in
set_option maxRecDepth 100000 in
theorem c_A_compile0 (l : Launch) (D : va_G) (g : Nat → ClassId) (h sz : Nat) (a : Nat → Nat) (b : Int32)  : vz_Mi l D (tyG g) yX9_compile cX9_compile 3 5 120 0 0 .int [.ref h, .int b] sz [(h, .inr (9, [.ref (a 0), .ref (a 2), .ref (a 5), .ref (a 27), .ref (a 28), .ref (a 29), .ref (a 30), .ref (a 24), .ref (a 31), .ref (a 32), .ref (a 25), .ref (a 26), .ref (a 33), .ref (a 34), .ref (a 18), .ref (a 10), .int 0])), ((a 2), .inr (5, [.ref (a 3), .int 0])), tT (a 3) (a 4) (nI 3) (nI 1001) 0, tA g (a 4) 3003 (fun _ => 0), tT (a 0) (a 1) (nI 1) (nI 1000) 0, ((a 5), .inr (3, [.ref (a 3), .ref (a 6), .ref (a 7), .ref (a 8), .ref (a 10), .int 0, .int 0, .int 0, .int 0, .int (-9), .int 0, .int 0])), tT (a 6) (a 35) (nI 1) (nI 6) 0, tT (a 7) (a 36) (nI 1) (nI 6) 0, tT (a 8) (a 9) (nI 1) (nI 80) 0, tA g (a 9) 80 (fun _ => 0), ((a 10), .inr (2, [.ref (a 11), .ref (a 12), .ref (a 13), .ref (a 14), .ref (a 16)])), tT (a 11) (a 37) (nI 12) (nI 80) 0, tT (a 12) (a 38) (nI 5) (nI 1000) 0, tT (a 13) (a 39) (nI 5) (nI 112) 0, tT (a 14) (a 15) (nI 1) (nI 16) 0, tT (a 16) (a 17) (nI 2) (nI 8) 0, tA g (a 15) 16 (fun _ => 0), tA g (a 17) 16 (fun _ => 0)] (fun r (u : Unit) => r = -100) (fun u => [(h, .inr (9, [.ref (a 0), .ref (a 2), .ref (a 5), .ref (a 27), .ref (a 28), .ref (a 29), .ref (a 30), .ref (a 24), .ref (a 31), .ref (a 32), .ref (a 25), .ref (a 26), .ref (a 33), .ref (a 34), .ref (a 18), .ref (a 10), .int 1]))]) := by
  refine vz_si (by decide) (Nat.le_of_ble_eq_true rfl) (fun p e s m args below meth c hx hb hr hml hts hown hlk hin hK hsz A hA H locs hP hD hS ls hl => ?_)
  have hl : lv_has ls 3 [(0, .ref h), (1, .int b)] := hl
  refine lv_aload_n hx hb dX9_compile_0 rfl (lv_at hl 0 rfl) ?_
  refine va_get (D := D) (ci := 9) (v := .ref (a 2)) (C := RX9) (T := TX9) (N := 17) hx hb hts inlX9 hown hK hP 0 rfl rfl 1 (by decide) (hts _ q20) (fun _ h => h) rfl dX9_compile_1 ?_
  refine lv_aload_n hx hb dX9_compile_4 rfl (lv_at hl 0 rfl) ?_
  refine va_get (D := D) (ci := 9) (v := .ref (a 0)) (C := RX9) (T := TX9) (N := 17) hx hb hts inlX9 hown hK hP 0 rfl rfl 0 (by decide) (hts _ q16) (fun _ h => h) rfl dX9_compile_5 ?_
  refine vz_Vv (wr := [(h, .inr (9, [.ref (a 0), .ref (a 2), .ref (a 5), .ref (a 27), .ref (a 28), .ref (a 29), .ref (a 30), .ref (a 24), .ref (a 31), .ref (a 32), .ref (a 25), .ref (a 26), .ref (a 33), .ref (a 34), .ref (a 18), .ref (a 10), .int 0])), ((a 5), .inr (3, [.ref (a 3), .ref (a 6), .ref (a 7), .ref (a 8), .ref (a 10), .int 0, .int 0, .int 0, .int 0, .int (-9), .int 0, .int 0])), tT (a 6) (a 35) (nI 1) (nI 6) 0, tT (a 7) (a 36) (nI 1) (nI 6) 0, tT (a 8) (a 9) (nI 1) (nI 80) 0, tA g (a 9) 80 (fun _ => 0), ((a 10), .inr (2, [.ref (a 11), .ref (a 12), .ref (a 13), .ref (a 14), .ref (a 16)])), tT (a 11) (a 37) (nI 12) (nI 80) 0, tT (a 12) (a 38) (nI 5) (nI 1000) 0, tT (a 13) (a 39) (nI 5) (nI 112) 0, tT (a 14) (a 15) (nI 1) (nI 16) 0, tT (a 16) (a 17) (nI 2) (nI 8) 0, tA g (a 15) 16 (fun _ => 0), tA g (a 17) 16 (fun _ => 0)]) (As := [.ref (a 0)]) (rest := []) hx hb hml hown hts hK hA hP hD hS (c_S_scan0 l D g (a 2) (a 3) (a 4) (a 0) (a 1) H.size 0 (fun _ => 0)) kv_X9_129 (⟨Nat.le_of_ble_eq_true rfl, Nat.le_of_ble_eq_true rfl⟩) (q0 := 1) (ci := 5) rfl rfl rfl [1, 2, 3, 4] [0, 5, 6, 7, 8, 9, 10, 11, 12, 13, 14, 15, 16, 17] rfl rfl (by decide) hl.1 (Nat.le_of_ble_eq_true rfl) dX9_compile_8 (⟨Nat.le_of_ble_eq_true rfl, Nat.le_of_ble_eq_true rfl⟩) rfl (fun ft H locs ⟨hf0, hf1, hf2⟩ _ hP hD hS => ?_)
  have hP : va_P D vwCl [(h, .inr (9, [.ref (a 0), .ref (a 2), .ref (a 5), .ref (a 27), .ref (a 28), .ref (a 29), .ref (a 30), .ref (a 24), .ref (a 31), .ref (a 32), .ref (a 25), .ref (a 26), .ref (a 33), .ref (a 34), .ref (a 18), .ref (a 10), .int 0])), ((a 5), .inr (3, [.ref (a 3), .ref (a 6), .ref (a 7), .ref (a 8), .ref (a 10), .int 0, .int 0, .int 0, .int 0, .int (-9), .int 0, .int 0])), tT (a 6) (a 35) (nI 1) (nI 6) 0, tT (a 7) (a 36) (nI 1) (nI 6) 0, tT (a 8) (a 9) (nI 1) (nI 80) 0, tA g (a 9) 80 (fun _ => 0), ((a 10), .inr (2, [.ref (a 11), .ref (a 12), .ref (a 13), .ref (a 14), .ref (a 16)])), tT (a 11) (a 37) (nI 12) (nI 80) 0, tT (a 12) (a 38) (nI 5) (nI 1000) 0, tT (a 13) (a 39) (nI 5) (nI 112) 0, tT (a 14) (a 15) (nI 1) (nI 16) 0, tT (a 16) (a 17) (nI 2) (nI 8) 0, tA g (a 15) 16 (fun _ => 0), tA g (a 17) 16 (fun _ => 0), ((a 2), .inr (5, [.ref (a 3), .int 0])), tT (a 3) (a 4) (nI 3) (nI 1001) (nI 1), tA g (a 4) 3003 ft, tT (a 0) (a 1) (nI 1) (nI 1000) 0] H := hP
  have hD : va_D A [(h, .inr (9, [.ref (a 0), .ref (a 2), .ref (a 5), .ref (a 27), .ref (a 28), .ref (a 29), .ref (a 30), .ref (a 24), .ref (a 31), .ref (a 32), .ref (a 25), .ref (a 26), .ref (a 33), .ref (a 34), .ref (a 18), .ref (a 10), .int 0])), ((a 5), .inr (3, [.ref (a 3), .ref (a 6), .ref (a 7), .ref (a 8), .ref (a 10), .int 0, .int 0, .int 0, .int 0, .int (-9), .int 0, .int 0])), tT (a 6) (a 35) (nI 1) (nI 6) 0, tT (a 7) (a 36) (nI 1) (nI 6) 0, tT (a 8) (a 9) (nI 1) (nI 80) 0, tA g (a 9) 80 (fun _ => 0), ((a 10), .inr (2, [.ref (a 11), .ref (a 12), .ref (a 13), .ref (a 14), .ref (a 16)])), tT (a 11) (a 37) (nI 12) (nI 80) 0, tT (a 12) (a 38) (nI 5) (nI 1000) 0, tT (a 13) (a 39) (nI 5) (nI 112) 0, tT (a 14) (a 15) (nI 1) (nI 16) 0, tT (a 16) (a 17) (nI 2) (nI 8) 0, tA g (a 15) 16 (fun _ => 0), tA g (a 17) 16 (fun _ => 0), ((a 2), .inr (5, [.ref (a 3), .int 0])), tT (a 3) (a 4) (nI 3) (nI 1001) (nI 1), tA g (a 4) 3003 ft, tT (a 0) (a 1) (nI 1) (nI 1000) 0] := hD
  refine lv_aload_n hx hb dX9_compile_11 rfl (lv_at hl 0 rfl) ?_
  refine va_get (D := D) (ci := 9) (v := .ref (a 0)) (C := RX9) (T := TX9) (N := 17) hx hb hts inlX9 hown hK hP 0 rfl rfl 0 (by decide) (hts _ q16) (fun _ h => h) rfl dX9_compile_12 ?_
  refine vz_Vv (wr := [(h, .inr (9, [.ref (a 0), .ref (a 2), .ref (a 5), .ref (a 27), .ref (a 28), .ref (a 29), .ref (a 30), .ref (a 24), .ref (a 31), .ref (a 32), .ref (a 25), .ref (a 26), .ref (a 33), .ref (a 34), .ref (a 18), .ref (a 10), .int 0])), ((a 5), .inr (3, [.ref (a 3), .ref (a 6), .ref (a 7), .ref (a 8), .ref (a 10), .int 0, .int 0, .int 0, .int 0, .int (-9), .int 0, .int 0])), tT (a 6) (a 35) (nI 1) (nI 6) 0, tT (a 7) (a 36) (nI 1) (nI 6) 0, tT (a 8) (a 9) (nI 1) (nI 80) 0, tA g (a 9) 80 (fun _ => 0), ((a 10), .inr (2, [.ref (a 11), .ref (a 12), .ref (a 13), .ref (a 14), .ref (a 16)])), tT (a 11) (a 37) (nI 12) (nI 80) 0, tT (a 12) (a 38) (nI 5) (nI 1000) 0, tT (a 13) (a 39) (nI 5) (nI 112) 0, tT (a 14) (a 15) (nI 1) (nI 16) 0, tT (a 16) (a 17) (nI 2) (nI 8) 0, tA g (a 15) 16 (fun _ => 0), tA g (a 17) 16 (fun _ => 0), ((a 2), .inr (5, [.ref (a 3), .int 0])), tT (a 3) (a 4) (nI 3) (nI 1001) (nI 1), tA g (a 4) 3003 ft]) (As := []) (rest := []) hx hb hml hown hts hK hA hP hD hS (c_T_reset l D g (a 0) (a 1) H.size (nI 1) (nI 1000) 0) kv_X9_133 (⟨Nat.le_of_ble_eq_true rfl, Nat.le_of_ble_eq_true rfl⟩) (q0 := 17) (ci := 6) rfl rfl rfl [17] [0, 1, 2, 3, 4, 5, 6, 7, 8, 9, 10, 11, 12, 13, 14, 15, 16] rfl rfl (by decide) hl.1 (Nat.le_of_ble_eq_true rfl) dX9_compile_15 (⟨Nat.le_of_ble_eq_true rfl, Nat.le_of_ble_eq_true rfl⟩) rfl (fun _ H locs _ _ hP hD hS => ?_)
  have hP : va_P D vwCl [(h, .inr (9, [.ref (a 0), .ref (a 2), .ref (a 5), .ref (a 27), .ref (a 28), .ref (a 29), .ref (a 30), .ref (a 24), .ref (a 31), .ref (a 32), .ref (a 25), .ref (a 26), .ref (a 33), .ref (a 34), .ref (a 18), .ref (a 10), .int 0])), ((a 5), .inr (3, [.ref (a 3), .ref (a 6), .ref (a 7), .ref (a 8), .ref (a 10), .int 0, .int 0, .int 0, .int 0, .int (-9), .int 0, .int 0])), tT (a 6) (a 35) (nI 1) (nI 6) 0, tT (a 7) (a 36) (nI 1) (nI 6) 0, tT (a 8) (a 9) (nI 1) (nI 80) 0, tA g (a 9) 80 (fun _ => 0), ((a 10), .inr (2, [.ref (a 11), .ref (a 12), .ref (a 13), .ref (a 14), .ref (a 16)])), tT (a 11) (a 37) (nI 12) (nI 80) 0, tT (a 12) (a 38) (nI 5) (nI 1000) 0, tT (a 13) (a 39) (nI 5) (nI 112) 0, tT (a 14) (a 15) (nI 1) (nI 16) 0, tT (a 16) (a 17) (nI 2) (nI 8) 0, tA g (a 15) 16 (fun _ => 0), tA g (a 17) 16 (fun _ => 0), ((a 2), .inr (5, [.ref (a 3), .int 0])), tT (a 3) (a 4) (nI 3) (nI 1001) (nI 1), tA g (a 4) 3003 ft, tT (a 0) (a 1) (nI 1) (nI 1000) 0] H := hP
  have hD : va_D A [(h, .inr (9, [.ref (a 0), .ref (a 2), .ref (a 5), .ref (a 27), .ref (a 28), .ref (a 29), .ref (a 30), .ref (a 24), .ref (a 31), .ref (a 32), .ref (a 25), .ref (a 26), .ref (a 33), .ref (a 34), .ref (a 18), .ref (a 10), .int 0])), ((a 5), .inr (3, [.ref (a 3), .ref (a 6), .ref (a 7), .ref (a 8), .ref (a 10), .int 0, .int 0, .int 0, .int 0, .int (-9), .int 0, .int 0])), tT (a 6) (a 35) (nI 1) (nI 6) 0, tT (a 7) (a 36) (nI 1) (nI 6) 0, tT (a 8) (a 9) (nI 1) (nI 80) 0, tA g (a 9) 80 (fun _ => 0), ((a 10), .inr (2, [.ref (a 11), .ref (a 12), .ref (a 13), .ref (a 14), .ref (a 16)])), tT (a 11) (a 37) (nI 12) (nI 80) 0, tT (a 12) (a 38) (nI 5) (nI 1000) 0, tT (a 13) (a 39) (nI 5) (nI 112) 0, tT (a 14) (a 15) (nI 1) (nI 16) 0, tT (a 16) (a 17) (nI 2) (nI 8) 0, tA g (a 15) 16 (fun _ => 0), tA g (a 17) 16 (fun _ => 0), ((a 2), .inr (5, [.ref (a 3), .int 0])), tT (a 3) (a 4) (nI 3) (nI 1001) (nI 1), tA g (a 4) 3003 ft, tT (a 0) (a 1) (nI 1) (nI 1000) 0] := hD
  refine lv_aload_n hx hb dX9_compile_18 rfl (lv_at hl 0 rfl) ?_
  refine va_get (D := D) (ci := 9) (v := .ref (a 5)) (C := RX9) (T := TX9) (N := 17) hx hb hts inlX9 hown hK hP 0 rfl rfl 2 (by decide) (hts _ q30) (fun _ h => h) rfl dX9_compile_19 ?_
  refine lv_aload_n hx hb dX9_compile_22 rfl (lv_at hl 0 rfl) ?_
  refine va_get (D := D) (ci := 9) (v := .ref (a 10)) (C := RX9) (T := TX9) (N := 17) hx hb hts inlX9 hown hK hP 0 rfl rfl 15 (by decide) (hts _ q25) (fun _ h => h) rfl dX9_compile_23 ?_
  refine vz_Vv (wr := [(h, .inr (9, [.ref (a 0), .ref (a 2), .ref (a 5), .ref (a 27), .ref (a 28), .ref (a 29), .ref (a 30), .ref (a 24), .ref (a 31), .ref (a 32), .ref (a 25), .ref (a 26), .ref (a 33), .ref (a 34), .ref (a 18), .ref (a 10), .int 0])), ((a 2), .inr (5, [.ref (a 3), .int 0])), tT (a 0) (a 1) (nI 1) (nI 1000) 0]) (As := [.ref (a 10)]) (rest := []) hx hb hml hown hts hK hA hP hD hS (c_R_read0 l D g (a 5) (a 3) (a 6) (a 7) (a 8) (a 10) (a 10) (a 4) (a 35) (a 36) (a 9) (a 11) (a 12) (a 13) (a 14) (a 16) (a 37) (a 38) (a 39) (a 15) (a 17) H.size 0 0 0 0 (-9) 0 0 ft (fun _ => 0) (fun _ => 0) (fun _ => 0) hf0 hf1 hf2) kv_X9_136 (⟨Nat.le_of_ble_eq_true rfl, Nat.le_of_ble_eq_true rfl⟩) (q0 := 1) (ci := 3) rfl rfl rfl [1, 15, 16, 2, 3, 4, 5, 6, 7, 8, 9, 10, 11, 12, 13] [0, 14, 17] rfl rfl (by decide) hl.1 (Nat.le_of_ble_eq_true rfl) dX9_compile_26 (⟨Nat.le_of_ble_eq_true rfl, Nat.le_of_ble_eq_true rfl⟩) rfl (fun _ H locs _ _ hP hD hS => ?_)
  have hP : va_P D vwCl [(h, .inr (9, [.ref (a 0), .ref (a 2), .ref (a 5), .ref (a 27), .ref (a 28), .ref (a 29), .ref (a 30), .ref (a 24), .ref (a 31), .ref (a 32), .ref (a 25), .ref (a 26), .ref (a 33), .ref (a 34), .ref (a 18), .ref (a 10), .int 0])), ((a 2), .inr (5, [.ref (a 3), .int 0])), tT (a 0) (a 1) (nI 1) (nI 1000) 0, ((a 5), .inr (3, [.ref (a 3), .ref (a 6), .ref (a 7), .ref (a 8), .ref (a 10), .int 0, .int 1, .int 0, .int 0, .int (-9), .int 1, .int 0]))] H := hP
  have hD : va_D A [(h, .inr (9, [.ref (a 0), .ref (a 2), .ref (a 5), .ref (a 27), .ref (a 28), .ref (a 29), .ref (a 30), .ref (a 24), .ref (a 31), .ref (a 32), .ref (a 25), .ref (a 26), .ref (a 33), .ref (a 34), .ref (a 18), .ref (a 10), .int 0])), ((a 2), .inr (5, [.ref (a 3), .int 0])), tT (a 0) (a 1) (nI 1) (nI 1000) 0, ((a 5), .inr (3, [.ref (a 3), .ref (a 6), .ref (a 7), .ref (a 8), .ref (a 10), .int 0, .int 1, .int 0, .int 0, .int (-9), .int 1, .int 0]))] := hD
  refine lv_aload_n hx hb dX9_compile_29 rfl (lv_at hl 0 rfl) ?_
  refine lv_aload_n hx hb dX9_compile_30 rfl (lv_at hl 0 rfl) ?_
  refine va_get (D := D) (ci := 9) (v := .ref (a 5)) (C := RX9) (T := TX9) (N := 17) hx hb hts inlX9 hown hK hP 0 rfl rfl 2 (by decide) (hts _ q30) (fun _ h => h) rfl dX9_compile_31 ?_
  refine va_get (D := D) (ci := 3) (v := .int 1) (C := RX3) (T := TX3) (N := 12) hx hb hts inlX3 hown hK hP 3 rfl rfl 10 (by decide) (hts _ q280) (fun _ h => h) rfl dX9_compile_34 ?_
  refine va_put (D := D) (ci := 9) (v := .int 1) (ty := .int) (C := RX9) (T := TX9) (N := 17) hx hb hts inlX9 tyX9 tyX9_ok nmX9 hown hK hP hD hS 0 rfl rfl 16 (by decide) (hts _ q59) (fun _ h => h) rfl (by decide +kernel) rfl rfl (Nat.le_of_ble_eq_true rfl) dX9_compile_37 (fun H locs hP hD hS => ?_)
  have hP : va_P D vwCl [(h, .inr (9, [.ref (a 0), .ref (a 2), .ref (a 5), .ref (a 27), .ref (a 28), .ref (a 29), .ref (a 30), .ref (a 24), .ref (a 31), .ref (a 32), .ref (a 25), .ref (a 26), .ref (a 33), .ref (a 34), .ref (a 18), .ref (a 10), .int 1])), ((a 2), .inr (5, [.ref (a 3), .int 0])), tT (a 0) (a 1) (nI 1) (nI 1000) 0, ((a 5), .inr (3, [.ref (a 3), .ref (a 6), .ref (a 7), .ref (a 8), .ref (a 10), .int 0, .int 1, .int 0, .int 0, .int (-9), .int 1, .int 0]))] H := hP
  have hD : va_D A [(h, .inr (9, [.ref (a 0), .ref (a 2), .ref (a 5), .ref (a 27), .ref (a 28), .ref (a 29), .ref (a 30), .ref (a 24), .ref (a 31), .ref (a 32), .ref (a 25), .ref (a 26), .ref (a 33), .ref (a 34), .ref (a 18), .ref (a 10), .int 1])), ((a 2), .inr (5, [.ref (a 3), .int 0])), tT (a 0) (a 1) (nI 1) (nI 1000) 0, ((a 5), .inr (3, [.ref (a 3), .ref (a 6), .ref (a 7), .ref (a 8), .ref (a 10), .int 0, .int 1, .int 0, .int 0, .int (-9), .int 1, .int 0]))] := hD
  refine lv_aload_n hx hb dX9_compile_40 rfl (lv_at hl 0 rfl) ?_
  refine va_get (D := D) (ci := 9) (v := .int 1) (C := RX9) (T := TX9) (N := 17) hx hb hts inlX9 hown hK hP 0 rfl rfl 16 (by decide) (hts _ q59) (fun _ h => h) rfl dX9_compile_41 ?_
  refine lv_if_eq (tgt := 58) hx hb dX9_compile_44 (by decide) (fun h9 => absurd h9 (by decide)) (fun _ => ?_)
  refine lv_bipush (v := (-100)) hx hb dX9_compile_47 (by decide) ?_
  refine lv_aload_n hx hb dX9_compile_49 rfl (lv_at hl 0 rfl) ?_
  refine va_get (D := D) (ci := 9) (v := .ref (a 5)) (C := RX9) (T := TX9) (N := 17) hx hb hts inlX9 hown hK hP 0 rfl rfl 2 (by decide) (hts _ q30) (fun _ h => h) rfl dX9_compile_50 ?_
  refine va_get (D := D) (ci := 3) (v := .int 0) (C := RX3) (T := TX3) (N := 12) hx hb hts inlX3 hown hK hP 3 rfl rfl 11 (by decide) (hts _ q281) (fun _ h => h) rfl dX9_compile_53 ?_
  refine lv_isub hx hb dX9_compile_56 ?_
  refine lv_topi (nm_r (e' := (-100)) (by decide) ?_)
  exact vz_iret hx hb hr hlk hK hP hD hS (()) (rfl) [0] rfl (by decide) (Nat.le_refl 0) (Nat.le_refl 0) dX9_compile_57
end
