section
-- ===== PART A: goes FIRST, ahead of the names: the tables' words, and 'selects' of the private methods out of them =====
/-- a private method of a class that the tables say can be made, by its rows of tables_1 -/
def lw_okq (q : MethodName × Nat) : Prop := (q.1.cls ≠ "java/lang/invoke/MethodHandle" ∧ q.1.cls ≠ "java/lang/invoke/VarHandle") ∧ Cond.instantiable q.1.cls q.2 ∈ tables_1 ∧ Cond.privateMethod q.1 ∈ tables_1 ∧ Cond.instanceMethod q.1 ∈ tables_1
theorem lw_p0 : lw_okq (⟨"MarbleLaw", "begin", "([LMarbleLaw$Row;III)I"⟩, 13) := ⟨⟨by decide +kernel, by decide +kernel⟩, List.mem_of_getElem? (i := 12) (by decide +kernel), List.mem_of_getElem? (i := 196) (by decide +kernel), List.mem_of_getElem? (i := 197) (by decide +kernel)⟩
theorem lw_p1 : lw_okq (⟨"MarbleLaw", "found", "(I)I"⟩, 13) := ⟨⟨by decide +kernel, by decide +kernel⟩, List.mem_of_getElem? (i := 12) (by decide +kernel), List.mem_of_getElem? (i := 203) (by decide +kernel), List.mem_of_getElem? (i := 204) (by decide +kernel)⟩
theorem lw_p2 : lw_okq (⟨"MarbleLaw", "refusalOfPlace", "([LMarbleLaw$Row;II)I"⟩, 13) := ⟨⟨by decide +kernel, by decide +kernel⟩, List.mem_of_getElem? (i := 12) (by decide +kernel), List.mem_of_getElem? (i := 215) (by decide +kernel), List.mem_of_getElem? (i := 216) (by decide +kernel)⟩
theorem lw_p3 : lw_okq (⟨"MarbleLaw", "isStuff", "(I)Z"⟩, 13) := ⟨⟨by decide +kernel, by decide +kernel⟩, List.mem_of_getElem? (i := 12) (by decide +kernel), List.mem_of_getElem? (i := 277) (by decide +kernel), List.mem_of_getElem? (i := 278) (by decide +kernel)⟩
theorem lw_p4 : lw_okq (⟨"MarbleLaw", "isAim", "(III)Z"⟩, 13) := ⟨⟨by decide +kernel, by decide +kernel⟩, List.mem_of_getElem? (i := 12) (by decide +kernel), List.mem_of_getElem? (i := 293) (by decide +kernel), List.mem_of_getElem? (i := 294) (by decide +kernel)⟩
theorem lw_p5 : lw_okq (⟨"MarbleLaw", "isMaking", "(I)Z"⟩, 13) := ⟨⟨by decide +kernel, by decide +kernel⟩, List.mem_of_getElem? (i := 12) (by decide +kernel), List.mem_of_getElem? (i := 315) (by decide +kernel), List.mem_of_getElem? (i := 316) (by decide +kernel)⟩
theorem lw_p6 : lw_okq (⟨"MarbleLaw", "standBehind", "(I)V"⟩, 13) := ⟨⟨by decide +kernel, by decide +kernel⟩, List.mem_of_getElem? (i := 12) (by decide +kernel), List.mem_of_getElem? (i := 330) (by decide +kernel), List.mem_of_getElem? (i := 331) (by decide +kernel)⟩
theorem lw_p7 : lw_okq (⟨"MarbleLaw$Course", "giveAll", "(II)V"⟩, 15) := ⟨⟨by decide +kernel, by decide +kernel⟩, List.mem_of_getElem? (i := 55) (by decide +kernel), List.mem_of_getElem? (i := 339) (by decide +kernel), List.mem_of_getElem? (i := 340) (by decide +kernel)⟩
theorem lw_p8 : lw_okq (⟨"MarbleLaw$Course", "share", "(II)V"⟩, 15) := ⟨⟨by decide +kernel, by decide +kernel⟩, List.mem_of_getElem? (i := 55) (by decide +kernel), List.mem_of_getElem? (i := 357) (by decide +kernel), List.mem_of_getElem? (i := 358) (by decide +kernel)⟩
theorem lw_p9 : lw_okq (⟨"MarbleLaw$Course", "barsKnowing", "()Z"⟩, 15) := ⟨⟨by decide +kernel, by decide +kernel⟩, List.mem_of_getElem? (i := 55) (by decide +kernel), List.mem_of_getElem? (i := 361) (by decide +kernel), List.mem_of_getElem? (i := 362) (by decide +kernel)⟩
theorem lw_p10 : lw_okq (⟨"MarbleLaw$Course", "knew", "(I)Z"⟩, 15) := ⟨⟨by decide +kernel, by decide +kernel⟩, List.mem_of_getElem? (i := 55) (by decide +kernel), List.mem_of_getElem? (i := 365) (by decide +kernel), List.mem_of_getElem? (i := 366) (by decide +kernel)⟩
theorem lw_p11 : lw_okq (⟨"MarbleLaw$Course", "formTakes", "(II)Z"⟩, 15) := ⟨⟨by decide +kernel, by decide +kernel⟩, List.mem_of_getElem? (i := 55) (by decide +kernel), List.mem_of_getElem? (i := 369) (by decide +kernel), List.mem_of_getElem? (i := 370) (by decide +kernel)⟩
theorem lw_p12 : lw_okq (⟨"MarbleLaw$Course", "writeTakes", "()Z"⟩, 15) := ⟨⟨by decide +kernel, by decide +kernel⟩, List.mem_of_getElem? (i := 55) (by decide +kernel), List.mem_of_getElem? (i := 373) (by decide +kernel), List.mem_of_getElem? (i := 374) (by decide +kernel)⟩
theorem lw_p13 : lw_okq (⟨"MarbleLaw$Course", "chiefTakesJoin", "()Z"⟩, 15) := ⟨⟨by decide +kernel, by decide +kernel⟩, List.mem_of_getElem? (i := 55) (by decide +kernel), List.mem_of_getElem? (i := 381) (by decide +kernel), List.mem_of_getElem? (i := 382) (by decide +kernel)⟩
theorem lw_p14 : lw_okq (⟨"MarbleLaw$Course", "blend", "(JJ)V"⟩, 15) := ⟨⟨by decide +kernel, by decide +kernel⟩, List.mem_of_getElem? (i := 55) (by decide +kernel), List.mem_of_getElem? (i := 385) (by decide +kernel), List.mem_of_getElem? (i := 386) (by decide +kernel)⟩
theorem lw_p15 : lw_okq (⟨"MarbleLaw$Course", "mixesByAmount", "()Z"⟩, 15) := ⟨⟨by decide +kernel, by decide +kernel⟩, List.mem_of_getElem? (i := 55) (by decide +kernel), List.mem_of_getElem? (i := 397) (by decide +kernel), List.mem_of_getElem? (i := 398) (by decide +kernel)⟩
def lw_privs_1 : List (MethodName × Nat) := [(⟨"MarbleLaw", "begin", "([LMarbleLaw$Row;III)I"⟩, 13), (⟨"MarbleLaw", "found", "(I)I"⟩, 13), (⟨"MarbleLaw", "refusalOfPlace", "([LMarbleLaw$Row;II)I"⟩, 13), (⟨"MarbleLaw", "isStuff", "(I)Z"⟩, 13), (⟨"MarbleLaw", "isAim", "(III)Z"⟩, 13), (⟨"MarbleLaw", "isMaking", "(I)Z"⟩, 13), (⟨"MarbleLaw", "standBehind", "(I)V"⟩, 13), (⟨"MarbleLaw$Course", "giveAll", "(II)V"⟩, 15), (⟨"MarbleLaw$Course", "share", "(II)V"⟩, 15), (⟨"MarbleLaw$Course", "barsKnowing", "()Z"⟩, 15), (⟨"MarbleLaw$Course", "knew", "(I)Z"⟩, 15), (⟨"MarbleLaw$Course", "formTakes", "(II)Z"⟩, 15), (⟨"MarbleLaw$Course", "writeTakes", "()Z"⟩, 15), (⟨"MarbleLaw$Course", "chiefTakesJoin", "()Z"⟩, 15), (⟨"MarbleLaw$Course", "blend", "(JJ)V"⟩, 15), (⟨"MarbleLaw$Course", "mixesByAmount", "()Z"⟩, 15)]
theorem lw_r1 : ∀ q ∈ lw_privs_1, lw_okq q := List.forall_mem_cons.mpr ⟨lw_p0, List.forall_mem_cons.mpr ⟨lw_p1, List.forall_mem_cons.mpr ⟨lw_p2, List.forall_mem_cons.mpr ⟨lw_p3, List.forall_mem_cons.mpr ⟨lw_p4, List.forall_mem_cons.mpr ⟨lw_p5, List.forall_mem_cons.mpr ⟨lw_p6, List.forall_mem_cons.mpr ⟨lw_p7, List.forall_mem_cons.mpr ⟨lw_p8, List.forall_mem_cons.mpr ⟨lw_p9, List.forall_mem_cons.mpr ⟨lw_p10, List.forall_mem_cons.mpr ⟨lw_p11, List.forall_mem_cons.mpr ⟨lw_p12, List.forall_mem_cons.mpr ⟨lw_p13, List.forall_mem_cons.mpr ⟨lw_p14, List.forall_mem_cons.mpr ⟨lw_p15, fun _ h => absurd h List.not_mem_nil⟩⟩⟩⟩⟩⟩⟩⟩⟩⟩⟩⟩⟩⟩⟩⟩
theorem lw_p16 : lw_okq (⟨"MarbleLaw$Course", "bringComer", "()V"⟩, 15) := ⟨⟨by decide +kernel, by decide +kernel⟩, List.mem_of_getElem? (i := 55) (by decide +kernel), List.mem_of_getElem? (i := 401) (by decide +kernel), List.mem_of_getElem? (i := 402) (by decide +kernel)⟩
theorem lw_p17 : lw_okq (⟨"MarbleLaw", "isStory", "(I)Z"⟩, 13) := ⟨⟨by decide +kernel, by decide +kernel⟩, List.mem_of_getElem? (i := 12) (by decide +kernel), List.mem_of_getElem? (i := 441) (by decide +kernel), List.mem_of_getElem? (i := 442) (by decide +kernel)⟩
theorem lw_p18 : lw_okq (⟨"MarbleLaw", "refusalOfParts", "(IIIII)I"⟩, 13) := ⟨⟨by decide +kernel, by decide +kernel⟩, List.mem_of_getElem? (i := 12) (by decide +kernel), List.mem_of_getElem? (i := 457) (by decide +kernel), List.mem_of_getElem? (i := 458) (by decide +kernel)⟩
theorem lw_p19 : lw_okq (⟨"MarbleLaw", "tellFraction", "(JJ)V"⟩, 13) := ⟨⟨by decide +kernel, by decide +kernel⟩, List.mem_of_getElem? (i := 12) (by decide +kernel), List.mem_of_getElem? (i := 462) (by decide +kernel), List.mem_of_getElem? (i := 463) (by decide +kernel)⟩
theorem lw_p20 : lw_okq (⟨"MarbleLaw", "answersByWhichHas", "(IIII)I"⟩, 13) := ⟨⟨by decide +kernel, by decide +kernel⟩, List.mem_of_getElem? (i := 12) (by decide +kernel), List.mem_of_getElem? (i := 507) (by decide +kernel), List.mem_of_getElem? (i := 508) (by decide +kernel)⟩
theorem lw_p21 : lw_okq (⟨"MarbleLaw$Course", "hasAll", "(II)Z"⟩, 15) := ⟨⟨by decide +kernel, by decide +kernel⟩, List.mem_of_getElem? (i := 55) (by decide +kernel), List.mem_of_getElem? (i := 533) (by decide +kernel), List.mem_of_getElem? (i := 534) (by decide +kernel)⟩
theorem lw_p22 : lw_okq (⟨"MarbleLaw$Course", "hasAnother", "(II)Z"⟩, 15) := ⟨⟨by decide +kernel, by decide +kernel⟩, List.mem_of_getElem? (i := 55) (by decide +kernel), List.mem_of_getElem? (i := 537) (by decide +kernel), List.mem_of_getElem? (i := 538) (by decide +kernel)⟩
theorem lw_p23 : lw_okq (⟨"MarbleLaw", "isStoppedBy", "(IIII)Z"⟩, 13) := ⟨⟨by decide +kernel, by decide +kernel⟩, List.mem_of_getElem? (i := 12) (by decide +kernel), List.mem_of_getElem? (i := 551) (by decide +kernel), List.mem_of_getElem? (i := 552) (by decide +kernel)⟩
theorem lw_p24 : lw_okq (⟨"MarbleLaw$Heap", "take", "(II)I"⟩, 3) := ⟨⟨by decide +kernel, by decide +kernel⟩, List.mem_of_getElem? (i := 135) (by decide +kernel), List.mem_of_getElem? (i := 579) (by decide +kernel), List.mem_of_getElem? (i := 580) (by decide +kernel)⟩
theorem lw_p25 : lw_okq (⟨"MarbleLaw", "counted", "(I)I"⟩, 13) := ⟨⟨by decide +kernel, by decide +kernel⟩, List.mem_of_getElem? (i := 12) (by decide +kernel), List.mem_of_getElem? (i := 631) (by decide +kernel), List.mem_of_getElem? (i := 632) (by decide +kernel)⟩
theorem lw_p26 : lw_okq (⟨"MarbleLawModel", "meets", "(I)I"⟩, 32) := ⟨⟨by decide +kernel, by decide +kernel⟩, List.mem_of_getElem? (i := 668) (by decide +kernel), List.mem_of_getElem? (i := 781) (by decide +kernel), List.mem_of_getElem? (i := 782) (by decide +kernel)⟩
theorem lw_p27 : lw_okq (⟨"MarbleLawModel", "askedRow", "(I)I"⟩, 32) := ⟨⟨by decide +kernel, by decide +kernel⟩, List.mem_of_getElem? (i := 668) (by decide +kernel), List.mem_of_getElem? (i := 789) (by decide +kernel), List.mem_of_getElem? (i := 790) (by decide +kernel)⟩
theorem lw_p28 : lw_okq (⟨"MarbleLawModel", "rowAt", "(II)I"⟩, 32) := ⟨⟨by decide +kernel, by decide +kernel⟩, List.mem_of_getElem? (i := 668) (by decide +kernel), List.mem_of_getElem? (i := 793) (by decide +kernel), List.mem_of_getElem? (i := 794) (by decide +kernel)⟩
theorem lw_p29 : lw_okq (⟨"MarbleLawModel", "ask", "(II)I"⟩, 32) := ⟨⟨by decide +kernel, by decide +kernel⟩, List.mem_of_getElem? (i := 668) (by decide +kernel), List.mem_of_getElem? (i := 797) (by decide +kernel), List.mem_of_getElem? (i := 798) (by decide +kernel)⟩
theorem lw_p30 : lw_okq (⟨"MarbleLawModel", "askedText", "(I)I"⟩, 32) := ⟨⟨by decide +kernel, by decide +kernel⟩, List.mem_of_getElem? (i := 668) (by decide +kernel), List.mem_of_getElem? (i := 829) (by decide +kernel), List.mem_of_getElem? (i := 830) (by decide +kernel)⟩
theorem lw_p31 : lw_okq (⟨"MarbleLawModel", "newStuff", "(IIII)I"⟩, 32) := ⟨⟨by decide +kernel, by decide +kernel⟩, List.mem_of_getElem? (i := 668) (by decide +kernel), List.mem_of_getElem? (i := 843) (by decide +kernel), List.mem_of_getElem? (i := 844) (by decide +kernel)⟩
def lw_privs_2 : List (MethodName × Nat) := [(⟨"MarbleLaw$Course", "bringComer", "()V"⟩, 15), (⟨"MarbleLaw", "isStory", "(I)Z"⟩, 13), (⟨"MarbleLaw", "refusalOfParts", "(IIIII)I"⟩, 13), (⟨"MarbleLaw", "tellFraction", "(JJ)V"⟩, 13), (⟨"MarbleLaw", "answersByWhichHas", "(IIII)I"⟩, 13), (⟨"MarbleLaw$Course", "hasAll", "(II)Z"⟩, 15), (⟨"MarbleLaw$Course", "hasAnother", "(II)Z"⟩, 15), (⟨"MarbleLaw", "isStoppedBy", "(IIII)Z"⟩, 13), (⟨"MarbleLaw$Heap", "take", "(II)I"⟩, 3), (⟨"MarbleLaw", "counted", "(I)I"⟩, 13), (⟨"MarbleLawModel", "meets", "(I)I"⟩, 32), (⟨"MarbleLawModel", "askedRow", "(I)I"⟩, 32), (⟨"MarbleLawModel", "rowAt", "(II)I"⟩, 32), (⟨"MarbleLawModel", "ask", "(II)I"⟩, 32), (⟨"MarbleLawModel", "askedText", "(I)I"⟩, 32), (⟨"MarbleLawModel", "newStuff", "(IIII)I"⟩, 32)]
theorem lw_r2 : ∀ q ∈ lw_privs_2, lw_okq q := List.forall_mem_cons.mpr ⟨lw_p16, List.forall_mem_cons.mpr ⟨lw_p17, List.forall_mem_cons.mpr ⟨lw_p18, List.forall_mem_cons.mpr ⟨lw_p19, List.forall_mem_cons.mpr ⟨lw_p20, List.forall_mem_cons.mpr ⟨lw_p21, List.forall_mem_cons.mpr ⟨lw_p22, List.forall_mem_cons.mpr ⟨lw_p23, List.forall_mem_cons.mpr ⟨lw_p24, List.forall_mem_cons.mpr ⟨lw_p25, List.forall_mem_cons.mpr ⟨lw_p26, List.forall_mem_cons.mpr ⟨lw_p27, List.forall_mem_cons.mpr ⟨lw_p28, List.forall_mem_cons.mpr ⟨lw_p29, List.forall_mem_cons.mpr ⟨lw_p30, List.forall_mem_cons.mpr ⟨lw_p31, fun _ h => absurd h List.not_mem_nil⟩⟩⟩⟩⟩⟩⟩⟩⟩⟩⟩⟩⟩⟩⟩⟩
theorem lw_p32 : lw_okq (⟨"MarbleLawModel", "isStuff", "(I)Z"⟩, 32) := ⟨⟨by decide +kernel, by decide +kernel⟩, List.mem_of_getElem? (i := 668) (by decide +kernel), List.mem_of_getElem? (i := 855) (by decide +kernel), List.mem_of_getElem? (i := 856) (by decide +kernel)⟩
theorem lw_p33 : lw_okq (⟨"MarbleLawModel", "isV", "(III)Z"⟩, 32) := ⟨⟨by decide +kernel, by decide +kernel⟩, List.mem_of_getElem? (i := 668) (by decide +kernel), List.mem_of_getElem? (i := 863) (by decide +kernel), List.mem_of_getElem? (i := 864) (by decide +kernel)⟩
theorem lw_p34 : lw_okq (⟨"MarbleLawModel", "isMaking", "(I)Z"⟩, 32) := ⟨⟨by decide +kernel, by decide +kernel⟩, List.mem_of_getElem? (i := 668) (by decide +kernel), List.mem_of_getElem? (i := 881) (by decide +kernel), List.mem_of_getElem? (i := 882) (by decide +kernel)⟩
theorem lw_p35 : lw_okq (⟨"MarbleLawModel", "part", "(II)I"⟩, 32) := ⟨⟨by decide +kernel, by decide +kernel⟩, List.mem_of_getElem? (i := 668) (by decide +kernel), List.mem_of_getElem? (i := 885) (by decide +kernel), List.mem_of_getElem? (i := 886) (by decide +kernel)⟩
theorem lw_p36 : lw_okq (⟨"MarbleLawModel", "goesOn", "(I)I"⟩, 32) := ⟨⟨by decide +kernel, by decide +kernel⟩, List.mem_of_getElem? (i := 668) (by decide +kernel), List.mem_of_getElem? (i := 893) (by decide +kernel), List.mem_of_getElem? (i := 894) (by decide +kernel)⟩
theorem lw_p37 : lw_okq (⟨"MarbleLawModel", "byteAt", "(II)I"⟩, 32) := ⟨⟨by decide +kernel, by decide +kernel⟩, List.mem_of_getElem? (i := 668) (by decide +kernel), List.mem_of_getElem? (i := 897) (by decide +kernel), List.mem_of_getElem? (i := 898) (by decide +kernel)⟩
theorem lw_p38 : lw_okq (⟨"MarbleLawModel", "askedLaws", "(I)I"⟩, 32) := ⟨⟨by decide +kernel, by decide +kernel⟩, List.mem_of_getElem? (i := 668) (by decide +kernel), List.mem_of_getElem? (i := 921) (by decide +kernel), List.mem_of_getElem? (i := 922) (by decide +kernel)⟩
theorem lw_p39 : lw_okq (⟨"MarbleLawModel", "goes", "(IIII)Z"⟩, 32) := ⟨⟨by decide +kernel, by decide +kernel⟩, List.mem_of_getElem? (i := 668) (by decide +kernel), List.mem_of_getElem? (i := 929) (by decide +kernel), List.mem_of_getElem? (i := 930) (by decide +kernel)⟩
theorem lw_p40 : lw_okq (⟨"MarbleLawModel", "begins", "(II)V"⟩, 32) := ⟨⟨by decide +kernel, by decide +kernel⟩, List.mem_of_getElem? (i := 668) (by decide +kernel), List.mem_of_getElem? (i := 933) (by decide +kernel), List.mem_of_getElem? (i := 934) (by decide +kernel)⟩
theorem lw_p41 : lw_okq (⟨"MarbleLawModel", "does", "(I)V"⟩, 32) := ⟨⟨by decide +kernel, by decide +kernel⟩, List.mem_of_getElem? (i := 668) (by decide +kernel), List.mem_of_getElem? (i := 937) (by decide +kernel), List.mem_of_getElem? (i := 938) (by decide +kernel)⟩
theorem lw_p42 : lw_okq (⟨"MarbleLawModel", "knows", "(I)Z"⟩, 32) := ⟨⟨by decide +kernel, by decide +kernel⟩, List.mem_of_getElem? (i := 668) (by decide +kernel), List.mem_of_getElem? (i := 941) (by decide +kernel), List.mem_of_getElem? (i := 942) (by decide +kernel)⟩
theorem lw_p43 : lw_okq (⟨"MarbleLawModel", "makes", "(IIIIIZ)V"⟩, 32) := ⟨⟨by decide +kernel, by decide +kernel⟩, List.mem_of_getElem? (i := 668) (by decide +kernel), List.mem_of_getElem? (i := 948) (by decide +kernel), List.mem_of_getElem? (i := 949) (by decide +kernel)⟩
theorem lw_p44 : lw_okq (⟨"MarbleLawModel", "comes", "(IIII)V"⟩, 32) := ⟨⟨by decide +kernel, by decide +kernel⟩, List.mem_of_getElem? (i := 668) (by decide +kernel), List.mem_of_getElem? (i := 952) (by decide +kernel), List.mem_of_getElem? (i := 953) (by decide +kernel)⟩
theorem lw_p45 : lw_okq (⟨"MarbleLawModel", "mixes", "(IIII)V"⟩, 32) := ⟨⟨by decide +kernel, by decide +kernel⟩, List.mem_of_getElem? (i := 668) (by decide +kernel), List.mem_of_getElem? (i := 956) (by decide +kernel), List.mem_of_getElem? (i := 957) (by decide +kernel)⟩
theorem lw_p46 : lw_okq (⟨"MarbleLawModel", "takes", "(IIIZ)Z"⟩, 32) := ⟨⟨by decide +kernel, by decide +kernel⟩, List.mem_of_getElem? (i := 668) (by decide +kernel), List.mem_of_getElem? (i := 964) (by decide +kernel), List.mem_of_getElem? (i := 965) (by decide +kernel)⟩
theorem lw_p47 : lw_okq (⟨"MarbleLawModel", "allTo", "(II)V"⟩, 32) := ⟨⟨by decide +kernel, by decide +kernel⟩, List.mem_of_getElem? (i := 668) (by decide +kernel), List.mem_of_getElem? (i := 968) (by decide +kernel), List.mem_of_getElem? (i := 969) (by decide +kernel)⟩
def lw_privs_3 : List (MethodName × Nat) := [(⟨"MarbleLawModel", "isStuff", "(I)Z"⟩, 32), (⟨"MarbleLawModel", "isV", "(III)Z"⟩, 32), (⟨"MarbleLawModel", "isMaking", "(I)Z"⟩, 32), (⟨"MarbleLawModel", "part", "(II)I"⟩, 32), (⟨"MarbleLawModel", "goesOn", "(I)I"⟩, 32), (⟨"MarbleLawModel", "byteAt", "(II)I"⟩, 32), (⟨"MarbleLawModel", "askedLaws", "(I)I"⟩, 32), (⟨"MarbleLawModel", "goes", "(IIII)Z"⟩, 32), (⟨"MarbleLawModel", "begins", "(II)V"⟩, 32), (⟨"MarbleLawModel", "does", "(I)V"⟩, 32), (⟨"MarbleLawModel", "knows", "(I)Z"⟩, 32), (⟨"MarbleLawModel", "makes", "(IIIIIZ)V"⟩, 32), (⟨"MarbleLawModel", "comes", "(IIII)V"⟩, 32), (⟨"MarbleLawModel", "mixes", "(IIII)V"⟩, 32), (⟨"MarbleLawModel", "takes", "(IIIZ)Z"⟩, 32), (⟨"MarbleLawModel", "allTo", "(II)V"⟩, 32)]
theorem lw_r3 : ∀ q ∈ lw_privs_3, lw_okq q := List.forall_mem_cons.mpr ⟨lw_p32, List.forall_mem_cons.mpr ⟨lw_p33, List.forall_mem_cons.mpr ⟨lw_p34, List.forall_mem_cons.mpr ⟨lw_p35, List.forall_mem_cons.mpr ⟨lw_p36, List.forall_mem_cons.mpr ⟨lw_p37, List.forall_mem_cons.mpr ⟨lw_p38, List.forall_mem_cons.mpr ⟨lw_p39, List.forall_mem_cons.mpr ⟨lw_p40, List.forall_mem_cons.mpr ⟨lw_p41, List.forall_mem_cons.mpr ⟨lw_p42, List.forall_mem_cons.mpr ⟨lw_p43, List.forall_mem_cons.mpr ⟨lw_p44, List.forall_mem_cons.mpr ⟨lw_p45, List.forall_mem_cons.mpr ⟨lw_p46, List.forall_mem_cons.mpr ⟨lw_p47, fun _ h => absurd h List.not_mem_nil⟩⟩⟩⟩⟩⟩⟩⟩⟩⟩⟩⟩⟩⟩⟩⟩
theorem lw_p48 : lw_okq (⟨"MarbleLawModel", "isMany", "(I)Z"⟩, 32) := ⟨⟨by decide +kernel, by decide +kernel⟩, List.mem_of_getElem? (i := 668) (by decide +kernel), List.mem_of_getElem? (i := 976) (by decide +kernel), List.mem_of_getElem? (i := 977) (by decide +kernel)⟩
theorem lw_p49 : lw_okq (⟨"MarbleLawModel", "partOf", "(II)J"⟩, 32) := ⟨⟨by decide +kernel, by decide +kernel⟩, List.mem_of_getElem? (i := 668) (by decide +kernel), List.mem_of_getElem? (i := 991) (by decide +kernel), List.mem_of_getElem? (i := 992) (by decide +kernel)⟩
theorem lw_p50 : lw_okq (⟨"MarbleLawModel", "share", "(JJI)I"⟩, 32) := ⟨⟨by decide +kernel, by decide +kernel⟩, List.mem_of_getElem? (i := 668) (by decide +kernel), List.mem_of_getElem? (i := 995) (by decide +kernel), List.mem_of_getElem? (i := 996) (by decide +kernel)⟩
theorem lw_p51 : lw_okq (⟨"MarbleLawModel", "ownersOf", "(I)I"⟩, 32) := ⟨⟨by decide +kernel, by decide +kernel⟩, List.mem_of_getElem? (i := 668) (by decide +kernel), List.mem_of_getElem? (i := 1003) (by decide +kernel), List.mem_of_getElem? (i := 1004) (by decide +kernel)⟩
theorem lw_p52 : lw_okq (⟨"MarbleLawModel", "setTrails", "(II)V"⟩, 32) := ⟨⟨by decide +kernel, by decide +kernel⟩, List.mem_of_getElem? (i := 668) (by decide +kernel), List.mem_of_getElem? (i := 1019) (by decide +kernel), List.mem_of_getElem? (i := 1020) (by decide +kernel)⟩
theorem lw_p53 : lw_okq (⟨"MarbleLawModel", "askedBy", "(IIII)I"⟩, 32) := ⟨⟨by decide +kernel, by decide +kernel⟩, List.mem_of_getElem? (i := 668) (by decide +kernel), List.mem_of_getElem? (i := 1031) (by decide +kernel), List.mem_of_getElem? (i := 1032) (by decide +kernel)⟩
theorem lw_p54 : lw_okq (⟨"MarbleLawModel", "hasBy", "(IIII)I"⟩, 32) := ⟨⟨by decide +kernel, by decide +kernel⟩, List.mem_of_getElem? (i := 668) (by decide +kernel), List.mem_of_getElem? (i := 1035) (by decide +kernel), List.mem_of_getElem? (i := 1036) (by decide +kernel)⟩
theorem lw_p55 : lw_okq (⟨"MarbleLawModel", "askedSly", "(IIII)I"⟩, 32) := ⟨⟨by decide +kernel, by decide +kernel⟩, List.mem_of_getElem? (i := 668) (by decide +kernel), List.mem_of_getElem? (i := 1051) (by decide +kernel), List.mem_of_getElem? (i := 1052) (by decide +kernel)⟩
theorem lw_p56 : lw_okq (⟨"MarbleLawModel", "slyBy", "(IIII)I"⟩, 32) := ⟨⟨by decide +kernel, by decide +kernel⟩, List.mem_of_getElem? (i := 668) (by decide +kernel), List.mem_of_getElem? (i := 1055) (by decide +kernel), List.mem_of_getElem? (i := 1056) (by decide +kernel)⟩
theorem lw_p57 : lw_okq (⟨"MarbleLawModel", "hasAll", "(II)Z"⟩, 32) := ⟨⟨by decide +kernel, by decide +kernel⟩, List.mem_of_getElem? (i := 668) (by decide +kernel), List.mem_of_getElem? (i := 1059) (by decide +kernel), List.mem_of_getElem? (i := 1060) (by decide +kernel)⟩
theorem lw_p58 : lw_okq (⟨"MarbleLawModel", "allOf", "(II)I"⟩, 32) := ⟨⟨by decide +kernel, by decide +kernel⟩, List.mem_of_getElem? (i := 668) (by decide +kernel), List.mem_of_getElem? (i := 1085) (by decide +kernel), List.mem_of_getElem? (i := 1086) (by decide +kernel)⟩
theorem lw_p59 : lw_okq (⟨"MarbleLawModel", "drawsFrom", "(II)V"⟩, 32) := ⟨⟨by decide +kernel, by decide +kernel⟩, List.mem_of_getElem? (i := 668) (by decide +kernel), List.mem_of_getElem? (i := 1089) (by decide +kernel), List.mem_of_getElem? (i := 1090) (by decide +kernel)⟩
theorem lw_p60 : lw_okq (⟨"MarbleLawModel", "counts", "(I)I"⟩, 32) := ⟨⟨by decide +kernel, by decide +kernel⟩, List.mem_of_getElem? (i := 668) (by decide +kernel), List.mem_of_getElem? (i := 1117) (by decide +kernel), List.mem_of_getElem? (i := 1118) (by decide +kernel)⟩
theorem lw_p61 : lw_okq (⟨"MarbleLawModel", "mix", "(I)V"⟩, 32) := ⟨⟨by decide +kernel, by decide +kernel⟩, List.mem_of_getElem? (i := 668) (by decide +kernel), List.mem_of_getElem? (i := 1134) (by decide +kernel), List.mem_of_getElem? (i := 1135) (by decide +kernel)⟩
theorem lw_p62 : lw_okq (⟨"MarbleLawModel", "mixAll", "()V"⟩, 32) := ⟨⟨by decide +kernel, by decide +kernel⟩, List.mem_of_getElem? (i := 668) (by decide +kernel), List.mem_of_getElem? (i := 1139) (by decide +kernel), List.mem_of_getElem? (i := 1140) (by decide +kernel)⟩
def lw_privs_4 : List (MethodName × Nat) := [(⟨"MarbleLawModel", "isMany", "(I)Z"⟩, 32), (⟨"MarbleLawModel", "partOf", "(II)J"⟩, 32), (⟨"MarbleLawModel", "share", "(JJI)I"⟩, 32), (⟨"MarbleLawModel", "ownersOf", "(I)I"⟩, 32), (⟨"MarbleLawModel", "setTrails", "(II)V"⟩, 32), (⟨"MarbleLawModel", "askedBy", "(IIII)I"⟩, 32), (⟨"MarbleLawModel", "hasBy", "(IIII)I"⟩, 32), (⟨"MarbleLawModel", "askedSly", "(IIII)I"⟩, 32), (⟨"MarbleLawModel", "slyBy", "(IIII)I"⟩, 32), (⟨"MarbleLawModel", "hasAll", "(II)Z"⟩, 32), (⟨"MarbleLawModel", "allOf", "(II)I"⟩, 32), (⟨"MarbleLawModel", "drawsFrom", "(II)V"⟩, 32), (⟨"MarbleLawModel", "counts", "(I)I"⟩, 32), (⟨"MarbleLawModel", "mix", "(I)V"⟩, 32), (⟨"MarbleLawModel", "mixAll", "()V"⟩, 32)]
theorem lw_r4 : ∀ q ∈ lw_privs_4, lw_okq q := List.forall_mem_cons.mpr ⟨lw_p48, List.forall_mem_cons.mpr ⟨lw_p49, List.forall_mem_cons.mpr ⟨lw_p50, List.forall_mem_cons.mpr ⟨lw_p51, List.forall_mem_cons.mpr ⟨lw_p52, List.forall_mem_cons.mpr ⟨lw_p53, List.forall_mem_cons.mpr ⟨lw_p54, List.forall_mem_cons.mpr ⟨lw_p55, List.forall_mem_cons.mpr ⟨lw_p56, List.forall_mem_cons.mpr ⟨lw_p57, List.forall_mem_cons.mpr ⟨lw_p58, List.forall_mem_cons.mpr ⟨lw_p59, List.forall_mem_cons.mpr ⟨lw_p60, List.forall_mem_cons.mpr ⟨lw_p61, List.forall_mem_cons.mpr ⟨lw_p62, fun _ h => absurd h List.not_mem_nil⟩⟩⟩⟩⟩⟩⟩⟩⟩⟩⟩⟩⟩⟩⟩
def lw_privs : List (MethodName × Nat) := lw_privs_1 ++ (lw_privs_2 ++ (lw_privs_3 ++ (lw_privs_4)))
def lw_tbl : List Cond := k2_sels lw_privs ++ tables_1
theorem lw_privs_ok : ∀ q ∈ lw_privs, lw_okq q := by
  show ∀ q ∈ lw_privs_1 ++ (lw_privs_2 ++ (lw_privs_3 ++ (lw_privs_4))), lw_okq q
  exact List.forall_mem_append.mpr ⟨lw_r1, List.forall_mem_append.mpr ⟨lw_r2, List.forall_mem_append.mpr ⟨lw_r3, lw_r4⟩⟩⟩

/-! ===== BEGIN printed: names, fields, word lists, decode rows ===== -/
def RX0 : String := "MarbleLaw$Course"
def TX0 : u_T := fun k => match k with
  | 0 => ("MarbleLaw$Course", "tale", "LMarbleLaw$Tale;", true)
  | 1 => ("MarbleLaw$Course", "lawWords", "[I", true)
  | 2 => ("MarbleLaw$Course", "answers", "I", false)
  | 3 => ("MarbleLaw$Course", "in", "[I", true)
  | 4 => ("MarbleLaw$Course", "sort", "[I", true)
  | 5 => ("MarbleLaw$Course", "worth", "[I", true)
  | 6 => ("MarbleLaw$Course", "amount", "[I", true)
  | 7 => ("MarbleLaw$Course", "lower", "[I", true)
  | 8 => ("MarbleLaw$Course", "parts", "[I", true)
  | 9 => ("MarbleLaw$Course", "blended", "[J", true)
  | 10 => ("MarbleLaw$Course", "tooFine", "Z", false)
  | 11 => ("MarbleLaw$Course", "chief", "I", false)
  | 12 => ("MarbleLaw$Course", "comer", "I", false)
  | 13 => ("MarbleLaw$Course", "chiefWorth", "I", false)
  | _ => ("MarbleLaw$Course", "comerWorth", "I", false)
def tyX0 : Nat → FieldType := fun k => match k with
  | 0 => .object "MarbleLaw$Tale"
  | 1 => .array .int
  | 2 => .int
  | 3 => .array .int
  | 4 => .array .int
  | 5 => .array .int
  | 6 => .array .int
  | 7 => .array .int
  | 8 => .array .int
  | 9 => .array .long
  | 10 => .boolean
  | 11 => .int
  | 12 => .int
  | 13 => .int
  | _ => .int
abbrev wsX00 : List Cond := u_ws RX0 TX0 15
theorem nmX0 : ∀ a, a < 15 → ∀ b, b < 15 → a ≠ b → (TX0 a).2.1 ≠ (TX0 b).2.1 := by decide +kernel
theorem tyX0_ok : ∀ k, k < 15 → parseFieldDescriptor (TX0 k).2.2.1 = some (tyX0 k) := by decide +kernel
abbrev cX0_init : ByteArray := prog_2_method_1_code
def yX0_init : MethodName := ⟨RX0, "<init>", "(LMarbleLaw$Tale;)V"⟩
abbrev cX0_begin : ByteArray := prog_2_method_2_code
def yX0_begin : MethodName := ⟨RX0, "begin", "(II)V"⟩
abbrev cX0_go : ByteArray := prog_2_method_3_code
def yX0_go : MethodName := ⟨RX0, "go", "(II)V"⟩
abbrev cX0_meet : ByteArray := prog_2_method_4_code
def yX0_meet : MethodName := ⟨RX0, "meet", "(I)V"⟩
abbrev cX0_someCame : ByteArray := prog_2_method_5_code
def yX0_someCame : MethodName := ⟨RX0, "someCame", "()Z"⟩
abbrev cX0_step : ByteArray := prog_2_method_6_code
def yX0_step : MethodName := ⟨RX0, "step", "(I)V"⟩
abbrev cX0_bringComer : ByteArray := prog_2_method_7_code
def yX0_bringComer : MethodName := ⟨RX0, "bringComer", "()V"⟩
abbrev cX0_share : ByteArray := prog_2_method_8_code
def yX0_share : MethodName := ⟨RX0, "share", "(II)V"⟩
abbrev cX0_formTakes : ByteArray := prog_2_method_9_code
def yX0_formTakes : MethodName := ⟨RX0, "formTakes", "(II)Z"⟩
abbrev cX0_chiefTakesJoin : ByteArray := prog_2_method_10_code
def yX0_chiefTakesJoin : MethodName := ⟨RX0, "chiefTakesJoin", "()Z"⟩
abbrev cX0_mixesByAmount : ByteArray := prog_2_method_11_code
def yX0_mixesByAmount : MethodName := ⟨RX0, "mixesByAmount", "()Z"⟩
abbrev cX0_writeTakes : ByteArray := prog_2_method_12_code
def yX0_writeTakes : MethodName := ⟨RX0, "writeTakes", "()Z"⟩
abbrev cX0_barsKnowing : ByteArray := prog_2_method_13_code
def yX0_barsKnowing : MethodName := ⟨RX0, "barsKnowing", "()Z"⟩
abbrev cX0_knew : ByteArray := prog_2_method_14_code
def yX0_knew : MethodName := ⟨RX0, "knew", "(I)Z"⟩
abbrev cX0_giveAll : ByteArray := prog_2_method_15_code
def yX0_giveAll : MethodName := ⟨RX0, "giveAll", "(II)V"⟩
abbrev cX0_blend : ByteArray := prog_2_method_16_code
def yX0_blend : MethodName := ⟨RX0, "blend", "(JJ)V"⟩
abbrev cX0_part : ByteArray := prog_2_method_17_code
def yX0_part : MethodName := ⟨RX0, "part", "(II)J"⟩
abbrev cX0_hasSome : ByteArray := prog_2_method_18_code
def yX0_hasSome : MethodName := ⟨RX0, "hasSome", "(II)Z"⟩
abbrev cX0_hasAll : ByteArray := prog_2_method_19_code
def yX0_hasAll : MethodName := ⟨RX0, "hasAll", "(II)Z"⟩
abbrev cX0_debts : ByteArray := prog_2_method_20_code
def yX0_debts : MethodName := ⟨RX0, "debts", "(I)I"⟩
abbrev cX0_sharesAlike : ByteArray := prog_2_method_21_code
def yX0_sharesAlike : MethodName := ⟨RX0, "sharesAlike", "(LMarbleLaw$Course;I)Z"⟩
abbrev cX0_namesPartOf : ByteArray := prog_2_method_22_code
def yX0_namesPartOf : MethodName := ⟨RX0, "namesPartOf", "(II)Z"⟩
abbrev cX0_slyWay : ByteArray := prog_2_method_23_code
def yX0_slyWay : MethodName := ⟨RX0, "slyWay", "(III)I"⟩
abbrev cX0_hasAnother : ByteArray := prog_2_method_24_code
def yX0_hasAnother : MethodName := ⟨RX0, "hasAnother", "(II)Z"⟩
def RX1 : String := "MarbleLaw$Heap"
def TX1 : u_T := fun k => match k with
  | 0 => ("MarbleLaw$Heap", "persons", "[I", true)
  | 1 => ("MarbleLaw$Heap", "amounts", "[I", true)
  | _ => ("MarbleLaw$Heap", "size", "I", false)
def tyX1 : Nat → FieldType := fun k => match k with
  | 0 => .array .int
  | 1 => .array .int
  | _ => .int
abbrev wsX10 : List Cond := u_ws RX1 TX1 3
theorem nmX1 : ∀ a, a < 3 → ∀ b, b < 3 → a ≠ b → (TX1 a).2.1 ≠ (TX1 b).2.1 := by decide +kernel
theorem tyX1_ok : ∀ k, k < 3 → parseFieldDescriptor (TX1 k).2.2.1 = some (tyX1 k) := by decide +kernel
abbrev cX1_init : ByteArray := prog_3_method_1_code
def yX1_init : MethodName := ⟨RX1, "<init>", "()V"⟩
abbrev cX1_add : ByteArray := prog_3_method_2_code
def yX1_add : MethodName := ⟨RX1, "add", "(II)V"⟩
abbrev cX1_total : ByteArray := prog_3_method_3_code
def yX1_total : MethodName := ⟨RX1, "total", "()I"⟩
abbrev cX1_amountOf : ByteArray := prog_3_method_4_code
def yX1_amountOf : MethodName := ⟨RX1, "amountOf", "(I)I"⟩
abbrev cX1_asNumber : ByteArray := prog_3_method_5_code
def yX1_asNumber : MethodName := ⟨RX1, "asNumber", "(I)I"⟩
abbrev cX1_drawFromFirst : ByteArray := prog_3_method_6_code
def yX1_drawFromFirst : MethodName := ⟨RX1, "drawFromFirst", "(I)V"⟩
abbrev cX1_drawByParts : ByteArray := prog_3_method_7_code
def yX1_drawByParts : MethodName := ⟨RX1, "drawByParts", "(I)V"⟩
abbrev cX1_drawFromLast : ByteArray := prog_3_method_8_code
def yX1_drawFromLast : MethodName := ⟨RX1, "drawFromLast", "(II)V"⟩
abbrev cX1_take : ByteArray := prog_3_method_9_code
def yX1_take : MethodName := ⟨RX1, "take", "(II)I"⟩
abbrev cX1_dropEmpty : ByteArray := prog_3_method_10_code
def yX1_dropEmpty : MethodName := ⟨RX1, "dropEmpty", "()V"⟩
abbrev cX1_addTo : ByteArray := prog_3_method_11_code
def yX1_addTo : MethodName := ⟨RX1, "addTo", "(J)J"⟩
def RX2 : String := "MarbleLaw$LawReader"
def TX2 : u_T := fun k => match k with
  | _ => ("MarbleLaw$LawReader", "chosen", "[I", true)
def tyX2 : Nat → FieldType := fun k => match k with
  | _ => .array .int
abbrev wsX20 : List Cond := u_ws RX2 TX2 1
theorem nmX2 : ∀ a, a < 1 → ∀ b, b < 1 → a ≠ b → (TX2 a).2.1 ≠ (TX2 b).2.1 := by decide +kernel
theorem tyX2_ok : ∀ k, k < 1 → parseFieldDescriptor (TX2 k).2.2.1 = some (tyX2 k) := by decide +kernel
abbrev cX2_init : ByteArray := prog_4_method_1_code
def yX2_init : MethodName := ⟨RX2, "<init>", "()V"⟩
abbrev cX2_read : ByteArray := prog_4_method_2_code
def yX2_read : MethodName := ⟨RX2, "read", "(LMarbleLaw$Row;)I"⟩
abbrev cX2_number : ByteArray := prog_4_method_3_code
def yX2_number : MethodName := ⟨RX2, "number", "()I"⟩
abbrev cX2_wordOf : ByteArray := prog_4_method_4_code
def yX2_wordOf : MethodName := ⟨RX2, "wordOf", "(I)I"⟩
abbrev cX2_choiceOf : ByteArray := prog_4_method_5_code
def yX2_choiceOf : MethodName := ⟨RX2, "choiceOf", "(II)I"⟩
abbrev cX2_lawInOrder : ByteArray := prog_4_method_6_code
def yX2_lawInOrder : MethodName := ⟨RX2, "lawInOrder", "(I)I"⟩
abbrev cX2_wordsBetween : ByteArray := prog_4_method_7_code
def yX2_wordsBetween : MethodName := ⟨RX2, "wordsBetween", "(II)I"⟩
def RX3 : String := "MarbleLaw$Row"
def TX3 : u_T := fun k => match k with
  | 0 => ("MarbleLaw$Row", "places", "[I", true)
  | _ => ("MarbleLaw$Row", "size", "I", false)
def tyX3 : Nat → FieldType := fun k => match k with
  | 0 => .array .int
  | _ => .int
abbrev wsX30 : List Cond := u_ws RX3 TX3 2
theorem nmX3 : ∀ a, a < 2 → ∀ b, b < 2 → a ≠ b → (TX3 a).2.1 ≠ (TX3 b).2.1 := by decide +kernel
theorem tyX3_ok : ∀ k, k < 2 → parseFieldDescriptor (TX3 k).2.2.1 = some (tyX3 k) := by decide +kernel
abbrev cX3_init : ByteArray := prog_5_method_1_code
def yX3_init : MethodName := ⟨RX3, "<init>", "()V"⟩
abbrev cX3_isMissing : ByteArray := prog_5_method_2_code
def yX3_isMissing : MethodName := ⟨RX3, "isMissing", "()Z"⟩
abbrev cX3_begin : ByteArray := prog_5_method_3_code
def yX3_begin : MethodName := ⟨RX3, "begin", "(II)V"⟩
abbrev cX3_hasFrom : ByteArray := prog_5_method_4_code
def yX3_hasFrom : MethodName := ⟨RX3, "hasFrom", "(II)Z"⟩
abbrev cX3_sum : ByteArray := prog_5_method_5_code
def yX3_sum : MethodName := ⟨RX3, "sum", "()J"⟩
abbrev cX3_addTo : ByteArray := prog_5_method_6_code
def yX3_addTo : MethodName := ⟨RX3, "addTo", "(J)J"⟩
def RX4 : String := "MarbleLaw$Tale"
def TX4 : u_T := fun k => match k with
  | 0 => ("MarbleLaw$Tale", "stuffNumbers", "[I", true)
  | 1 => ("MarbleLaw$Tale", "makingNumbers", "[I", true)
  | 2 => ("MarbleLaw$Tale", "stuffs", "I", false)
  | _ => ("MarbleLaw$Tale", "makings", "I", false)
def tyX4 : Nat → FieldType := fun k => match k with
  | 0 => .array .int
  | 1 => .array .int
  | 2 => .int
  | _ => .int
abbrev wsX40 : List Cond := u_ws RX4 TX4 4
theorem nmX4 : ∀ a, a < 4 → ∀ b, b < 4 → a ≠ b → (TX4 a).2.1 ≠ (TX4 b).2.1 := by decide +kernel
theorem tyX4_ok : ∀ k, k < 4 → parseFieldDescriptor (TX4 k).2.2.1 = some (tyX4 k) := by decide +kernel
abbrev cX4_init : ByteArray := prog_6_method_1_code
def yX4_init : MethodName := ⟨RX4, "<init>", "()V"⟩
abbrev cX4_ofStuff : ByteArray := prog_6_method_2_code
def yX4_ofStuff : MethodName := ⟨RX4, "ofStuff", "(II)I"⟩
abbrev cX4_ofMaking : ByteArray := prog_6_method_3_code
def yX4_ofMaking : MethodName := ⟨RX4, "ofMaking", "(II)I"⟩
abbrev cX4_setDebt : ByteArray := prog_6_method_4_code
def yX4_setDebt : MethodName := ⟨RX4, "setDebt", "(II)V"⟩
abbrev cX4_addStuff : ByteArray := prog_6_method_5_code
def yX4_addStuff : MethodName := ⟨RX4, "addStuff", "(IIII)I"⟩
abbrev cX4_addMaking : ByteArray := prog_6_method_6_code
def yX4_addMaking : MethodName := ⟨RX4, "addMaking", "(IIIIIIZ)I"⟩
abbrev cX4_addTo : ByteArray := prog_6_method_7_code
def yX4_addTo : MethodName := ⟨RX4, "addTo", "(J)J"⟩
def RX5 : String := "MarbleLaw"
def TX5 : u_T := fun k => match k with
  | 0 => ("MarbleLaw", "rows", "[LMarbleLaw$Row;", true)
  | 1 => ("MarbleLaw", "texts", "[LMarbleLaw$Row;", true)
  | 2 => ("MarbleLaw", "tale", "LMarbleLaw$Tale;", true)
  | 3 => ("MarbleLaw", "reader", "LMarbleLaw$LawReader;", true)
  | 4 => ("MarbleLaw", "lawNumbers", "[I", true)
  | 5 => ("MarbleLaw", "course", "LMarbleLaw$Course;", true)
  | 6 => ("MarbleLaw", "otherCourse", "LMarbleLaw$Course;", true)
  | 7 => ("MarbleLaw", "heaps", "[LMarbleLaw$Heap;", true)
  | 8 => ("MarbleLaw", "findingCounts", "[I", true)
  | 9 => ("MarbleLaw", "latestFinding", "I", false)
  | 10 => ("MarbleLaw", "askedNumber", "I", false)
  | 11 => ("MarbleLaw", "upperNumber", "J", false)
  | _ => ("MarbleLaw", "lowerNumber", "J", false)
def tyX5 : Nat → FieldType := fun k => match k with
  | 0 => .array (.object "MarbleLaw$Row")
  | 1 => .array (.object "MarbleLaw$Row")
  | 2 => .object "MarbleLaw$Tale"
  | 3 => .object "MarbleLaw$LawReader"
  | 4 => .array .int
  | 5 => .object "MarbleLaw$Course"
  | 6 => .object "MarbleLaw$Course"
  | 7 => .array (.object "MarbleLaw$Heap")
  | 8 => .array .int
  | 9 => .int
  | 10 => .int
  | 11 => .long
  | _ => .long
abbrev wsX50 : List Cond := u_ws RX5 TX5 13
theorem nmX5 : ∀ a, a < 13 → ∀ b, b < 13 → a ≠ b → (TX5 a).2.1 ≠ (TX5 b).2.1 := by decide +kernel
theorem tyX5_ok : ∀ k, k < 13 → parseFieldDescriptor (TX5 k).2.2.1 = some (tyX5 k) := by decide +kernel
abbrev cX5_init : ByteArray := prog_1_method_1_code
def yX5_init : MethodName := ⟨RX5, "<init>", "()V"⟩
abbrev cX5_row : ByteArray := prog_1_method_2_code
def yX5_row : MethodName := ⟨RX5, "row", "(II)I"⟩
abbrev cX5_lay : ByteArray := prog_1_method_3_code
def yX5_lay : MethodName := ⟨RX5, "lay", "(III)I"⟩
abbrev cX5_at : ByteArray := prog_1_method_4_code
def yX5_at : MethodName := ⟨RX5, "at", "(II)I"⟩
abbrev cX5_tear : ByteArray := prog_1_method_5_code
def yX5_tear : MethodName := ⟨RX5, "tear", "(I)I"⟩
abbrev cX5_copy : ByteArray := prog_1_method_6_code
def yX5_copy : MethodName := ⟨RX5, "copy", "(IIIII)I"⟩
abbrev cX5_mean : ByteArray := prog_1_method_7_code
def yX5_mean : MethodName := ⟨RX5, "mean", "(I)I"⟩
abbrev cX5_text : ByteArray := prog_1_method_8_code
def yX5_text : MethodName := ⟨RX5, "text", "(II)I"⟩
abbrev cX5_put : ByteArray := prog_1_method_9_code
def yX5_put : MethodName := ⟨RX5, "put", "(III)I"⟩
abbrev cX5_stuff : ByteArray := prog_1_method_10_code
def yX5_stuff : MethodName := ⟨RX5, "stuff", "(IIII)I"⟩
abbrev cX5_stuffs : ByteArray := prog_1_method_11_code
def yX5_stuffs : MethodName := ⟨RX5, "stuffs", "(I)I"⟩
abbrev cX5_debt : ByteArray := prog_1_method_12_code
def yX5_debt : MethodName := ⟨RX5, "debt", "(II)I"⟩
abbrev cX5_making : ByteArray := prog_1_method_13_code
def yX5_making : MethodName := ⟨RX5, "making", "(IIIIIIZ)I"⟩
abbrev cX5_about : ByteArray := prog_1_method_14_code
def yX5_about : MethodName := ⟨RX5, "about", "(II)I"⟩
abbrev cX5_told : ByteArray := prog_1_method_15_code
def yX5_told : MethodName := ⟨RX5, "told", "(II)I"⟩
abbrev cX5_mark : ByteArray := prog_1_method_16_code
def yX5_mark : MethodName := ⟨RX5, "mark", "(II)I"⟩
abbrev cX5_fault : ByteArray := prog_1_method_17_code
def yX5_fault : MethodName := ⟨RX5, "fault", "(I)I"⟩
abbrev cX5_laws : ByteArray := prog_1_method_18_code
def yX5_laws : MethodName := ⟨RX5, "laws", "(II)I"⟩
abbrev cX5_law : ByteArray := prog_1_method_19_code
def yX5_law : MethodName := ⟨RX5, "law", "(I)I"⟩
abbrev cX5_inside : ByteArray := prog_1_method_20_code
def yX5_inside : MethodName := ⟨RX5, "inside", "(II)I"⟩
abbrev cX5_now : ByteArray := prog_1_method_21_code
def yX5_now : MethodName := ⟨RX5, "now", "(III)I"⟩
abbrev cX5_whose : ByteArray := prog_1_method_22_code
def yX5_whose : MethodName := ⟨RX5, "whose", "(IIIII)I"⟩
abbrev cX5_owners : ByteArray := prog_1_method_23_code
def yX5_owners : MethodName := ⟨RX5, "owners", "(IIII)I"⟩
abbrev cX5_changes : ByteArray := prog_1_method_24_code
def yX5_changes : MethodName := ⟨RX5, "changes", "(IIII)I"⟩
abbrev cX5_lost : ByteArray := prog_1_method_25_code
def yX5_lost : MethodName := ⟨RX5, "lost", "(IIII)I"⟩
abbrev cX5_beside : ByteArray := prog_1_method_26_code
def yX5_beside : MethodName := ⟨RX5, "beside", "(III)I"⟩
abbrev cX5_undo : ByteArray := prog_1_method_27_code
def yX5_undo : MethodName := ⟨RX5, "undo", "(II)I"⟩
abbrev cX5_sure : ByteArray := prog_1_method_28_code
def yX5_sure : MethodName := ⟨RX5, "sure", "(IIII)I"⟩
abbrev cX5_hangs : ByteArray := prog_1_method_29_code
def yX5_hangs : MethodName := ⟨RX5, "hangs", "(IIII)I"⟩
abbrev cX5_sly : ByteArray := prog_1_method_30_code
def yX5_sly : MethodName := ⟨RX5, "sly", "(IIII)I"⟩
abbrev cX5_stop : ByteArray := prog_1_method_31_code
def yX5_stop : MethodName := ⟨RX5, "stop", "(IIII)I"⟩
abbrev cX5_inTime : ByteArray := prog_1_method_32_code
def yX5_inTime : MethodName := ⟨RX5, "inTime", "(III)I"⟩
abbrev cX5_heap : ByteArray := prog_1_method_33_code
def yX5_heap : MethodName := ⟨RX5, "heap", "(III)I"⟩
abbrev cX5_draw : ByteArray := prog_1_method_34_code
def yX5_draw : MethodName := ⟨RX5, "draw", "(IIII)I"⟩
abbrev cX5_left : ByteArray := prog_1_method_35_code
def yX5_left : MethodName := ⟨RX5, "left", "(II)I"⟩
abbrev cX5_layer : ByteArray := prog_1_method_36_code
def yX5_layer : MethodName := ⟨RX5, "layer", "(II)I"⟩
abbrev cX5_asked : ByteArray := prog_1_method_37_code
def yX5_asked : MethodName := ⟨RX5, "asked", "()I"⟩
abbrev cX5_upper : ByteArray := prog_1_method_38_code
def yX5_upper : MethodName := ⟨RX5, "upper", "()J"⟩
abbrev cX5_lower : ByteArray := prog_1_method_39_code
def yX5_lower : MethodName := ⟨RX5, "lower", "()J"⟩
abbrev cX5_count : ByteArray := prog_1_method_40_code
def yX5_count : MethodName := ⟨RX5, "count", "(I)I"⟩
abbrev cX5_finding : ByteArray := prog_1_method_41_code
def yX5_finding : MethodName := ⟨RX5, "finding", "()I"⟩
abbrev cX5_findings : ByteArray := prog_1_method_42_code
def yX5_findings : MethodName := ⟨RX5, "findings", "(I)I"⟩
abbrev cX5_digest : ByteArray := prog_1_method_43_code
def yX5_digest : MethodName := ⟨RX5, "digest", "()J"⟩
abbrev cX5_found : ByteArray := prog_1_method_44_code
def yX5_found : MethodName := ⟨RX5, "found", "(I)I"⟩
abbrev cX5_within : ByteArray := prog_1_method_45_code
def yX5_within : MethodName := ⟨RX5, "within", "(II)Z"⟩
abbrev cX5_isWork : ByteArray := prog_1_method_46_code
def yX5_isWork : MethodName := ⟨RX5, "isWork", "(I)Z"⟩
abbrev cX5_isJoin : ByteArray := prog_1_method_47_code
def yX5_isJoin : MethodName := ⟨RX5, "isJoin", "(I)Z"⟩
abbrev cX5_namesTwo : ByteArray := prog_1_method_48_code
def yX5_namesTwo : MethodName := ⟨RX5, "namesTwo", "(I)Z"⟩
abbrev cX5_isStuffAsTold : ByteArray := prog_1_method_49_code
def yX5_isStuffAsTold : MethodName := ⟨RX5, "isStuffAsTold", "(IIII)Z"⟩
abbrev cX5_isStuff : ByteArray := prog_1_method_50_code
def yX5_isStuff : MethodName := ⟨RX5, "isStuff", "(I)Z"⟩
abbrev cX5_isMaking : ByteArray := prog_1_method_51_code
def yX5_isMaking : MethodName := ⟨RX5, "isMaking", "(I)Z"⟩
abbrev cX5_isStory : ByteArray := prog_1_method_52_code
def yX5_isStory : MethodName := ⟨RX5, "isStory", "(I)Z"⟩
abbrev cX5_isAim : ByteArray := prog_1_method_53_code
def yX5_isAim : MethodName := ⟨RX5, "isAim", "(III)Z"⟩
abbrev cX5_begin : ByteArray := prog_1_method_54_code
def yX5_begin : MethodName := ⟨RX5, "begin", "([LMarbleLaw$Row;III)I"⟩
abbrev cX5_refusalOfPlace : ByteArray := prog_1_method_55_code
def yX5_refusalOfPlace : MethodName := ⟨RX5, "refusalOfPlace", "([LMarbleLaw$Row;II)I"⟩
abbrev cX5_standBehind : ByteArray := prog_1_method_56_code
def yX5_standBehind : MethodName := ⟨RX5, "standBehind", "(I)V"⟩
abbrev cX5_refusalOfParts : ByteArray := prog_1_method_57_code
def yX5_refusalOfParts : MethodName := ⟨RX5, "refusalOfParts", "(IIIII)I"⟩
abbrev cX5_answersByWhichHas : ByteArray := prog_1_method_58_code
def yX5_answersByWhichHas : MethodName := ⟨RX5, "answersByWhichHas", "(IIII)I"⟩
abbrev cX5_decide : ByteArray := prog_1_method_59_code
def yX5_decide : MethodName := ⟨RX5, "decide", "(II)Z"⟩
abbrev cX5_isStoppedBy : ByteArray := prog_1_method_60_code
def yX5_isStoppedBy : MethodName := ⟨RX5, "isStoppedBy", "(IIII)Z"⟩
abbrev cX5_tellFraction : ByteArray := prog_1_method_61_code
def yX5_tellFraction : MethodName := ⟨RX5, "tellFraction", "(JJ)V"⟩
abbrev cX5_divisorOf : ByteArray := prog_1_method_62_code
def yX5_divisorOf : MethodName := ⟨RX5, "divisorOf", "(JJ)J"⟩
abbrev cX5_thereOf : ByteArray := prog_1_method_63_code
def yX5_thereOf : MethodName := ⟨RX5, "thereOf", "([LMarbleLaw$Row;)I"⟩
abbrev cX5_counted : ByteArray := prog_1_method_64_code
def yX5_counted : MethodName := ⟨RX5, "counted", "(I)I"⟩
def RX6 : String := "MarbleLawModel"
def TX6 : u_T := fun k => match k with
  | 0 => ("MarbleLawModel", "finding", "I", false)
  | 1 => ("MarbleLawModel", "findings", "[I", true)
  | 2 => ("MarbleLawModel", "asked", "I", false)
  | 3 => ("MarbleLawModel", "upper", "J", false)
  | 4 => ("MarbleLawModel", "lower", "J", false)
  | 5 => ("MarbleLawModel", "sizes", "[I", true)
  | 6 => ("MarbleLawModel", "rows", "[I", true)
  | 7 => ("MarbleLawModel", "moving", "[I", true)
  | 8 => ("MarbleLawModel", "lengths", "[I", true)
  | 9 => ("MarbleLawModel", "texts", "[I", true)
  | 10 => ("MarbleLawModel", "stuffMany", "I", false)
  | 11 => ("MarbleLawModel", "abouts", "[I", true)
  | 12 => ("MarbleLawModel", "makingMany", "I", false)
  | 13 => ("MarbleLawModel", "makings", "[I", true)
  | 14 => ("MarbleLawModel", "numbers", "[I", true)
  | 15 => ("MarbleLawModel", "readNumber", "I", false)
  | 16 => ("MarbleLawModel", "inOf", "[I", true)
  | 17 => ("MarbleLawModel", "sorts", "[I", true)
  | 18 => ("MarbleLawModel", "worths", "[I", true)
  | 19 => ("MarbleLawModel", "amounts", "[I", true)
  | 20 => ("MarbleLawModel", "parts", "[J", true)
  | 21 => ("MarbleLawModel", "wholes", "[J", true)
  | 22 => ("MarbleLawModel", "isFine", "Z", false)
  | 23 => ("MarbleLawModel", "lawNow", "I", false)
  | 24 => ("MarbleLawModel", "answersNow", "I", false)
  | 25 => ("MarbleLawModel", "moved", "[J", true)
  | 26 => ("MarbleLawModel", "trails", "[J", true)
  | 27 => ("MarbleLawModel", "layerMany", "[I", true)
  | 28 => ("MarbleLawModel", "layerWho", "[I", true)
  | 29 => ("MarbleLawModel", "layerHas", "[I", true)
  | 30 => ("MarbleLawModel", "due", "I", false)
  | _ => ("MarbleLawModel", "h0", "J", false)
def tyX6 : Nat → FieldType := fun k => match k with
  | 0 => .int
  | 1 => .array .int
  | 2 => .int
  | 3 => .long
  | 4 => .long
  | 5 => .array .int
  | 6 => .array .int
  | 7 => .array .int
  | 8 => .array .int
  | 9 => .array .int
  | 10 => .int
  | 11 => .array .int
  | 12 => .int
  | 13 => .array .int
  | 14 => .array .int
  | 15 => .int
  | 16 => .array .int
  | 17 => .array .int
  | 18 => .array .int
  | 19 => .array .int
  | 20 => .array .long
  | 21 => .array .long
  | 22 => .boolean
  | 23 => .int
  | 24 => .int
  | 25 => .array .long
  | 26 => .array .long
  | 27 => .array .int
  | 28 => .array .int
  | 29 => .array .int
  | 30 => .int
  | _ => .long
abbrev wsX60 : List Cond := u_ws RX6 TX6 32
theorem nmX6 : ∀ a, a < 32 → ∀ b, b < 32 → a ≠ b → (TX6 a).2.1 ≠ (TX6 b).2.1 := by decide +kernel
theorem tyX6_ok : ∀ k, k < 32 → parseFieldDescriptor (TX6 k).2.2.1 = some (tyX6 k) := by decide +kernel
abbrev cX6_init : ByteArray := prog_8_method_1_code
def yX6_init : MethodName := ⟨RX6, "<init>", "()V"⟩
abbrev cX6_in : ByteArray := prog_8_method_3_code
def yX6_in : MethodName := ⟨RX6, "in", "(III)Z"⟩
abbrev cX6_meets : ByteArray := prog_8_method_4_code
def yX6_meets : MethodName := ⟨RX6, "meets", "(I)I"⟩
abbrev cX6_ask : ByteArray := prog_8_method_5_code
def yX6_ask : MethodName := ⟨RX6, "ask", "(II)I"⟩
abbrev cX6_has : ByteArray := prog_8_method_6_code
def yX6_has : MethodName := ⟨RX6, "has", "(II)Z"⟩
abbrev cX6_bits : ByteArray := prog_8_method_7_code
def yX6_bits : MethodName := ⟨RX6, "bits", "(I)I"⟩
abbrev cX6_divisor : ByteArray := prog_8_method_8_code
def yX6_divisor : MethodName := ⟨RX6, "divisor", "(JJ)J"⟩
abbrev cX6_share : ByteArray := prog_8_method_9_code
def yX6_share : MethodName := ⟨RX6, "share", "(JJI)I"⟩
abbrev cX6_isRow : ByteArray := prog_8_method_10_code
def yX6_isRow : MethodName := ⟨RX6, "isRow", "(I)Z"⟩
abbrev cX6_isText : ByteArray := prog_8_method_11_code
def yX6_isText : MethodName := ⟨RX6, "isText", "(I)Z"⟩
abbrev cX6_askedRow : ByteArray := prog_8_method_12_code
def yX6_askedRow : MethodName := ⟨RX6, "askedRow", "(I)I"⟩
abbrev cX6_askedText : ByteArray := prog_8_method_13_code
def yX6_askedText : MethodName := ⟨RX6, "askedText", "(I)I"⟩
abbrev cX6_rowAt : ByteArray := prog_8_method_14_code
def yX6_rowAt : MethodName := ⟨RX6, "rowAt", "(II)I"⟩
abbrev cX6_row : ByteArray := prog_8_method_15_code
def yX6_row : MethodName := ⟨RX6, "row", "(II)I"⟩
abbrev cX6_at : ByteArray := prog_8_method_16_code
def yX6_at : MethodName := ⟨RX6, "at", "(II)I"⟩
abbrev cX6_lay : ByteArray := prog_8_method_17_code
def yX6_lay : MethodName := ⟨RX6, "lay", "(III)I"⟩
abbrev cX6_tear : ByteArray := prog_8_method_18_code
def yX6_tear : MethodName := ⟨RX6, "tear", "(I)I"⟩
abbrev cX6_copy : ByteArray := prog_8_method_19_code
def yX6_copy : MethodName := ⟨RX6, "copy", "(IIIII)I"⟩
abbrev cX6_mean : ByteArray := prog_8_method_20_code
def yX6_mean : MethodName := ⟨RX6, "mean", "(I)I"⟩
abbrev cX6_text : ByteArray := prog_8_method_21_code
def yX6_text : MethodName := ⟨RX6, "text", "(II)I"⟩
abbrev cX6_put : ByteArray := prog_8_method_22_code
def yX6_put : MethodName := ⟨RX6, "put", "(III)I"⟩
abbrev cX6_isStuff : ByteArray := prog_8_method_23_code
def yX6_isStuff : MethodName := ⟨RX6, "isStuff", "(I)Z"⟩
abbrev cX6_isPerson : ByteArray := prog_8_method_24_code
def yX6_isPerson : MethodName := ⟨RX6, "isPerson", "(I)Z"⟩
abbrev cX6_areStuff : ByteArray := prog_8_method_25_code
def yX6_areStuff : MethodName := ⟨RX6, "areStuff", "(IIII)Z"⟩
abbrev cX6_newStuff : ByteArray := prog_8_method_26_code
def yX6_newStuff : MethodName := ⟨RX6, "newStuff", "(IIII)I"⟩
abbrev cX6_stuff : ByteArray := prog_8_method_27_code
def yX6_stuff : MethodName := ⟨RX6, "stuff", "(IIII)I"⟩
abbrev cX6_stuffs : ByteArray := prog_8_method_28_code
def yX6_stuffs : MethodName := ⟨RX6, "stuffs", "(I)I"⟩
abbrev cX6_debt : ByteArray := prog_8_method_29_code
def yX6_debt : MethodName := ⟨RX6, "debt", "(II)I"⟩
abbrev cX6_brings : ByteArray := prog_8_method_30_code
def yX6_brings : MethodName := ⟨RX6, "brings", "(I)Z"⟩
abbrev cX6_isV : ByteArray := prog_8_method_31_code
def yX6_isV : MethodName := ⟨RX6, "isV", "(III)Z"⟩
abbrev cX6_isWork : ByteArray := prog_8_method_32_code
def yX6_isWork : MethodName := ⟨RX6, "isWork", "(I)Z"⟩
abbrev cX6_making : ByteArray := prog_8_method_33_code
def yX6_making : MethodName := ⟨RX6, "making", "(IIIIIIZ)I"⟩
abbrev cX6_about : ByteArray := prog_8_method_34_code
def yX6_about : MethodName := ⟨RX6, "about", "(II)I"⟩
abbrev cX6_isMaking : ByteArray := prog_8_method_35_code
def yX6_isMaking : MethodName := ⟨RX6, "isMaking", "(I)Z"⟩
abbrev cX6_part : ByteArray := prog_8_method_36_code
def yX6_part : MethodName := ⟨RX6, "part", "(II)I"⟩
abbrev cX6_told : ByteArray := prog_8_method_37_code
def yX6_told : MethodName := ⟨RX6, "told", "(II)I"⟩
abbrev cX6_choice : ByteArray := prog_8_method_38_code
def yX6_choice : MethodName := ⟨RX6, "choice", "(II)I"⟩
abbrev cX6_placeOf : ByteArray := prog_8_method_39_code
def yX6_placeOf : MethodName := ⟨RX6, "placeOf", "(I)I"⟩
abbrev cX6_figure : ByteArray := prog_8_method_40_code
def yX6_figure : MethodName := ⟨RX6, "figure", "(II)I"⟩
abbrev cX6_byteAt : ByteArray := prog_8_method_41_code
def yX6_byteAt : MethodName := ⟨RX6, "byteAt", "(II)I"⟩
abbrev cX6_goesOn : ByteArray := prog_8_method_42_code
def yX6_goesOn : MethodName := ⟨RX6, "goesOn", "(I)I"⟩
abbrev cX6_fault : ByteArray := prog_8_method_43_code
def yX6_fault : MethodName := ⟨RX6, "fault", "(I)I"⟩
abbrev cX6_isLaws : ByteArray := prog_8_method_44_code
def yX6_isLaws : MethodName := ⟨RX6, "isLaws", "(I)Z"⟩
abbrev cX6_askedLaws : ByteArray := prog_8_method_45_code
def yX6_askedLaws : MethodName := ⟨RX6, "askedLaws", "(I)I"⟩
abbrev cX6_laws : ByteArray := prog_8_method_46_code
def yX6_laws : MethodName := ⟨RX6, "laws", "(II)I"⟩
abbrev cX6_law : ByteArray := prog_8_method_47_code
def yX6_law : MethodName := ⟨RX6, "law", "(I)I"⟩
abbrev cX6_begins : ByteArray := prog_8_method_48_code
def yX6_begins : MethodName := ⟨RX6, "begins", "(II)V"⟩
abbrev cX6_allTo : ByteArray := prog_8_method_49_code
def yX6_allTo : MethodName := ⟨RX6, "allTo", "(II)V"⟩
abbrev cX6_mixes : ByteArray := prog_8_method_50_code
def yX6_mixes : MethodName := ⟨RX6, "mixes", "(IIII)V"⟩
abbrev cX6_knows : ByteArray := prog_8_method_51_code
def yX6_knows : MethodName := ⟨RX6, "knows", "(I)Z"⟩
abbrev cX6_takes : ByteArray := prog_8_method_52_code
def yX6_takes : MethodName := ⟨RX6, "takes", "(IIIZ)Z"⟩
abbrev cX6_comes : ByteArray := prog_8_method_53_code
def yX6_comes : MethodName := ⟨RX6, "comes", "(IIII)V"⟩
abbrev cX6_makes : ByteArray := prog_8_method_54_code
def yX6_makes : MethodName := ⟨RX6, "makes", "(IIIIIZ)V"⟩
abbrev cX6_does : ByteArray := prog_8_method_55_code
def yX6_does : MethodName := ⟨RX6, "does", "(I)V"⟩
abbrev cX6_goes : ByteArray := prog_8_method_56_code
def yX6_goes : MethodName := ⟨RX6, "goes", "(IIII)Z"⟩
abbrev cX6_isMany : ByteArray := prog_8_method_57_code
def yX6_isMany : MethodName := ⟨RX6, "isMany", "(I)Z"⟩
abbrev cX6_mark : ByteArray := prog_8_method_58_code
def yX6_mark : MethodName := ⟨RX6, "mark", "(II)I"⟩
abbrev cX6_inside : ByteArray := prog_8_method_59_code
def yX6_inside : MethodName := ⟨RX6, "inside", "(II)I"⟩
abbrev cX6_now : ByteArray := prog_8_method_60_code
def yX6_now : MethodName := ⟨RX6, "now", "(III)I"⟩
abbrev cX6_areAnswers : ByteArray := prog_8_method_61_code
def yX6_areAnswers : MethodName := ⟨RX6, "areAnswers", "(I)Z"⟩
abbrev cX6_partOf : ByteArray := prog_8_method_62_code
def yX6_partOf : MethodName := ⟨RX6, "partOf", "(II)J"⟩
abbrev cX6_whose : ByteArray := prog_8_method_63_code
def yX6_whose : MethodName := ⟨RX6, "whose", "(IIIII)I"⟩
abbrev cX6_ownersOf : ByteArray := prog_8_method_64_code
def yX6_ownersOf : MethodName := ⟨RX6, "ownersOf", "(I)I"⟩
abbrev cX6_owners : ByteArray := prog_8_method_65_code
def yX6_owners : MethodName := ⟨RX6, "owners", "(IIII)I"⟩
abbrev cX6_changes : ByteArray := prog_8_method_66_code
def yX6_changes : MethodName := ⟨RX6, "changes", "(IIII)I"⟩
abbrev cX6_lost : ByteArray := prog_8_method_67_code
def yX6_lost : MethodName := ⟨RX6, "lost", "(IIII)I"⟩
abbrev cX6_setTrails : ByteArray := prog_8_method_68_code
def yX6_setTrails : MethodName := ⟨RX6, "setTrails", "(II)V"⟩
abbrev cX6_beside : ByteArray := prog_8_method_69_code
def yX6_beside : MethodName := ⟨RX6, "beside", "(III)I"⟩
abbrev cX6_undo : ByteArray := prog_8_method_70_code
def yX6_undo : MethodName := ⟨RX6, "undo", "(II)I"⟩
abbrev cX6_hasBy : ByteArray := prog_8_method_71_code
def yX6_hasBy : MethodName := ⟨RX6, "hasBy", "(IIII)I"⟩
abbrev cX6_askedBy : ByteArray := prog_8_method_72_code
def yX6_askedBy : MethodName := ⟨RX6, "askedBy", "(IIII)I"⟩
abbrev cX6_sure : ByteArray := prog_8_method_73_code
def yX6_sure : MethodName := ⟨RX6, "sure", "(IIII)I"⟩
abbrev cX6_hangs : ByteArray := prog_8_method_74_code
def yX6_hangs : MethodName := ⟨RX6, "hangs", "(IIII)I"⟩
abbrev cX6_hasAll : ByteArray := prog_8_method_75_code
def yX6_hasAll : MethodName := ⟨RX6, "hasAll", "(II)Z"⟩
abbrev cX6_slyBy : ByteArray := prog_8_method_76_code
def yX6_slyBy : MethodName := ⟨RX6, "slyBy", "(IIII)I"⟩
abbrev cX6_askedSly : ByteArray := prog_8_method_77_code
def yX6_askedSly : MethodName := ⟨RX6, "askedSly", "(IIII)I"⟩
abbrev cX6_sly : ByteArray := prog_8_method_78_code
def yX6_sly : MethodName := ⟨RX6, "sly", "(IIII)I"⟩
abbrev cX6_words : ByteArray := prog_8_method_79_code
def yX6_words : MethodName := ⟨RX6, "words", "(II)I"⟩
abbrev cX6_stop : ByteArray := prog_8_method_80_code
def yX6_stop : MethodName := ⟨RX6, "stop", "(IIII)I"⟩
abbrev cX6_inTime : ByteArray := prog_8_method_81_code
def yX6_inTime : MethodName := ⟨RX6, "inTime", "(III)I"⟩
abbrev cX6_isHeap : ByteArray := prog_8_method_82_code
def yX6_isHeap : MethodName := ⟨RX6, "isHeap", "(I)Z"⟩
abbrev cX6_heap : ByteArray := prog_8_method_83_code
def yX6_heap : MethodName := ⟨RX6, "heap", "(III)I"⟩
abbrev cX6_allOf : ByteArray := prog_8_method_84_code
def yX6_allOf : MethodName := ⟨RX6, "allOf", "(II)I"⟩
abbrev cX6_drawsFrom : ByteArray := prog_8_method_85_code
def yX6_drawsFrom : MethodName := ⟨RX6, "drawsFrom", "(II)V"⟩
abbrev cX6_draw : ByteArray := prog_8_method_86_code
def yX6_draw : MethodName := ⟨RX6, "draw", "(IIII)I"⟩
abbrev cX6_left : ByteArray := prog_8_method_87_code
def yX6_left : MethodName := ⟨RX6, "left", "(II)I"⟩
abbrev cX6_layer : ByteArray := prog_8_method_88_code
def yX6_layer : MethodName := ⟨RX6, "layer", "(II)I"⟩
abbrev cX6_asked : ByteArray := prog_8_method_89_code
def yX6_asked : MethodName := ⟨RX6, "asked", "()I"⟩
abbrev cX6_upper : ByteArray := prog_8_method_90_code
def yX6_upper : MethodName := ⟨RX6, "upper", "()J"⟩
abbrev cX6_lower : ByteArray := prog_8_method_91_code
def yX6_lower : MethodName := ⟨RX6, "lower", "()J"⟩
abbrev cX6_counts : ByteArray := prog_8_method_92_code
def yX6_counts : MethodName := ⟨RX6, "counts", "(I)I"⟩
abbrev cX6_count : ByteArray := prog_8_method_93_code
def yX6_count : MethodName := ⟨RX6, "count", "(I)I"⟩
abbrev cX6_finding : ByteArray := prog_8_method_94_code
def yX6_finding : MethodName := ⟨RX6, "finding", "()I"⟩
abbrev cX6_findings : ByteArray := prog_8_method_95_code
def yX6_findings : MethodName := ⟨RX6, "findings", "(I)I"⟩
abbrev cX6_mix : ByteArray := prog_8_method_96_code
def yX6_mix : MethodName := ⟨RX6, "mix", "(I)V"⟩
abbrev cX6_mixAll : ByteArray := prog_8_method_97_code
def yX6_mixAll : MethodName := ⟨RX6, "mixAll", "()V"⟩
abbrev cX6_digest : ByteArray := prog_8_method_98_code
def yX6_digest : MethodName := ⟨RX6, "digest", "()J"⟩
def RJ6 : String := "java/lang/Integer"
def TJ6 : u_T := fun k => match k with
  | _ => ("", "", "", false)
def tyJ6 : Nat → FieldType := fun k => match k with
  | _ => .int
abbrev wsJ60 : List Cond := u_ws RJ6 TJ6 0
theorem nmJ6 : ∀ a, a < 0 → ∀ b, b < 0 → a ≠ b → (TJ6 a).2.1 ≠ (TJ6 b).2.1 := by decide +kernel
theorem tyJ6_ok : ∀ k, k < 0 → parseFieldDescriptor (TJ6 k).2.2.1 = some (tyJ6 k) := by decide +kernel
abbrev cJ6_bitCount_0f7a4 : ByteArray := prog_9_method_49_code
def yJ6_bitCount_0f7a4 : MethodName := ⟨RJ6, "bitCount", "(I)I"⟩
def RJ9 : String := "java/lang/Math"
def TJ9 : u_T := fun k => match k with
  | _ => ("", "", "", false)
def tyJ9 : Nat → FieldType := fun k => match k with
  | _ => .int
abbrev wsJ90 : List Cond := u_ws RJ9 TJ9 0
theorem nmJ9 : ∀ a, a < 0 → ∀ b, b < 0 → a ≠ b → (TJ9 a).2.1 ≠ (TJ9 b).2.1 := by decide +kernel
theorem tyJ9_ok : ∀ k, k < 0 → parseFieldDescriptor (TJ9 k).2.2.1 = some (tyJ9 k) := by decide +kernel
abbrev cJ9_abs_067f4 : ByteArray := prog_10_method_61_code
def yJ9_abs_067f4 : MethodName := ⟨RJ9, "abs", "(J)J"⟩
abbrev cJ9_min_7cf53 : ByteArray := prog_10_method_69_code
def yJ9_min_7cf53 : MethodName := ⟨RJ9, "min", "(II)I"⟩
def RJ10 : String := "java/lang/System"
def TJ10 : u_T := fun k => match k with
  | _ => ("", "", "", false)
def tyJ10 : Nat → FieldType := fun k => match k with
  | _ => .int
abbrev wsJ100 : List Cond := u_ws RJ10 TJ10 0
theorem nmJ10 : ∀ a, a < 0 → ∀ b, b < 0 → a ≠ b → (TJ10 a).2.1 ≠ (TJ10 b).2.1 := by decide +kernel
theorem tyJ10_ok : ∀ k, k < 0 → parseFieldDescriptor (TJ10 k).2.2.1 = some (tyJ10 k) := by decide +kernel
def RL : String := "MarbleLawLaw"
abbrev cL_law : ByteArray := code
def yL_law : MethodName := ⟨RL, "law", "([I)Z"⟩

/-! ===== the words that stay, the nest's words, the classes, the array types ===== -/
def nk_gw : List Cond := lw_tbl.filter goodWord
def nk_nw : List (String × Nat × MethodName × String) := [("MarbleLaw", 20, ⟨"MarbleLaw$Tale", "<init>", "()V"⟩, "MarbleLaw"), ("MarbleLaw", 27, ⟨"MarbleLaw$LawReader", "<init>", "()V"⟩, "MarbleLaw"), ("MarbleLaw", 71, ⟨"MarbleLaw$Row", "<init>", "()V"⟩, "MarbleLaw"), ("MarbleLaw", 72, ⟨"MarbleLaw$Heap", "<init>", "()V"⟩, "MarbleLaw"), ("MarbleLaw$Course", 127, ⟨"MarbleLaw", "divisorOf", "(JJ)J"⟩, "MarbleLaw"), ("MarbleLaw$Course", 83, ⟨"MarbleLaw", "namesTwo", "(I)Z"⟩, "MarbleLaw")]
def nk_ao : List String := ["MarbleLaw$Row", "MarbleLaw$Heap"]
abbrev nk_cl : List vw_C := [(RX0, TX0, 15), (RX1, TX1, 3), (RX2, TX2, 1), (RX3, TX3, 2), (RX4, TX4, 4), (RX5, TX5, 13), (RX6, TX6, 32)]
abbrev nk_ty : List FieldType := [.int, .long, .object "MarbleLaw$Row", .object "MarbleLaw$Heap"]
/-- of an array type its components' class -/
abbrev nk_cm : List (Nat × Nat) := [(2, 3), (3, 1)]
/-- static arrays: handle, length, what they hold, class, name, descriptor -/
def nk_sta : List (Nat × Nat × (Nat → Int32) × String × String × String) := []
end
section
/-! ===== THE WALK BY A PICTURE: instructions over lists of values and of cells by handles ===== -/
abbrev nk_A : Type := (Nat → Int32) ⊕ (Nat → Int64) ⊕ (Nat → UInt32) ⊕ (Nat → UInt64) ⊕ (Nat → Option Nat)
/-- a cell: an array (its type's number, its length, what it holds), or an object (its class's number, its fields) -/
abbrev nk_O : Type := (Nat × Nat × nk_A) ⊕ (Nat × List Value)
abbrev nk_H : Type := List nk_O
abbrev nk_Ls : Type := List (Option Value)
abbrev nk_P : Type := Nat → nk_Ls → List Value → Prop
abbrev nk_K : Type := Nat → nk_Ls → List Value → nk_H → Nat → Nat → Prop
abbrev nk_Q : Type := Option Value → nk_H → Prop
abbrev nk_Ev : Type := List Value → nk_H → nk_Q → Prop
/-- an instruction: its length, what comes behind it, where it may go, its number -/
abbrev nk_I : Type := Instr × Nat × Nat × List Nat × Int32
def nk_br (c A B : Prop) : Prop := (c → A) ∧ (¬ c → B)
theorem nk_br.mk {c A B : Prop} (a : c → A) (b : ¬ c → B) : nk_br c A B := ⟨a, b⟩
theorem nk_br.t {c A B : Prop} (h : c) (a : A) : nk_br c A B := ⟨fun _ => a, fun n => absurd h n⟩
theorem nk_br.f {c A B : Prop} (h : ¬ c) (b : B) : nk_br c A B := ⟨fun n => absurd n h, fun _ => b⟩
def nk_lk {α : Type} : List (Nat × α) → Nat → Option α
  | [], _ => none
  | q :: l, i => bif Nat.beq q.1 i then some q.2 else nk_lk l i
def nk_sm {α : Type} (x : Option α) (k : α → Prop) : Prop := match x with
  | some a => k a
  | none => False
def nk_lg {α : Type} : List α → Nat → Option α
  | [], _ => none
  | a :: _, 0 => some a
  | _ :: l, i + 1 => nk_lg l i
def nk_get : nk_Ls → Nat → Option Value
  | [], _ => none
  | a :: _, 0 => a
  | _ :: l, i + 1 => nk_get l i
def nk_ins {α : Type} : List α → Nat → α → (List α → Prop) → Prop
  | [], _, _, _ => False
  | _ :: l, 0, v, k => k (v :: l)
  | a :: l, i + 1, v, k => nk_ins l i v (fun l' => k (a :: l'))
def nk_cut (L : nk_Ls) (i : Nat) (k : nk_Ls → Prop) : Prop := match i with
  | 0 => k L
  | j + 1 => match nk_get L j with
    | some (.long _) => nk_ins L j none k
    | some (.double _) => nk_ins L j none k
    | _ => k L
def nk_st1 (L : nk_Ls) (i : Nat) (v : Value) (k : nk_Ls → Prop) : Prop := nk_cut L i (fun L1 => nk_ins L1 i (some v) k)
def nk_st2 (L : nk_Ls) (i : Nat) (v : Value) (k : nk_Ls → Prop) : Prop := nk_cut L i (fun L1 => nk_ins L1 i (some v) (fun L2 => nk_ins L2 (i + 1) none k))
def nk_ldi (L : nk_Ls) (i : Nat) (k : Int32 → Prop) : Prop := match nk_get L i with
  | some (.int x) => k x
  | _ => False
def nk_ldl (L : nk_Ls) (i : Nat) (k : Int64 → Prop) : Prop := match nk_get L i with
  | some (.long x) => k x
  | _ => False
def nk_ldr (L : nk_Ls) (i : Nat) (k : Nat → Prop) : Prop := match nk_get L i with
  | some (.ref x) => k x
  | _ => False
def nk_pi (S : List Value) (k : Int32 → List Value → Prop) : Prop := match S with
  | .int x :: S => k x S
  | _ => False
def nk_pl (S : List Value) (k : Int64 → List Value → Prop) : Prop := match S with
  | .long x :: S => k x S
  | _ => False
def nk_pr (S : List Value) (k : Nat → List Value → Prop) : Prop := match S with
  | .ref x :: S => k x S
  | _ => False
/-- two numbers: the lower one first -/
def nk_pii (S : List Value) (k : Int32 → Int32 → List Value → Prop) : Prop := nk_pi S (fun y S => nk_pi S (fun x S => k x y S))
def nk_pll (S : List Value) (k : Int64 → Int64 → List Value → Prop) : Prop := nk_pl S (fun y S => nk_pl S (fun x S => k x y S))
def nk_l01 (v : Fin 2) : Int64 := match v with
  | 0 => 0
  | 1 => 1
def nk_c0 (cd : ClassFile.Cond) (x : Int32) (T F : Prop) : Prop := match cd with
  | .eq => nk_br (x = 0) T F
  | .ne => nk_br (x = 0) F T
  | .lt => nk_br (x < 0) T F
  | .ge => nk_br (0 ≤ x) T F
  | .gt => nk_br (0 < x) T F
  | .le => nk_br (x ≤ 0) T F
def nk_c2 (cd : ClassFile.Cond) (x y : Int32) (T F : Prop) : Prop := match cd with
  | .eq => nk_br (x = y) T F
  | .ne => nk_br (x = y) F T
  | .lt => nk_br (x < y) T F
  | .ge => nk_br (y ≤ x) T F
  | .gt => nk_br (y < x) T F
  | .le => nk_br (x ≤ y) T F
def nk_t1 (tg : List Nat) (k : Nat → Prop) : Prop := match tg with
  | [t] => k t
  | _ => False
/-- a switch: its places lo, lo + 1 .. -/
def nk_sw (tg : List Nat) (lo hi : Int) (x : Int32) (k : Nat → Prop) : Prop := match tg with
  | [] => False
  | d :: ts => (x.toInt < lo ∨ hi < x.toInt → k d) ∧ ∀ (j t : Nat), nk_lg ts j = some t → x.toInt = lo + j → k t
/-- what touches neither cells nor calls -/
def nk_pure (i : Instr) (nx : Nat) (tg : List Nat) (lit : Int32) (L : nk_Ls) (S : List Value) (K : nk_P) : Prop := match i with
  | .iconst _ => K nx L (.int lit :: S)
  | .bipush _ => K nx L (.int lit :: S)
  | .sipush _ => K nx L (.int lit :: S)
  | .lconst v => K nx L (.long (nk_l01 v) :: S)
  | .iload j => nk_ldi L j (fun x => K nx L (.int x :: S))
  | .iload_n j => nk_ldi L j.val (fun x => K nx L (.int x :: S))
  | .lload j => nk_ldl L j (fun x => K nx L (.long x :: S))
  | .lload_n j => nk_ldl L j.val (fun x => K nx L (.long x :: S))
  | .aload j => nk_ldr L j (fun x => K nx L (.ref x :: S))
  | .aload_n j => nk_ldr L j.val (fun x => K nx L (.ref x :: S))
  | .istore j => nk_pi S (fun x S => nk_st1 L j (.int x) (fun L => K nx L S))
  | .istore_n j => nk_pi S (fun x S => nk_st1 L j.val (.int x) (fun L => K nx L S))
  | .lstore j => nk_pl S (fun x S => nk_st2 L j (.long x) (fun L => K nx L S))
  | .lstore_n j => nk_pl S (fun x S => nk_st2 L j.val (.long x) (fun L => K nx L S))
  | .astore j => nk_pr S (fun x S => nk_st1 L j (.ref x) (fun L => K nx L S))
  | .astore_n j => nk_pr S (fun x S => nk_st1 L j.val (.ref x) (fun L => K nx L S))
  | .iinc j _ => nk_ldi L j (fun x => nk_st1 L j (.int (x + lit)) (fun L => K nx L S))
  | .iadd => nk_pii S (fun x y S => K nx L (.int (x + y) :: S))
  | .isub => nk_pii S (fun x y S => K nx L (.int (x - y) :: S))
  | .imul => nk_pii S (fun x y S => K nx L (.int (x * y) :: S))
  | .idiv => nk_pii S (fun x y S => ¬ y = 0 ∧ K nx L (.int (x / y) :: S))
  | .irem => nk_pii S (fun x y S => ¬ y = 0 ∧ K nx L (.int (x - x / y * y) :: S))
  | .iand => nk_pii S (fun x y S => K nx L (.int (x &&& y) :: S))
  | .ior => nk_pii S (fun x y S => K nx L (.int (x ||| y) :: S))
  | .ishl => nk_pii S (fun x y S => K nx L (.int (x <<< (y &&& 31)) :: S))
  | .ishr => nk_pii S (fun x y S => K nx L (.int (x >>> (y &&& 31)) :: S))
  | .iushr => nk_pii S (fun x y S => K nx L (.int ((x.toUInt32 >>> (y.toUInt32 &&& Int32.toUInt32 31)).toInt32) :: S))
  | .ladd => nk_pll S (fun x y S => K nx L (.long (x + y) :: S))
  | .lsub => nk_pll S (fun x y S => K nx L (.long (x - y) :: S))
  | .lmul => nk_pll S (fun x y S => K nx L (.long (x * y) :: S))
  | .ldiv => nk_pll S (fun x y S => ¬ y = 0 ∧ K nx L (.long (x / y) :: S))
  | .lrem => nk_pll S (fun x y S => ¬ y = 0 ∧ K nx L (.long (x - x / y * y) :: S))
  | .lneg => nk_pl S (fun x S => K nx L (.long (-x) :: S))
  | .i2l => nk_pi S (fun x S => K nx L (.long x.toInt64 :: S))
  | .l2i => nk_pl S (fun x S => K nx L (.int x.toInt32 :: S))
  | .i2b => nk_pi S (fun x S => K nx L (.int x.toInt8.toInt32 :: S))
  | .lcmp => nk_pll S (fun x y S => K nx L (.int (lg_cmp x y) :: S))
  | .dup => (match S with
    | .int x :: S => K nx L (.int x :: .int x :: S)
    | .ref x :: S => K nx L (.ref x :: .ref x :: S)
    | _ => False)
  | .dup2 => (match S with
    | .long x :: S => K nx L (.long x :: .long x :: S)
    | .int x :: .int y :: S => K nx L (.int x :: .int y :: .int x :: .int y :: S)
    | .int x :: .ref y :: S => K nx L (.int x :: .ref y :: .int x :: .ref y :: S)
    | _ => False)
  | .pop => (match S with
    | .int _ :: S => K nx L S
    | .ref _ :: S => K nx L S
    | _ => False)
  | .pop2 => nk_pl S (fun _ S => K nx L S)
  | .goto _ => nk_t1 tg (fun t => K t L S)
  | .ifCond cd _ => nk_t1 tg (fun t => nk_pi S (fun x S => nk_c0 cd x (K t L S) (K nx L S)))
  | .if_icmp cd _ => nk_t1 tg (fun t => nk_pii S (fun x y S => nk_c2 cd x y (K t L S) (K nx L S)))
  | .tableswitch _ lo hi _ => nk_pi S (fun x S => nk_sw tg lo hi x (fun t => K t L S))
  | _ => False
/-- what a row of a method's table must tell of its bytes -/
def nk_ok (pc : Nat) (i : Instr) (n nx : Nat) (tg : List Nat) (lit : Int32) : Bool := decide (nx = pc + n) && match i with
  | .iconst v => decide (n = 1) && decide (Int32.ofInt v = lit)
  | .bipush v => decide (n = 2) && decide ((Int8.ofInt v).toInt32 = lit)
  | .sipush v => decide (n = 3) && decide ((Int16.ofInt v).toInt32 = lit)
  | .lconst v => decide (n = 1) && decide (Int64.ofNat v.val = nk_l01 v)
  | .iload _ => decide (n = 2)
  | .lload _ => decide (n = 2)
  | .aload _ => decide (n = 2)
  | .istore _ => decide (n = 2)
  | .lstore _ => decide (n = 2)
  | .astore _ => decide (n = 2)
  | .iinc _ v => decide (n = 3) && decide (Int32.ofInt v = lit)
  | .goto o => decide (n = 3) && decide (tg = [((pc : Int) + o).toNat] ∧ (pc : Int) + o = (((pc : Int) + o).toNat : Int))
  | .ifCond _ o => decide (n = 3) && decide (tg = [((pc : Int) + o).toNat] ∧ (pc : Int) + o = (((pc : Int) + o).toNat : Int))
  | .if_icmp _ o => decide (n = 3) && decide (tg = [((pc : Int) + o).toNat] ∧ (pc : Int) + o = (((pc : Int) + o).toNat : Int))
  | .tableswitch d lo hi os => decide (tg = ((pc : Int) + d).toNat :: os.toList.map (fun o => ((pc : Int) + o).toNat)) && decide ((pc : Int) + d = (((pc : Int) + d).toNat : Int)) && os.toList.all (fun o => decide ((pc : Int) + o = (((pc : Int) + o).toNat : Int))) && decide (hi - lo + 1 = os.size)
  | .getfield _ => decide (n = 3)
  | .putfield _ => decide (n = 3)
  | .getstatic _ => decide (n = 3)
  | .invokevirtual _ => decide (n = 3)
  | .invokespecial _ => decide (n = 3)
  | .invokestatic _ => decide (n = 3)
  | .new _ => decide (n = 3)
  | .anewarray _ => decide (n = 3)
  | .newarray _ => decide (n = 2)
  | .ldc _ => decide (n = 2)
  | .ldc_w _ => decide (n = 3)
  | .ldc2_w _ => decide (n = 3)
  | .lookupswitch _ _ => true
  | _ => decide (n = 1)
end
section
/-! ===== the instructions that touch neither cells nor calls are sound ===== -/
def nk_v (ad : Nat → Nat) (v : Value) : Value := match v with
  | .ref k => .ref (ad k)
  | v => v
theorem nk_v_cat (ad : Nat → Nat) (v : Value) : (nk_v ad v).category = v.category := by cases v <;> rfl
theorem nk_lg_eq {α : Type} : ∀ (l : List α) (i : Nat), nk_lg l i = l[i]?
  | [], i => by simp [nk_lg]
  | a :: l, 0 => by simp [nk_lg]
  | a :: l, i + 1 => by simp only [nk_lg, List.getElem?_cons_succ]; exact nk_lg_eq l i
theorem nk_get_eq : ∀ (l : nk_Ls) (i : Nat), nk_get l i = (l[i]?).join
  | [], i => by simp [nk_get]
  | a :: l, 0 => by simp [nk_get]
  | a :: l, i + 1 => by simp only [nk_get, List.getElem?_cons_succ]; exact nk_get_eq l i
theorem nk_get_lt {L : nk_Ls} {i : Nat} {v : Value} (h : nk_get L i = some v) : i < L.length := by
  rw [nk_get_eq] at h
  rcases Nat.lt_or_ge i L.length with q | q
  · exact q
  · rw [List.getElem?_eq_none q] at h
    cases h
theorem nk_ins_set {α : Type} : ∀ (l : List α) (i : Nat) (v : α) (k : List α → Prop), nk_ins l i v k → i < l.length ∧ k (l.set i v)
  | [], _, _, _, h => False.elim h
  | a :: l, 0, v, k, h => ⟨Nat.zero_lt_succ _, h⟩
  | a :: l, i + 1, v, k, h => by
    obtain ⟨h1, h2⟩ := nk_ins_set l i v _ h
    exact ⟨Nat.succ_lt_succ h1, h2⟩
theorem nk_get_set (L : nk_Ls) (i j : Nat) (a : Option Value) (hi : i < L.length) : nk_get (L.set i a) j = if j = i then a else nk_get L j := by
  rw [nk_get_eq, nk_get_eq, List.getElem?_set]
  by_cases h : i = j
  · subst h
    simp [hi]
  · rw [if_neg h, if_neg (fun q => h q.symm)]
theorem nk_cut_inv {L : nk_Ls} {i : Nat} {k : nk_Ls → Prop} (h : nk_cut L i k) : ∃ L1 : nk_Ls, k L1 ∧ L1.length = L.length ∧ ∀ (j : Nat) (w : Value), nk_get L1 j = some w → nk_get L j = some w ∧ ¬ (j + 1 = i ∧ w.category = 2) := by
  cases i with
  | zero => exact ⟨L, h, rfl, fun j w hw => ⟨hw, fun q => by omega⟩⟩
  | succ j0 =>
    have key : ∀ v : Value, nk_get L j0 = some v → nk_ins L j0 none k → ∃ L1 : nk_Ls, k L1 ∧ L1.length = L.length ∧ ∀ (j : Nat) (w : Value), nk_get L1 j = some w → nk_get L j = some w ∧ ¬ (j + 1 = j0 + 1 ∧ w.category = 2) := by
      intro v hv h1
      obtain ⟨h2, h3⟩ := nk_ins_set L j0 none k h1
      refine ⟨_, h3, List.length_set, fun j w hw => ?_⟩
      rw [nk_get_set L j0 j none h2] at hw
      by_cases hj : j = j0
      · rw [if_pos hj] at hw; cases hw
      · rw [if_neg hj] at hw
        exact ⟨hw, fun q => hj (by omega)⟩
    have other : (∀ v : Value, nk_get L j0 = some v → v.category ≠ 2) → k L → ∃ L1 : nk_Ls, k L1 ∧ L1.length = L.length ∧ ∀ (j : Nat) (w : Value), nk_get L1 j = some w → nk_get L j = some w ∧ ¬ (j + 1 = j0 + 1 ∧ w.category = 2) := by
      intro hv h1
      refine ⟨L, h1, rfl, fun j w hw => ⟨hw, fun q => ?_⟩⟩
      have hj : j = j0 := by omega
      subst hj
      exact hv w hw q.2
    simp only [nk_cut] at h
    cases hg : nk_get L j0 with
    | none => rw [hg] at h; exact other (fun v hv => by rw [hg] at hv; cases hv) h
    | some v =>
      rw [hg] at h
      cases v with
      | long x => exact key _ hg h
      | double x => exact key _ hg h
      | int x => exact other (fun v hv => by rw [hg] at hv; cases hv; simp [Value.category]) h
      | float x => exact other (fun v hv => by rw [hg] at hv; cases hv; simp [Value.category]) h
      | null => exact other (fun v hv => by rw [hg] at hv; cases hv; simp [Value.category]) h
      | ref x => exact other (fun v hv => by rw [hg] at hv; cases hv; simp [Value.category]) h
      | retAddr x => exact other (fun v hv => by rw [hg] at hv; cases hv; simp [Value.category]) h
theorem nk_st1_inv {L : nk_Ls} {i : Nat} {v : Value} {k : nk_Ls → Prop} (h : nk_st1 L i v k) : ∃ L' : nk_Ls, k L' ∧ L'.length = L.length ∧ i < L.length ∧ ∀ (j : Nat) (w : Value), nk_get L' j = some w → (j = i ∧ w = v) ∨ (nk_get L j = some w ∧ j ≠ i ∧ ¬ (j + 1 = i ∧ w.category = 2)) := by
  obtain ⟨L1, h1, hl1, hg1⟩ := nk_cut_inv h
  obtain ⟨h2, h3⟩ := nk_ins_set L1 i (some v) k h1
  refine ⟨_, h3, by rw [List.length_set, hl1], by omega, fun j w hw => ?_⟩
  rw [nk_get_set L1 i j (some v) h2] at hw
  by_cases hj : j = i
  · rw [if_pos hj] at hw
    exact Or.inl ⟨hj, (Option.some.inj hw).symm⟩
  · rw [if_neg hj] at hw
    exact Or.inr ⟨(hg1 j w hw).1, hj, (hg1 j w hw).2⟩
theorem nk_st2_inv {L : nk_Ls} {i : Nat} {v : Value} {k : nk_Ls → Prop} (h : nk_st2 L i v k) : ∃ L' : nk_Ls, k L' ∧ L'.length = L.length ∧ i + 1 < L.length ∧ ∀ (j : Nat) (w : Value), nk_get L' j = some w → (j = i ∧ w = v) ∨ (nk_get L j = some w ∧ j ≠ i ∧ j ≠ i + 1 ∧ ¬ (j + 1 = i ∧ w.category = 2)) := by
  obtain ⟨L1, h1, hl1, hg1⟩ := nk_cut_inv h
  obtain ⟨h2, h3⟩ := nk_ins_set L1 i (some v) _ h1
  obtain ⟨h4, h5⟩ := nk_ins_set _ (i + 1) none k h3
  rw [List.length_set] at h4
  refine ⟨_, h5, by rw [List.length_set, List.length_set, hl1], by omega, fun j w hw => ?_⟩
  rw [nk_get_set _ (i + 1) j none (by rw [List.length_set]; exact h4), nk_get_set L1 i j (some v) h2] at hw
  by_cases hj1 : j = i + 1
  · rw [if_pos hj1] at hw; cases hw
  · rw [if_neg hj1] at hw
    by_cases hj : j = i
    · rw [if_pos hj] at hw
      exact Or.inl ⟨hj, (Option.some.inj hw).symm⟩
    · rw [if_neg hj] at hw
      exact Or.inr ⟨(hg1 j w hw).1, hj, hj1, (hg1 j w hw).2⟩
theorem nk_ldi_inv {L : nk_Ls} {i : Nat} {k : Int32 → Prop} (h : nk_ldi L i k) : ∃ x, nk_get L i = some (.int x) ∧ k x := by
  unfold nk_ldi at h
  split at h
  · exact ⟨_, by assumption, h⟩
  · exact h.elim
theorem nk_ldl_inv {L : nk_Ls} {i : Nat} {k : Int64 → Prop} (h : nk_ldl L i k) : ∃ x, nk_get L i = some (.long x) ∧ k x := by
  unfold nk_ldl at h
  split at h
  · exact ⟨_, by assumption, h⟩
  · exact h.elim
theorem nk_ldr_inv {L : nk_Ls} {i : Nat} {k : Nat → Prop} (h : nk_ldr L i k) : ∃ x, nk_get L i = some (.ref x) ∧ k x := by
  unfold nk_ldr at h
  split at h
  · exact ⟨_, by assumption, h⟩
  · exact h.elim
theorem nk_pi_inv {S : List Value} {k : Int32 → List Value → Prop} (h : nk_pi S k) : ∃ x S', S = .int x :: S' ∧ k x S' := by
  unfold nk_pi at h
  split at h
  · exact ⟨_, _, rfl, h⟩
  · exact h.elim
theorem nk_pl_inv {S : List Value} {k : Int64 → List Value → Prop} (h : nk_pl S k) : ∃ x S', S = .long x :: S' ∧ k x S' := by
  unfold nk_pl at h
  split at h
  · exact ⟨_, _, rfl, h⟩
  · exact h.elim
theorem nk_pr_inv {S : List Value} {k : Nat → List Value → Prop} (h : nk_pr S k) : ∃ x S', S = .ref x :: S' ∧ k x S' := by
  unfold nk_pr at h
  split at h
  · exact ⟨_, _, rfl, h⟩
  · exact h.elim
theorem nk_pii_inv {S : List Value} {k : Int32 → Int32 → List Value → Prop} (h : nk_pii S k) : ∃ x y S', S = .int y :: .int x :: S' ∧ k x y S' := by
  obtain ⟨y, S1, e1, h1⟩ := nk_pi_inv h
  obtain ⟨x, S2, e2, h2⟩ := nk_pi_inv h1
  exact ⟨x, y, S2, by rw [e1, e2], h2⟩
theorem nk_pll_inv {S : List Value} {k : Int64 → Int64 → List Value → Prop} (h : nk_pll S k) : ∃ x y S', S = .long y :: .long x :: S' ∧ k x y S' := by
  obtain ⟨y, S1, e1, h1⟩ := nk_pl_inv h
  obtain ⟨x, S2, e2, h2⟩ := nk_pl_inv h1
  exact ⟨x, y, S2, by rw [e1, e2], h2⟩
theorem nk_t1_inv {tg : List Nat} {k : Nat → Prop} (h : nk_t1 tg k) : ∃ t, tg = [t] ∧ k t := by
  unfold nk_t1 at h
  split at h
  · exact ⟨_, rfl, h⟩
  · exact h.elim
/-- the locals as the picture has them -/
def nk_L (ad : Nat → Nat) (ls : Array Slot) (n : Nat) (L : nk_Ls) : Prop := L.length = n ∧ ls.size = n ∧ lv_wf ls ∧ ∀ (i : Nat) (v : Value), nk_get L i = some v → ls[i]? = some (.val (nk_v ad v))
def nk_al (ad : Nat → Nat) (L : nk_Ls) : List (Nat × Value) := (List.range L.length).filterMap (fun i => (nk_get L i).map (fun v => (i, nk_v ad v)))
theorem nk_al_mem {ad : Nat → Nat} {L : nk_Ls} {q : Nat × Value} : q ∈ nk_al ad L ↔ ∃ v, nk_get L q.1 = some v ∧ q.2 = nk_v ad v := by
  unfold nk_al
  rw [List.mem_filterMap]
  constructor
  · rintro ⟨i, -, hi⟩
    cases hg : nk_get L i with
    | none => rw [hg] at hi; cases hi
    | some v =>
      rw [hg] at hi
      cases hi
      exact ⟨v, hg, rfl⟩
  · rintro ⟨v, h1, h2⟩
    refine ⟨q.1, List.mem_range.mpr (nk_get_lt h1), ?_⟩
    rw [h1]
    show some (q.1, nk_v ad v) = some q
    rw [← h2]
theorem nk_L.has {ad : Nat → Nat} {ls : Array Slot} {n : Nat} {L : nk_Ls} (h : nk_L ad ls n L) : lv_has ls n (nk_al ad L) := by
  refine ⟨h.2.1, h.2.2.1, fun q hq => ?_⟩
  obtain ⟨v, h1, h2⟩ := nk_al_mem.mp hq
  rw [h2]
  exact h.2.2.2 q.1 v h1
theorem nk_L.st1 {ad : Nat → Nat} {ls ls' : Array Slot} {n i : Nat} {v : Value} {L L' : nk_Ls} (h : nk_L ad ls n L) (hl : L'.length = L.length) (hg : ∀ (j : Nat) (w : Value), nk_get L' j = some w → (j = i ∧ w = v) ∨ (nk_get L j = some w ∧ j ≠ i ∧ ¬ (j + 1 = i ∧ w.category = 2)))
    (h' : lv_has ls' n ((i, nk_v ad v) :: (nk_al ad L).filter (fun q => !(q.1 == i) && !(q.1 + 1 == i && q.2.category == 2)))) : nk_L ad ls' n L' := by
  refine ⟨hl.trans h.1, h'.1, h'.2.1, fun j w hw => ?_⟩
  rcases hg j w hw with ⟨rfl, rfl⟩ | ⟨h1, h2, h3⟩
  · exact h'.2.2 _ List.mem_cons_self
  · refine h'.2.2 (j, nk_v ad w) (List.mem_cons_of_mem _ (List.mem_filter.mpr ⟨nk_al_mem.mpr ⟨w, h1, rfl⟩, ?_⟩))
    have e1 : (j == i) = false := by simpa using h2
    by_cases hj : j + 1 = i
    · have hc : ¬ w.category = 2 := fun q => h3 ⟨hj, q⟩
      simp [e1, nk_v_cat, hc]
    · simp [e1, hj]
theorem nk_L.st2 {ad : Nat → Nat} {ls ls' : Array Slot} {n i : Nat} {v : Value} {L L' : nk_Ls} (h : nk_L ad ls n L) (hl : L'.length = L.length) (hg : ∀ (j : Nat) (w : Value), nk_get L' j = some w → (j = i ∧ w = v) ∨ (nk_get L j = some w ∧ j ≠ i ∧ j ≠ i + 1 ∧ ¬ (j + 1 = i ∧ w.category = 2)))
    (h' : lv_has ls' n ((i, nk_v ad v) :: (nk_al ad L).filter (fun q => !(q.1 == i) && (!(q.1 == i + 1) && !(q.1 + 1 == i && q.2.category == 2))))) : nk_L ad ls' n L' := by
  refine ⟨hl.trans h.1, h'.1, h'.2.1, fun j w hw => ?_⟩
  rcases hg j w hw with ⟨rfl, rfl⟩ | ⟨h1, h2, h4, h3⟩
  · exact h'.2.2 _ List.mem_cons_self
  · refine h'.2.2 (j, nk_v ad w) (List.mem_cons_of_mem _ (List.mem_filter.mpr ⟨nk_al_mem.mpr ⟨w, h1, rfl⟩, ?_⟩))
    have e1 : (j == i) = false := by simpa using h2
    have e2 : (j == i + 1) = false := by simpa using h4
    by_cases hj : j + 1 = i
    · have hc : ¬ w.category = 2 := fun q => h3 ⟨hj, q⟩
      simp [e1, e2, nk_v_cat, hc]
    · simp [e1, e2, hj]
section NkPure
variable {p : Program} {l : Launch} {e : Env} {R : Room} {s : State} {m : MethodId} {args : Array Value} {below : List Frame} {meth : Method} {c : Code} {H : Heap} {locs : List Loc} {cells slots : Nat} {Q : State → Prop}
variable {cc : ByteArray} {ad : Nat → Nat} {nL : Nat}
set_option maxHeartbeats 4000000 in
theorem nk_pureW (hx : p.tables.exec = Jvm.exec) (hb : c.code = cc) {pc n nx : Nat} {i : Instr} {tg : List Nat} {lit : Int32} (hdg : decode cc pc = .ok (i, n)) (hok : nk_ok pc i n nx tg lit = true) {L : nk_Ls} {S : List Value} {K : nk_P} (hp : nk_pure i nx tg lit L S K)
    (kk : ∀ (pc' : Nat) (L' : nk_Ls) (S' : List Value), K pc' L' S' → ∀ ls' : Array Slot, nk_L ad ls' nL L' → W p l e R s m args below meth c H locs cells slots Q (F0 m pc' ls' (S'.map (nk_v ad)))) {ls : Array Slot} (hL : nk_L ad ls nL L) :
    W p l e R s m args below meth c H locs cells slots Q (F0 m pc ls (S.map (nk_v ad))) := by
  cases i
  case iconst v =>
    simp only [nk_ok, Bool.and_eq_true, decide_eq_true_eq] at hok
    obtain ⟨rfl, rfl, hv⟩ := hok
    exact lv_iconst hx hb hdg hv (kk _ _ _ hp ls hL)
  case bipush v =>
    simp only [nk_ok, Bool.and_eq_true, decide_eq_true_eq] at hok
    obtain ⟨rfl, rfl, hv⟩ := hok
    exact lv_bipush hx hb hdg hv (kk _ _ _ hp ls hL)
  case sipush v =>
    simp only [nk_ok, Bool.and_eq_true, decide_eq_true_eq] at hok
    obtain ⟨rfl, rfl, hv⟩ := hok
    exact lv_sipush hx hb hdg hv (kk _ _ _ hp ls hL)
  case lconst v =>
    simp only [nk_ok, Bool.and_eq_true, decide_eq_true_eq] at hok
    obtain ⟨rfl, rfl, hv⟩ := hok
    exact lv_lconst hx hb hdg hv (kk _ _ _ hp ls hL)
  case iload j =>
    simp only [nk_ok, Bool.and_eq_true, decide_eq_true_eq] at hok
    obtain ⟨rfl, rfl⟩ := hok
    obtain ⟨x, hg, hp⟩ := nk_ldi_inv hp
    exact lv_iload hx hb hdg (hL.2.2.2 _ _ hg) (kk _ _ _ hp ls hL)
  case lload j =>
    simp only [nk_ok, Bool.and_eq_true, decide_eq_true_eq] at hok
    obtain ⟨rfl, rfl⟩ := hok
    obtain ⟨x, hg, hp⟩ := nk_ldl_inv hp
    exact lv_lload hx hb hdg (hL.2.2.2 _ _ hg) (kk _ _ _ hp ls hL)
  case aload j =>
    simp only [nk_ok, Bool.and_eq_true, decide_eq_true_eq] at hok
    obtain ⟨rfl, rfl⟩ := hok
    obtain ⟨x, hg, hp⟩ := nk_ldr_inv hp
    exact lv_aload hx hb hdg (hL.2.2.2 _ _ hg) (kk _ _ _ hp ls hL)
  case iload_n j =>
    simp only [nk_ok, Bool.and_eq_true, decide_eq_true_eq] at hok
    obtain ⟨rfl, rfl⟩ := hok
    obtain ⟨x, hg, hp⟩ := nk_ldi_inv hp
    exact lv_iload_n hx hb hdg rfl (hL.2.2.2 _ _ hg) (kk _ _ _ hp ls hL)
  case lload_n j =>
    simp only [nk_ok, Bool.and_eq_true, decide_eq_true_eq] at hok
    obtain ⟨rfl, rfl⟩ := hok
    obtain ⟨x, hg, hp⟩ := nk_ldl_inv hp
    exact lv_lload_n hx hb hdg rfl (hL.2.2.2 _ _ hg) (kk _ _ _ hp ls hL)
  case aload_n j =>
    simp only [nk_ok, Bool.and_eq_true, decide_eq_true_eq] at hok
    obtain ⟨rfl, rfl⟩ := hok
    obtain ⟨x, hg, hp⟩ := nk_ldr_inv hp
    exact lv_aload_n hx hb hdg rfl (hL.2.2.2 _ _ hg) (kk _ _ _ hp ls hL)
  case istore j =>
    simp only [nk_ok, Bool.and_eq_true, decide_eq_true_eq] at hok
    obtain ⟨rfl, rfl⟩ := hok
    obtain ⟨x, S1, rfl, hp⟩ := nk_pi_inv hp
    obtain ⟨L', hk, hl, hi, hg⟩ := nk_st1_inv hp
    exact lv_istore hx hb hdg hL.has (by rw [← hL.1]; exact hi) rfl (fun ls' h' => kk _ _ _ hk ls' (hL.st1 hl hg h'))
  case istore_n j =>
    simp only [nk_ok, Bool.and_eq_true, decide_eq_true_eq] at hok
    obtain ⟨rfl, rfl⟩ := hok
    obtain ⟨x, S1, rfl, hp⟩ := nk_pi_inv hp
    obtain ⟨L', hk, hl, hi, hg⟩ := nk_st1_inv hp
    exact lv_istore_n hx hb hdg rfl hL.has (by rw [← hL.1]; exact hi) rfl (fun ls' h' => kk _ _ _ hk ls' (hL.st1 hl hg h'))
  case lstore j =>
    simp only [nk_ok, Bool.and_eq_true, decide_eq_true_eq] at hok
    obtain ⟨rfl, rfl⟩ := hok
    obtain ⟨x, S1, rfl, hp⟩ := nk_pl_inv hp
    obtain ⟨L', hk, hl, hi, hg⟩ := nk_st2_inv hp
    exact lv_lstore hx hb hdg hL.has (by rw [← hL.1]; exact hi) rfl (fun ls' h' => kk _ _ _ hk ls' (hL.st2 hl hg h'))
  case lstore_n j =>
    simp only [nk_ok, Bool.and_eq_true, decide_eq_true_eq] at hok
    obtain ⟨rfl, rfl⟩ := hok
    obtain ⟨x, S1, rfl, hp⟩ := nk_pl_inv hp
    obtain ⟨L', hk, hl, hi, hg⟩ := nk_st2_inv hp
    exact lv_lstore_n hx hb hdg rfl hL.has (by rw [← hL.1]; exact hi) rfl (fun ls' h' => kk _ _ _ hk ls' (hL.st2 hl hg h'))
  case astore j =>
    simp only [nk_ok, Bool.and_eq_true, decide_eq_true_eq] at hok
    obtain ⟨rfl, rfl⟩ := hok
    obtain ⟨x, S1, rfl, hp⟩ := nk_pr_inv hp
    obtain ⟨L', hk, hl, hi, hg⟩ := nk_st1_inv hp
    exact lv_astore hx hb hdg hL.has (by rw [← hL.1]; exact hi) rfl (fun ls' h' => kk _ _ _ hk ls' (hL.st1 hl hg h'))
  case astore_n j =>
    simp only [nk_ok, Bool.and_eq_true, decide_eq_true_eq] at hok
    obtain ⟨rfl, rfl⟩ := hok
    obtain ⟨x, S1, rfl, hp⟩ := nk_pr_inv hp
    obtain ⟨L', hk, hl, hi, hg⟩ := nk_st1_inv hp
    exact lv_astore_n hx hb hdg rfl hL.has (by rw [← hL.1]; exact hi) rfl (fun ls' h' => kk _ _ _ hk ls' (hL.st1 hl hg h'))
  case iinc j v =>
    simp only [nk_ok, Bool.and_eq_true, decide_eq_true_eq] at hok
    obtain ⟨rfl, rfl, hv⟩ := hok
    obtain ⟨x, hg0, hp⟩ := nk_ldi_inv hp
    obtain ⟨L', hk, hl, hi, hg⟩ := nk_st1_inv hp
    obtain ⟨k, hkk⟩ := List.getElem?_of_mem (nk_al_mem (ad := ad) (q := (j, .int x)) |>.mpr ⟨_, hg0, rfl⟩)
    exact lv_iinc hx hb hdg hL.has hkk (by rw [hv]) (by rw [← hL.1]; exact hi) rfl (fun ls' h' => kk _ _ _ hk ls' (hL.st1 hl hg h'))
  case iadd =>
    simp only [nk_ok, Bool.and_eq_true, decide_eq_true_eq] at hok
    obtain ⟨rfl, rfl⟩ := hok
    obtain ⟨x, y, S1, rfl, hp⟩ := nk_pii_inv hp
    exact lv_iadd hx hb hdg (kk _ _ _ hp ls hL)
  case isub =>
    simp only [nk_ok, Bool.and_eq_true, decide_eq_true_eq] at hok
    obtain ⟨rfl, rfl⟩ := hok
    obtain ⟨x, y, S1, rfl, hp⟩ := nk_pii_inv hp
    exact lv_isub hx hb hdg (kk _ _ _ hp ls hL)
  case imul =>
    simp only [nk_ok, Bool.and_eq_true, decide_eq_true_eq] at hok
    obtain ⟨rfl, rfl⟩ := hok
    obtain ⟨x, y, S1, rfl, hp⟩ := nk_pii_inv hp
    exact lv_imul hx hb hdg (kk _ _ _ hp ls hL)
  case idiv =>
    simp only [nk_ok, Bool.and_eq_true, decide_eq_true_eq] at hok
    obtain ⟨rfl, rfl⟩ := hok
    obtain ⟨x, y, S1, rfl, h0, hp⟩ := nk_pii_inv hp
    exact lv_idiv hx hb hdg h0 (kk _ _ _ hp ls hL)
  case irem =>
    simp only [nk_ok, Bool.and_eq_true, decide_eq_true_eq] at hok
    obtain ⟨rfl, rfl⟩ := hok
    obtain ⟨x, y, S1, rfl, h0, hp⟩ := nk_pii_inv hp
    exact lv_irem hx hb hdg h0 (kk _ _ _ hp ls hL)
  case iand =>
    simp only [nk_ok, Bool.and_eq_true, decide_eq_true_eq] at hok
    obtain ⟨rfl, rfl⟩ := hok
    obtain ⟨x, y, S1, rfl, hp⟩ := nk_pii_inv hp
    exact lv_iand hx hb hdg (kk _ _ _ hp ls hL)
  case ior =>
    simp only [nk_ok, Bool.and_eq_true, decide_eq_true_eq] at hok
    obtain ⟨rfl, rfl⟩ := hok
    obtain ⟨x, y, S1, rfl, hp⟩ := nk_pii_inv hp
    exact lv_ior hx hb hdg (kk _ _ _ hp ls hL)
  case ishl =>
    simp only [nk_ok, Bool.and_eq_true, decide_eq_true_eq] at hok
    obtain ⟨rfl, rfl⟩ := hok
    obtain ⟨x, y, S1, rfl, hp⟩ := nk_pii_inv hp
    exact lv_ishl hx hb hdg (kk _ _ _ hp ls hL)
  case ishr =>
    simp only [nk_ok, Bool.and_eq_true, decide_eq_true_eq] at hok
    obtain ⟨rfl, rfl⟩ := hok
    obtain ⟨x, y, S1, rfl, hp⟩ := nk_pii_inv hp
    exact lv_ishr hx hb hdg (kk _ _ _ hp ls hL)
  case iushr =>
    simp only [nk_ok, Bool.and_eq_true, decide_eq_true_eq] at hok
    obtain ⟨rfl, rfl⟩ := hok
    obtain ⟨x, y, S1, rfl, hp⟩ := nk_pii_inv hp
    exact lv_iushr hx hb hdg rfl (kk _ _ _ hp ls hL)
  case ladd =>
    simp only [nk_ok, Bool.and_eq_true, decide_eq_true_eq] at hok
    obtain ⟨rfl, rfl⟩ := hok
    obtain ⟨x, y, S1, rfl, hp⟩ := nk_pll_inv hp
    exact lv_ladd hx hb hdg (kk _ _ _ hp ls hL)
  case lsub =>
    simp only [nk_ok, Bool.and_eq_true, decide_eq_true_eq] at hok
    obtain ⟨rfl, rfl⟩ := hok
    obtain ⟨x, y, S1, rfl, hp⟩ := nk_pll_inv hp
    exact lv_lsub hx hb hdg (kk _ _ _ hp ls hL)
  case lmul =>
    simp only [nk_ok, Bool.and_eq_true, decide_eq_true_eq] at hok
    obtain ⟨rfl, rfl⟩ := hok
    obtain ⟨x, y, S1, rfl, hp⟩ := nk_pll_inv hp
    exact lv_lmul hx hb hdg (kk _ _ _ hp ls hL)
  case ldiv =>
    simp only [nk_ok, Bool.and_eq_true, decide_eq_true_eq] at hok
    obtain ⟨rfl, rfl⟩ := hok
    obtain ⟨x, y, S1, rfl, h0, hp⟩ := nk_pll_inv hp
    exact lv_ldiv hx hb hdg h0 (kk _ _ _ hp ls hL)
  case lrem =>
    simp only [nk_ok, Bool.and_eq_true, decide_eq_true_eq] at hok
    obtain ⟨rfl, rfl⟩ := hok
    obtain ⟨x, y, S1, rfl, h0, hp⟩ := nk_pll_inv hp
    exact lv_lrem hx hb hdg h0 (kk _ _ _ hp ls hL)
  case lneg =>
    simp only [nk_ok, Bool.and_eq_true, decide_eq_true_eq] at hok
    obtain ⟨rfl, rfl⟩ := hok
    obtain ⟨x, S1, rfl, hp⟩ := nk_pl_inv hp
    exact lv_lneg hx hb hdg (kk _ _ _ hp ls hL)
  case i2l =>
    simp only [nk_ok, Bool.and_eq_true, decide_eq_true_eq] at hok
    obtain ⟨rfl, rfl⟩ := hok
    obtain ⟨x, S1, rfl, hp⟩ := nk_pi_inv hp
    exact lv_i2l hx hb hdg rfl (kk _ _ _ hp ls hL)
  case l2i =>
    simp only [nk_ok, Bool.and_eq_true, decide_eq_true_eq] at hok
    obtain ⟨rfl, rfl⟩ := hok
    obtain ⟨x, S1, rfl, hp⟩ := nk_pl_inv hp
    exact lv_l2i hx hb hdg rfl (kk _ _ _ hp ls hL)
  case i2b =>
    simp only [nk_ok, Bool.and_eq_true, decide_eq_true_eq] at hok
    obtain ⟨rfl, rfl⟩ := hok
    obtain ⟨x, S1, rfl, hp⟩ := nk_pi_inv hp
    exact lv_i2b hx hb hdg rfl (kk _ _ _ hp ls hL)
  case lcmp =>
    simp only [nk_ok, Bool.and_eq_true, decide_eq_true_eq] at hok
    obtain ⟨rfl, rfl⟩ := hok
    obtain ⟨x, y, S1, rfl, hp⟩ := nk_pll_inv hp
    exact W.lcmp hx hb hdg (kk _ _ _ hp ls hL)
  case dup =>
    simp only [nk_ok, Bool.and_eq_true, decide_eq_true_eq] at hok
    obtain ⟨rfl, rfl⟩ := hok
    simp only [nk_pure] at hp
    split at hp
    · exact lv_dup hx hb hdg rfl (kk _ _ _ hp ls hL)
    · exact lv_dup hx hb hdg rfl (kk _ _ _ hp ls hL)
    · exact hp.elim
  case dup2 =>
    simp only [nk_ok, Bool.and_eq_true, decide_eq_true_eq] at hok
    obtain ⟨rfl, rfl⟩ := hok
    simp only [nk_pure] at hp
    split at hp
    · exact lv_dup2_2 hx hb hdg rfl (kk _ _ _ hp ls hL)
    · exact lv_dup2_11 hx hb hdg rfl rfl (kk _ _ _ hp ls hL)
    · exact lv_dup2_11 hx hb hdg rfl rfl (kk _ _ _ hp ls hL)
    · exact hp.elim
  case pop =>
    simp only [nk_ok, Bool.and_eq_true, decide_eq_true_eq] at hok
    obtain ⟨rfl, rfl⟩ := hok
    simp only [nk_pure] at hp
    split at hp
    · exact lv_pop hx hb hdg rfl (kk _ _ _ hp ls hL)
    · exact lv_pop hx hb hdg rfl (kk _ _ _ hp ls hL)
    · exact hp.elim
  case pop2 =>
    simp only [nk_ok, Bool.and_eq_true, decide_eq_true_eq] at hok
    obtain ⟨rfl, rfl⟩ := hok
    obtain ⟨x, S1, rfl, hp⟩ := nk_pl_inv hp
    exact lv_pop2_2 hx hb hdg rfl (kk _ _ _ hp ls hL)
  case goto o =>
    simp only [nk_ok, Bool.and_eq_true, decide_eq_true_eq] at hok
    obtain ⟨rfl, rfl, rfl, ht⟩ := hok
    exact lv_goto hx hb hdg ht (kk _ _ _ hp ls hL)
  case ifCond cd o =>
    simp only [nk_ok, Bool.and_eq_true, decide_eq_true_eq] at hok
    obtain ⟨rfl, rfl, rfl, ht⟩ := hok
    have hp1 : nk_pi S (fun x S => nk_c0 cd x (K (((pc : Int) + o).toNat) L S) (K (pc + 3) L S)) := hp
    obtain ⟨x, S1, rfl, hp⟩ := nk_pi_inv hp1
    cases cd
    · exact lv_if_eq hx hb hdg ht (fun hc => kk _ _ _ (hp.1 hc) ls hL) (fun hc => kk _ _ _ (hp.2 hc) ls hL)
    · exact lv_if_ne hx hb hdg ht (fun hc => kk _ _ _ (hp.2 hc) ls hL) (fun hc => kk _ _ _ (hp.1 hc) ls hL)
    · exact lv_if_lt hx hb hdg ht (fun hc => kk _ _ _ (hp.1 hc) ls hL) (fun hc => kk _ _ _ (hp.2 hc) ls hL)
    · exact lv_if_ge hx hb hdg ht (fun hc => kk _ _ _ (hp.1 hc) ls hL) (fun hc => kk _ _ _ (hp.2 hc) ls hL)
    · exact lv_if_gt hx hb hdg ht (fun hc => kk _ _ _ (hp.1 hc) ls hL) (fun hc => kk _ _ _ (hp.2 hc) ls hL)
    · exact lv_if_le hx hb hdg ht (fun hc => kk _ _ _ (hp.1 hc) ls hL) (fun hc => kk _ _ _ (hp.2 hc) ls hL)
  case if_icmp cd o =>
    simp only [nk_ok, Bool.and_eq_true, decide_eq_true_eq] at hok
    obtain ⟨rfl, rfl, rfl, ht⟩ := hok
    have hp1 : nk_pii S (fun x y S => nk_c2 cd x y (K (((pc : Int) + o).toNat) L S) (K (pc + 3) L S)) := hp
    obtain ⟨x, y, S1, rfl, hp⟩ := nk_pii_inv hp1
    cases cd
    · exact lv_icmp_eq hx hb hdg ht (fun hc => kk _ _ _ (hp.1 hc) ls hL) (fun hc => kk _ _ _ (hp.2 hc) ls hL)
    · exact lv_icmp_ne hx hb hdg ht (fun hc => kk _ _ _ (hp.2 hc) ls hL) (fun hc => kk _ _ _ (hp.1 hc) ls hL)
    · exact lv_icmp_lt hx hb hdg ht (fun hc => kk _ _ _ (hp.1 hc) ls hL) (fun hc => kk _ _ _ (hp.2 hc) ls hL)
    · exact lv_icmp_ge hx hb hdg ht (fun hc => kk _ _ _ (hp.1 hc) ls hL) (fun hc => kk _ _ _ (hp.2 hc) ls hL)
    · exact lv_icmp_gt hx hb hdg ht (fun hc => kk _ _ _ (hp.1 hc) ls hL) (fun hc => kk _ _ _ (hp.2 hc) ls hL)
    · exact lv_icmp_le hx hb hdg ht (fun hc => kk _ _ _ (hp.1 hc) ls hL) (fun hc => kk _ _ _ (hp.2 hc) ls hL)
  case tableswitch d lo hi os =>
    simp only [nk_ok, Bool.and_eq_true, decide_eq_true_eq] at hok
    obtain ⟨rfl, ⟨⟨htg, hd⟩, hos⟩, hsz⟩ := hok
    obtain ⟨x, S1, rfl, hp⟩ := nk_pi_inv hp
    subst htg
    by_cases hc : x.toInt < lo ∨ hi < x.toInt
    · exact lv_tableOut hx hb hdg hc hd (kk _ _ _ (hp.1 hc) ls hL)
    · have h1 : ¬ x.toInt < lo := fun q => hc (Or.inl q)
      have h2 : ¬ hi < x.toInt := fun q => hc (Or.inr q)
      have hj : (x.toInt - lo).toNat < os.size := by omega
      have hoff : os[(x.toInt - lo).toNat]? = some os[(x.toInt - lo).toNat] := Array.getElem?_eq_getElem hj
      have hmem : os[(x.toInt - lo).toNat] ∈ os.toList := by rw [Array.mem_toList_iff]; exact Array.getElem_mem hj
      have ht := List.all_eq_true.mp hos _ hmem
      simp only [decide_eq_true_eq] at ht
      refine lv_tableIn hx hb hdg h1 h2 hoff ht (kk _ _ _ (hp.2 (x.toInt - lo).toNat _ ?_ ?_) ls hL)
      · rw [nk_lg_eq, List.getElem?_map, Array.getElem?_toList, hoff]
        rfl
      · omega
  all_goals exact False.elim hp
end NkPure
end
section
/-! ===== cells, calls, returns ===== -/
/-- a method's tables: fields (class, place, kind), calls (values taken, receiver's class + 1 or 0, cells and slots it makes, what it does), ints, longs, classes made (class, fields at first), array types made, static arrays; how it returns (0 void, 1 int, 2 boolean, 3 long), whether it is a constructor, cells and slots that it may make -/
abbrev nk_T : Type := List (Nat × Nat × Nat × Nat) × List (Nat × Nat × Nat × Nat × Nat × nk_Ev) × List (Nat × Int32) × List (Nat × Int64) × List (Nat × Nat × List Value) × List (Nat × Nat) × List (Nat × Nat) × Nat × Bool × Nat × Nat
def nk_if (b : Bool) (P : Prop) : Prop := match b with
  | true => P
  | false => False
def nk_obj (h : nk_H) (q ci : Nat) (k : List Value → Prop) : Prop := match nk_lg h q with
  | some (.inr (cj, fs)) => nk_if (Nat.beq cj ci) (k fs)
  | _ => False
def nk_iar (h : nk_H) (q : Nat) (k : Nat → (Nat → Int32) → Prop) : Prop := match nk_lg h q with
  | some (.inl (t, n, .inl f)) => nk_if (Nat.beq t 0) (k n f)
  | none => nk_sm (nk_lk nk_sta q) (fun r => k r.1 r.2.1)
  | _ => False
def nk_iaw (h : nk_H) (q : Nat) (k : Nat → (Nat → Int32) → Prop) : Prop := match nk_lg h q with
  | some (.inl (t, n, .inl f)) => nk_if (Nat.beq t 0) (k n f)
  | _ => False
def nk_lar (h : nk_H) (q : Nat) (k : Nat → (Nat → Int64) → Prop) : Prop := match nk_lg h q with
  | some (.inl (t, n, .inr (.inl f))) => nk_if (Nat.beq t 1) (k n f)
  | _ => False
def nk_rar (h : nk_H) (q : Nat) (k : Nat → Nat → (Nat → Option Nat) → Prop) : Prop := match nk_lg h q with
  | some (.inl (t, n, .inr (.inr (.inr (.inr f))))) => k t n f
  | _ => False
def nk_len (h : nk_H) (q : Nat) (k : Nat → Prop) : Prop := match nk_lg h q with
  | some (.inl (t, n, _)) => nk_sm (nk_lg nk_ty t) (fun _ => k n)
  | _ => False
def nk_bo (x : Int32) (P : Prop) : Prop := (x = 0 ∨ x = 1) ∧ P
theorem nk_bo0 {P : Prop} (h : P) : nk_bo 0 P := ⟨Or.inl rfl, h⟩
theorem nk_bo1 {P : Prop} (h : P) : nk_bo 1 P := ⟨Or.inr rfl, h⟩
/-- what may be stored in a field of a kind: 0 int, 1 boolean, 2 long, 3 reference, 4 final reference in a constructor -/
def nk_fit (ini : Bool) (kd : Nat) (v : Value) (P : Prop) : Prop := match kd with
  | 0 => (match v with
    | .int _ => P
    | _ => False)
  | 1 => (match v with
    | .int x => nk_bo x P
    | _ => False)
  | 2 => (match v with
    | .long _ => P
    | _ => False)
  | 3 => (match v with
    | .ref _ => P
    | _ => False)
  | 4 => (match v with
    | .ref _ => nk_if ini P
    | _ => False)
  | _ => False
def nk_popn : Nat → List Value → List Value → (List Value → List Value → Prop) → Prop
  | 0, acc, S, k => k acc S
  | _ + 1, _, [], _ => False
  | n + 1, acc, v :: S, k => nk_popn n (v :: acc) S k
def nk_cat : List Value → Nat
  | [] => 0
  | v :: S => v.category + nk_cat S
def nk_add (c m : Nat) (k : Nat → Prop) : Prop := match m with
  | 0 => k c
  | m + 1 => k (c + (m + 1))
def nk_ret (r : Option Value) (S : List Value) (k : List Value → Prop) : Prop := match r with
  | some v => k (v :: S)
  | none => k S
def nk_rcv (rc : Nat) (as : List Value) (h : nk_H) (P : Prop) : Prop := match rc with
  | 0 => P
  | ci + 1 => nk_pr as (fun q _ => nk_obj h q ci (fun _ => P))
def nk_call (X : nk_T) (key nx : Nat) (L : nk_Ls) (S : List Value) (h : nk_H) (c s : Nat) (K : nk_K) : Prop :=
  nk_sm (nk_lk X.2.1 key) (fun C => nk_popn C.1 [] S (fun as S => nk_rcv C.2.1 as h (nk_if (Nat.ble (nk_cat S) 8) (nk_add c C.2.2.1 (fun c' => nk_add s C.2.2.2.1 (fun s' => nk_if (Nat.ble c' X.2.2.2.2.2.2.2.2.2.1 && Nat.ble s' X.2.2.2.2.2.2.2.2.2.2)
    (C.2.2.2.2 as h (fun r h' => nk_ret r S (fun S => K nx L S h' c' s')))))))))
def nk_end (X : nk_T) (c s : Nat) (P : Prop) : Prop := nk_if (Nat.beq c X.2.2.2.2.2.2.2.2.2.1 && Nat.ble s X.2.2.2.2.2.2.2.2.2.2) P
def nk_room (X : nk_T) (c s : Nat) (P : Prop) : Prop := nk_if (Nat.ble c X.2.2.2.2.2.2.2.2.2.1 && Nat.ble s X.2.2.2.2.2.2.2.2.2.2) P
def nk_sem (X : nk_T) (i : Instr) (nx : Nat) (tg : List Nat) (lit : Int32) (L : nk_Ls) (S : List Value) (h : nk_H) (c s : Nat) (K : nk_K) (Q : nk_Q) : Prop := match i with
  | .getfield x => nk_sm (nk_lk X.1 x) (fun f => nk_pr S (fun q S => nk_obj h q f.1 (fun fs => nk_sm (nk_lg fs f.2.1) (fun v => K nx L (v :: S) h c s))))
  | .putfield x => nk_sm (nk_lk X.1 x) (fun f => match S with
    | v :: S => nk_pr S (fun q S => nk_obj h q f.1 (fun fs => nk_fit X.2.2.2.2.2.2.2.2.1 f.2.2 v (nk_ins fs f.2.1 v (fun fs => K nx L S (h.set q (.inr (f.1, fs))) c s))))
    | [] => False)
  | .iaload => nk_pi S (fun i S => nk_pr S (fun q S => nk_iar h q (fun n f => vp_in i n ∧ K nx L (.int (f i.toNatClampNeg) :: S) h c s)))
  | .laload => nk_pi S (fun i S => nk_pr S (fun q S => nk_lar h q (fun n f => vp_in i n ∧ K nx L (.long (f i.toNatClampNeg) :: S) h c s)))
  | .aaload => nk_pi S (fun i S => nk_pr S (fun q S => nk_rar h q (fun t n f => nk_sm (nk_lk nk_cm t) (fun _ => vp_in i n ∧ K nx L (va_rf (f i.toNatClampNeg) :: S) h c s))))
  | .iastore => nk_pi S (fun v S => nk_pi S (fun i S => nk_pr S (fun q S => nk_iaw h q (fun n f => vp_in i n ∧ K nx L S (h.set q (.inl (0, n, .inl (upd f i.toNatClampNeg v)))) c s))))
  | .lastore => nk_pl S (fun v S => nk_pi S (fun i S => nk_pr S (fun q S => nk_lar h q (fun n f => vp_in i n ∧ K nx L S (h.set q (.inl (1, n, .inr (.inl (vp_updL f i.toNatClampNeg v))))) c s))))
  | .aastore => nk_pr S (fun v S => nk_pi S (fun i S => nk_pr S (fun q S => nk_rar h q (fun t n f => nk_sm (nk_lk nk_cm t) (fun ci => nk_obj h v ci (fun _ => vp_in i n ∧ K nx L S (h.set q (.inl (t, n, .inr (.inr (.inr (.inr (va_up f i.toNatClampNeg (some v)))))))) c s))))))
  | .arraylength => nk_pr S (fun q S => nk_len h q (fun n => K nx L (.int (Int32.ofNat n) :: S) h c s))
  | .getstatic x => nk_sm (nk_lk X.2.2.2.2.2.2.1 x) (fun q => K nx L (.ref q :: S) h c s)
  | .ldc x => nk_sm (nk_lk X.2.2.1 x) (fun v => K nx L (.int v :: S) h c s)
  | .ldc_w x => nk_sm (nk_lk X.2.2.1 x) (fun v => K nx L (.int v :: S) h c s)
  | .ldc2_w x => nk_sm (nk_lk X.2.2.2.1 x) (fun v => K nx L (.long v :: S) h c s)
  | .new x => nk_sm (nk_lk X.2.2.2.2.1 x) (fun d => ∃ (n : Nat) (h' : nk_H), h.length = n ∧ h ++ [.inr d] = h' ∧ nk_if (Nat.ble n 1000) (nk_room X (c + 1) (s + d.2.length) (K nx L (.ref n :: S) h' (c + 1) (s + d.2.length))))
  | .newarray ty => nk_pi S (fun v S => ¬ v < 0 ∧ v.toNatClampNeg ≤ 10000 ∧ ∃ (n z : Nat) (h' : nk_H), h.length = n ∧ v.toNatClampNeg = z ∧ nk_if (Nat.ble n 1000) (nk_room X (c + 1) (s + z) (match ty with
    | .int => h ++ [.inl (0, z, .inl (fun _ => 0))] = h' ∧ K nx L (.ref n :: S) h' (c + 1) (s + z)
    | .long => h ++ [.inl (1, z, .inr (.inl (fun _ => 0)))] = h' ∧ K nx L (.ref n :: S) h' (c + 1) (s + z)
    | _ => False)))
  | .anewarray x => nk_sm (nk_lk X.2.2.2.2.2.1 x) (fun t => nk_pi S (fun v S => ¬ v < 0 ∧ v.toNatClampNeg ≤ 10000 ∧ ∃ (n z : Nat) (h' : nk_H), h.length = n ∧ v.toNatClampNeg = z ∧ nk_if (Nat.ble n 1000) (nk_room X (c + 1) (s + z) (h ++ [.inl (t, z, .inr (.inr (.inr (.inr (fun _ => none)))))] = h' ∧ K nx L (.ref n :: S) h' (c + 1) (s + z)))))
  | .invokevirtual x => nk_call X (4 * x) nx L S h c s K
  | .invokespecial x => nk_call X (4 * x + 1) nx L S h c s K
  | .invokestatic x => nk_call X (4 * x + 2) nx L S h c s K
  | .ireturn => (match S with
    | [.int v] => nk_end X c s (match X.2.2.2.2.2.2.2.1 with
      | 1 => Q (some (.int v)) h
      | 2 => nk_bo v (Q (some (.int v)) h)
      | _ => False)
    | _ => False)
  | .lreturn => (match S with
    | [.long v] => nk_end X c s (match X.2.2.2.2.2.2.2.1 with
      | 3 => Q (some (.long v)) h
      | _ => False)
    | _ => False)
  | .return_ => (match S with
    | [] => nk_end X c s (match X.2.2.2.2.2.2.2.1 with
      | 0 => Q none h
      | _ => False)
    | _ => False)
  | i => nk_pure i nx tg lit L S (fun pc L S => K pc L S h c s)
/-- the row of a table at a place -/
def nk_at (X : nk_T) (kc : Nat → Option nk_I) (pc : Nat) (L : nk_Ls) (S : List Value) (h : nk_H) (c s : Nat) (K : nk_K) (Q : nk_Q) : Prop := match kc pc with
  | some (i, _, nx, tg, lit) => nk_sem X i nx tg lit L S h c s K Q
  | none => False
/-- from here on the method comes to its end, with Q: the least such -/
def nk_wp (X : nk_T) (kc : Nat → Option nk_I) (Q : nk_Q) (pc : Nat) (L : nk_Ls) (S : List Value) (h : nk_H) (c s : Nat) : Prop :=
  ∀ G : nk_K, (∀ (pc : Nat) (L : nk_Ls) (S : List Value) (h : nk_H) (c s : Nat) (K : nk_K), (∀ (pc : Nat) (L : nk_Ls) (S : List Value) (h : nk_H) (c s : Nat), K pc L S h c s → G pc L S h c s) → nk_at X kc pc L S h c s K Q → G pc L S h c s) → G pc L S h c s
theorem nk_s {X : nk_T} {kc : Nat → Option nk_I} {Q : nk_Q} {pc : Nat} {L : nk_Ls} {S : List Value} {h : nk_H} {c s : Nat} (k : nk_at X kc pc L S h c s (nk_wp X kc Q) Q) : nk_wp X kc Q pc L S h c s :=
  fun G hG => hG pc L S h c s (nk_wp X kc Q) (fun _ _ _ _ _ _ hw => hw G hG) k
def nk_ent : List Value → Nat → nk_Ls
  | [], n => List.replicate n none
  | .long x :: as, n => some (.long x) :: none :: nk_ent as (n - 2)
  | .double x :: as, n => some (.double x) :: none :: nk_ent as (n - 2)
  | v :: as, n => some v :: nk_ent as (n - 1)
/-- what a method does -/
def nk_ev (X : nk_T) (kc : Nat → Option nk_I) (nL : Nat) : nk_Ev := fun as h Q => nk_wp X kc Q 0 (nk_ent as nL) [] h 0 0
end
section
/-! ===== the picture of cells over a heap ===== -/
def nk_x (ad : Nat → Nat) (x : nk_A) : nk_A := match x with
  | .inr (.inr (.inr (.inr f))) => .inr (.inr (.inr (.inr (fun i => (f i).map ad))))
  | x => x
def nk_o (cA : Nat → ClassId) (ad : Nat → Nat) (o : nk_O) : va_E := match o with
  | .inl (t, n, x) => .inl (cA t, n, nk_x ad x)
  | .inr (ci, fs) => .inr (ci, fs.map (nk_v ad))
def nk_w (cA : Nat → ClassId) (ad : Nat → Nat) : nk_H → Nat → va_W
  | [], _ => []
  | o :: h, k => (ad k, nk_o cA ad o) :: nk_w cA ad h (k + 1)
theorem nk_w_get (cA : Nat → ClassId) (ad : Nat → Nat) : ∀ (h : nk_H) (k j : Nat), (nk_w cA ad h k)[j]? = (h[j]?).map (fun o => (ad (k + j), nk_o cA ad o))
  | [], k, j => by simp [nk_w]
  | o :: h, k, 0 => by simp [nk_w]
  | o :: h, k, j + 1 => by
    simp only [nk_w, List.getElem?_cons_succ]
    rw [nk_w_get cA ad h (k + 1) j, show k + 1 + j = k + (j + 1) by omega]
theorem nk_w_set (cA : Nat → ClassId) (ad : Nat → Nat) (o : nk_O) : ∀ (h : nk_H) (k q : Nat), (nk_w cA ad h k).set q (ad (k + q), nk_o cA ad o) = nk_w cA ad (h.set q o) k
  | [], k, q => by simp [nk_w]
  | a :: h, k, 0 => by simp [nk_w]
  | a :: h, k, q + 1 => by
    simp only [nk_w, List.set_cons_succ]
    rw [← nk_w_set cA ad o h (k + 1) q, show k + 1 + q = k + (q + 1) by omega]
theorem nk_w_app (cA : Nat → ClassId) (ad : Nat → Nat) (o : nk_O) : ∀ (h : nk_H) (k : Nat), nk_w cA ad (h ++ [o]) k = nk_w cA ad h k ++ [(ad (k + h.length), nk_o cA ad o)]
  | [], k => by simp [nk_w]
  | a :: h, k => by
    simp only [nk_w, List.cons_append, List.length_cons]
    rw [nk_w_app cA ad o h (k + 1), show k + 1 + h.length = k + (h.length + 1) by omega]
theorem nk_w_at {cA : Nat → ClassId} {ad : Nat → Nat} {h : nk_H} {q : Nat} {o : nk_O} (hq : nk_lg h q = some o) : (nk_w cA ad h 0)[q]? = some (ad q, nk_o cA ad o) := by
  rw [nk_w_get, ← nk_lg_eq, hq, Nat.zero_add]
  rfl
theorem nk_w_st {cA : Nat → ClassId} {ad : Nat → Nat} {h : nk_H} {q : Nat} {o : nk_O} {e : va_E} (he : e = nk_o cA ad o) : (nk_w cA ad h 0).set q (ad q, e) = nk_w cA ad (h.set q o) 0 := by
  have h1 := nk_w_set cA ad o h 0 q
  rw [Nat.zero_add] at h1
  rw [he, h1]
def nk_tyl (cA : Nat → ClassId) : List FieldType → Nat → List (ClassId × FieldType)
  | [], _ => []
  | t :: l, k => (cA k, t) :: nk_tyl cA l (k + 1)
theorem nk_tyl_get (cA : Nat → ClassId) : ∀ (l : List FieldType) (k j : Nat), (nk_tyl cA l k)[j]? = (l[j]?).map (fun t => (cA (k + j), t))
  | [], k, j => by simp [nk_tyl]
  | o :: h, k, 0 => by simp [nk_tyl]
  | o :: h, k, j + 1 => by
    simp only [nk_tyl, List.getElem?_cons_succ]
    rw [nk_tyl_get cA h (k + 1) j, show k + 1 + j = k + (j + 1) by omega]
abbrev nk_tys (cA : Nat → ClassId) : List (ClassId × FieldType) := nk_tyl cA nk_ty 0
theorem nk_tys_at {cA : Nat → ClassId} {t : Nat} {ty : FieldType} (h : nk_ty[t]? = some ty) : (nk_tys cA)[t]? = some (cA t, ty) := by
  rw [nk_tyl_get, h, Nat.zero_add]
  rfl
/-- the static arrays: at their places, and nobody writes them -/
def nk_St (ad : Nat → Nat) (A : Nat → Prop) (U : State) : Prop := ∀ q ∈ nk_sta, va_X (ad q.1) q.2.1 q.2.2.1 U U.heap ∧ ad q.1 < U.heap.size ∧ ¬ A (ad q.1) ∧ va_Z q.2.2.2.1 q.2.2.2.2.1 q.2.2.2.2.2 (.ref (ad q.1)) A U U.heap
def nk_Ne (U : State) : Prop := (∀ q ∈ nk_nw, va_Nw (.methodLinkNest q.1 q.2.1 q.2.2.1 q.2.2.2) U) ∧ ∀ C ∈ nk_ao, va_AO C U
/-- where new cells come to lie -/
def nk_ax (al : Bool) (n0 : Nat) (ad : Nat → Nat) (sz : Nat) : Prop := al = true → ∀ k : Nat, n0 ≤ k → k < 1000000 → ad k = sz + (k - n0)
/-- what stays the same within a method -/
def nk_B (p : Program) (s : State) (m : MethodId) (args : Array Value) (meth : Method) (c : Code) (own : String) (cc : ByteArray) (nL : Nat) (D : va_G) (cA : Nat → ClassId) (ad : Nat → Nat) (A : Nat → Prop) (al : Bool) (n0 : Nat) : Prop :=
  p.tables.exec = Jvm.exec ∧ c.code = cc ∧ c.maxLocals = nL ∧ s.vm.findClass own = some m.cls ∧ (∀ w ∈ nk_gw, w.before args s = true) ∧ nk_Ne s ∧ va_K D nk_cl (nk_tys cA) s ∧ (∀ q : Nat, s.heap.size ≤ q → A q) ∧ nk_St ad A s ∧ meth.locks = false ∧ nk_ax al n0 ad s.heap.size
def nk_nx (al : Bool) (n0 : Nat) (s : State) (h : nk_H) (H : Heap) (cs : Nat) : Prop := al = true → h.length = n0 + cs ∧ s.heap.size + cs ≤ H.size
/-- the machine at a picture -/
def nk_G (p : Program) (l : Launch) (e : Env) (R : Room) (s : State) (m : MethodId) (args : Array Value) (below : List Frame) (meth : Method) (c : Code) (nL : Nat) (D : va_G) (cA : Nat → ClassId) (ad : Nat → Nat) (A : Nat → Prop) (al : Bool) (n0 : Nat) (Q : State → Prop) : nk_K := fun pc L S h cs sl =>
  ∀ (H : Heap) (locs : List Loc) (ls : Array Slot), va_P D nk_cl (nk_w cA ad h 0) H → va_D A (nk_w cA ad h 0) → va_S A s.heap H locs → nk_nx al n0 s h H cs → nk_L ad ls nL L → W p l e R s m args below meth c H locs cs sl Q (F0 m pc ls (S.map (nk_v ad)))
/-! a method's contract, by its picture -/
def nk_Pc (al : Bool) (D : va_G) (cA : Nat → ClassId) (ad : Nat → Nat) (sz : Nat) (as : List Value) (h : nk_H) : Array Value → State → Prop := va_Pc (as.map (nk_v ad)) (fun U => U.heap.size = sz ∧ va_P D nk_cl (nk_w cA ad h 0) U.heap ∧ va_K D nk_cl (nk_tys cA) U ∧ va_D (fun _ => True) (nk_w cA ad h 0) ∧ nk_ax al h.length ad sz ∧ nk_Ne U ∧ nk_St ad (va_A (nk_w cA ad h 0) sz) U)
def nk_Qc (al : Bool) (mc : Nat) (D : va_G) (cA : Nat → ClassId) (ad : Nat → Nat) (sz : Nat) (h : nk_H) (Q : nk_Q) : Array Value → State → Outcome → State → Prop := fun _ st oc t => (∃ (v : Option Value) (h' : nk_H), oc = .returned (v.map (nk_v ad)) ∧ Q v h' ∧ va_P D nk_cl (nk_w cA ad h' 0) t.heap ∧ va_D (va_A (nk_w cA ad h 0) sz) (nk_w cA ad h' 0) ∧ (al = true → h'.length = h.length + mc ∧ sz + mc ≤ t.heap.size)) ∧ va_F (va_A (nk_w cA ad h 0) sz) st t
theorem nk_blind (al : Bool) (D : va_G) (cA : Nat → ClassId) (ad : Nat → Nat) (sz : Nat) (as : List Value) (h : nk_H) : FrameBlind (nk_Pc al D cA ad sz as h) := by
  intro a U g mk q
  obtain ⟨q0, q1, qP, qK, qD, qn, qN, qS⟩ := q
  refine ⟨q0, q1, qP, va_K.moved (u := U) (U := U.calling g mk a) (Vm.Alike.refl U.vm) qK, qD, qn, ⟨fun r hr => ?_, fun C hC => va_AO.moved (u := U) (Vm.Alike.refl U.vm) (qN.2 C hC)⟩, fun r hr => ?_⟩
  · exact va_Nw.same rfl (u := U) rfl (qN.1 r hr)
  · obtain ⟨s1, s2, s3, s4⟩ := qS r hr
    exact ⟨va_X.moved (u := U) (Vm.Alike.refl U.vm) s1, s2, s3, va_Z.moved (u := U) (Vm.Alike.refl U.vm) s4⟩
section NkCall
variable {p : Program} {l : Launch} {e : Env} {R : Room} {s : State} {m : MethodId} {args : Array Value} {below : List Frame} {meth : Method} {c : Code} {H : Heap} {locs : List Loc} {cells slots : Nat} {Q : State → Prop}
variable {own : String} {cc : ByteArray} {ad : Nat → Nat} {nL n0 : Nat} {D : va_G} {cA : Nat → ClassId} {A : Nat → Prop} {al : Bool}
theorem nk_sub (hA : ∀ q : Nat, s.heap.size ≤ q → A q) {h : nk_H} (hD : va_D A (nk_w cA ad h 0)) (hS : va_S A s.heap H locs) : ∀ q : Nat, va_A (nk_w cA ad h 0) H.size q → A q := by
  intro q hq
  rcases hq with ⟨k, e, hk⟩ | hq
  · exact hD.2 k _ hk
  · exact hA q (Nat.le_trans hS.1 hq)
theorem nk_sz {h : nk_H} (hn : nk_nx al n0 s h H cells) {T : State} (hT : T.heap = H) (X : Stand p l e R s m args below meth c T locs cells slots) (hal : al = true) : H.size = s.heap.size + cells ∧ h.length = n0 + cells := by
  obtain ⟨h1, h2⟩ := hn hal
  have h3 : T.heap.size ≤ s.heap.size + cells := X.same.2.2.1
  rw [hT] at h3
  exact ⟨by omega, h1⟩
theorem nk_axm {h : nk_H} (hn : nk_nx al n0 s h H cells) (hax : nk_ax al n0 ad s.heap.size) {T : State} (hT : T.heap = H) (X : Stand p l e R s m args below meth c T locs cells slots) : nk_ax al h.length ad H.size := by
  intro hal k hk hk2
  obtain ⟨h1, h2⟩ := nk_sz hn hT X hal
  rw [hax hal k (by omega) hk2]
  omega
/-- a callee's start holds at a call -/
theorem nk_pre (hB : nk_B p s m args meth c own cc nL D cA ad A al n0) {h : nk_H} {as : List Value} (hP : va_P D nk_cl (nk_w cA ad h 0) H) (hD : va_D A (nk_w cA ad h 0)) (hS : va_S A s.heap H locs) (hn : nk_nx al n0 s h H cells) {T : State} (hT : T.heap = H) (X : Stand p l e R s m args below meth c T locs cells slots) : ∀ U : State, U.heap = H → s.WarmedH U.vm → nk_Pc al D cA ad H.size as h (as.map (nk_v ad)).toArray U := by
  obtain ⟨hx, hb, hml, hown, hts, hN, hK, hA, hSt, hlk, hax⟩ := hB
  intro U hU hW
  refine ⟨rfl, by rw [hU], by rw [hU]; exact hP, va_K.moved hW.alike hK, hD.weaken (fun _ _ _ _ => trivial), nk_axm hn hax hT X, ⟨fun r hr => va_Nw.warmM hW (hN.1 r hr), fun C hC => va_AO.moved hW.alike (hN.2 C hC)⟩, fun r hr => ?_⟩
  obtain ⟨s1, s2, s3, s4⟩ := hSt r hr
  have hsub := nk_sub hA hD hS
  refine ⟨va_X.moved hW.alike (va_X.kept s1 (by rw [hU]; exact hS.2.1 _ s2 s3)), by rw [hU]; exact Nat.lt_of_lt_of_le s2 hS.1, fun z => s3 (hsub _ z), va_Z.moved hW.alike ?_⟩
  exact (va_Z.kept s4 (fun a h1 h2 => by rw [hU]; exact hS.2.1 a h1 h2)).narrow hsub
/-- behind a call -/
theorem nk_after (hB : nk_B p s m args meth c own cc nL D cA ad A al n0) {h : nk_H} {L : nk_Ls} {S st0 : List Value} {ls : Array Slot} {pc mc ms : Nat} {K : nk_Q} {arr : Array Value}
    (hr : va_Run p l e R s m args below meth c H locs cells slots mc ms (F0 m pc ls st0) (S.map (nk_v ad)) (nk_Qc al mc D cA ad H.size h K arr) (va_A (nk_w cA ad h 0) H.size))
    (hD : va_D A (nk_w cA ad h 0)) (hS : va_S A s.heap H locs) (hn : nk_nx al n0 s h H cells) (hL : nk_L ad ls nL L)
    (kk : ∀ (v : Option Value) (h' : nk_H), K v h' → nk_G p l e R s m args below meth c nL D cA ad A al n0 Q (pc + 3) L (v.toList ++ S) h' (cells + mc) (slots + ms)) : W p l e R s m args below meth c H locs cells slots Q (F0 m pc ls st0) := by
  obtain ⟨hx, hb, hml, hown, hts, hN, hK, hA, hSt, hlk, hax⟩ := hB
  have hsub := nk_sub hA hD hS
  intro T hT X
  obtain ⟨v, st₀, t, T', LL, h0, X', hLL, e1, e2, ⟨⟨v0, h', hv, hq, hP', hD', hn'⟩, hz, hk⟩, st⟩ := hr T hT X
  rw [h0] at hz hk
  have hv' : v = v0.map (nk_v ad) := by cases hv; rfl
  have hS' : va_S A s.heap t.heap (locs ++ LL) := ⟨Nat.le_trans hS.1 hz, fun q h1 h2 => by rw [hk q (Nat.lt_of_lt_of_le h1 hS.1) (fun z => h2 (hsub q z))]; exact hS.2.1 q h1 h2, fun q hq => by
    rcases List.mem_append.mp hq with h | h
    · exact hS.2.2 q h
    · exact hsub _ (hLL q h)⟩
  obtain ⟨t2, a1, b1⟩ := kk v0 h' hq t.heap (locs ++ LL) ls hP' (hD'.weaken (fun _ q _ z => hsub q.1 z)) hS' (fun hal => by have a1 := hn' hal; have a2 := hn hal; exact ⟨by omega, by omega⟩) hL T' e1 X'
  refine ⟨t2, st t2 ?_, b1⟩
  have he : v.toList ++ S.map (nk_v ad) = (v0.toList ++ S).map (nk_v ad) := by
    rw [hv']
    cases v0 <;> rfl
  have : ({ (F0 m pc ls st0) with pc := (F0 m pc ls st0).pc + 3, stack := v.toList ++ S.map (nk_v ad) } : JFrame) = F0 m (pc + 3) ls ((v0.toList ++ S).map (nk_v ad)) := by rw [he]
  rw [this]
  exact a1
end NkCall
/-- a call of a table's row is sound -/
def nk_kop (k : Nat) : Instr := if k % 4 = 0 then .invokevirtual (k / 4) else if k % 4 = 1 then .invokespecial (k / 4) else .invokestatic (k / 4)
def nk_CallOk (l : Launch) (R : Room) (own : String) (cc : ByteArray) (nL : Nat) (al : Bool) (key : Nat) (C : Nat × Nat × Nat × Nat × nk_Ev) : Prop :=
  ∀ (p : Program) (e : Env) (s : State) (m : MethodId) (args : Array Value) (below : List Frame) (meth : Method) (c : Code) (D : va_G) (cA : Nat → ClassId) (ad : Nat → Nat) (A : Nat → Prop) (n0 : Nat) (Q : State → Prop), nk_B p s m args meth c own cc nL D cA ad A al n0 →
  ∀ (pc : Nat), decode cc pc = .ok (nk_kop key, 3) → ∀ (L : nk_Ls) (S as : List Value) (h : nk_H) (cs sl : Nat) (K : nk_Q), as.length = C.1 → nk_rcv C.2.1 as h True → nk_cat S ≤ 8 → cs + C.2.2.1 ≤ R.cells → sl + C.2.2.2.1 ≤ R.slots → C.2.2.2.2 as h K →
  (∀ (v : Option Value) (h' : nk_H), K v h' → nk_G p l e R s m args below meth c nL D cA ad A al n0 Q (pc + 3) L (v.toList ++ S) h' (cs + C.2.2.1) (sl + C.2.2.2.1)) → nk_G p l e R s m args below meth c nL D cA ad A al n0 Q pc L (as.reverse ++ S) h cs sl
theorem nk_cat_sum (ad : Nat → Nat) : ∀ S : List Value, ((S.map (nk_v ad)).map fun v => v.category).sum = nk_cat S
  | [] => rfl
  | v :: S => by
    simp only [List.map_cons, List.sum_cons, nk_cat, nk_v_cat]
    rw [nk_cat_sum ad S]
theorem nk_gw_good {ws : List Cond} (h : ∀ w ∈ ws, w ∈ nk_gw) : GoodIn nk_gw ws := fun w hw => ⟨h w hw, good_of_word (List.mem_filter.mp (h w hw)).2⟩
/-- a method whose contract is proved -/
def nk_Met (l : Launch) (y : MethodName) (bytes : ByteArray) (maxL : Nat) (ret : Option FieldType) (rm : Room) (al : Bool) (mc ms : Nat) (ev : nk_Ev) : Prop :=
  ∀ (D : va_G) (cA : Nat → ClassId) (ad : Nat → Nat) (sz : Nat) (as : List Value) (h : nk_H) (Q : nk_Q), ev as h Q → Met l y (Cond.code y bytes maxL ret :: nk_gw) rm (nk_Pc al D cA ad sz as h) (nk_Qc al mc D cA ad sz h Q) mc ms (va_A (nk_w cA ad h 0) sz)
theorem nk_rev_cons {ad : Nat → Nat} (v : Value) (As S : List Value) : ((v :: As).reverse ++ S).map (nk_v ad) = (As.map (nk_v ad)).reverse ++ nk_v ad v :: S.map (nk_v ad) := by
  simp [List.map_reverse]
theorem nk_rev {ad : Nat → Nat} (As S : List Value) : (As.reverse ++ S).map (nk_v ad) = (As.map (nk_v ad)).reverse ++ S.map (nk_v ad) := by
  simp [List.map_reverse]
theorem nk_rcv_inv {ci : Nat} {as : List Value} {h : nk_H} (hr : nk_rcv (ci + 1) as h True) : ∃ (q : Nat) (As : List Value) (fs : List Value), as = .ref q :: As ∧ nk_lg h q = some (.inr (ci, fs)) := by
  obtain ⟨q, As, e1, h1⟩ := nk_pr_inv hr
  unfold nk_obj at h1
  split at h1
  · rename_i cj fs hg
    cases hb : Nat.beq cj ci with
    | false => rw [hb] at h1; exact h1.elim
    | true =>
      have := Nat.eq_of_beq_eq_true hb
      subst this
      exact ⟨q, As, fs, e1, hg⟩
  · exact h1.elim
set_option maxHeartbeats 1000000 in
theorem nk_callV {l : Launch} {R : Room} {own : String} {cc : ByteArray} {nL : Nat} {al : Bool} {x : Nat} {y : MethodName} {bytes : ByteArray} {maxL : Nat} {ret : Option FieldType} {rm : Room} {mc ms n ci : Nat} {ev : nk_Ev} {r : vw_C}
    (hM : nk_Met l y bytes maxL ret rm al mc ms ev) (hc : nk_cl[ci]? = some r) (hw : ∀ w ∈ wsV own x r.1 y [Cond.code y bytes maxL ret], w ∈ nk_gw)
    (hrc : rm.cells = mc) (hrs : rm.slots = ms) (hd : y.cls = r.1 ∧ y.cls ≠ "java/lang/invoke/MethodHandle" ∧ y.cls ≠ "java/lang/invoke/VarHandle" ∧ (parseMethodDescriptor y.desc).map (fun d => d.parameters.length) = some n) (hR : rm.frames + 1 ≤ R.frames ∧ 8 + (maxL + 11) + rm.locals ≤ R.locals) :
    nk_CallOk l R own cc nL al (4 * x) (n + 1, ci + 1, mc, ms, ev) := by
  intro p e s m args below meth c D cA ad A n0 Q hB pc hdg L S as h cs sl K hn hrcv hcat hcs hsl hev kk H locs ls hP hD hS hnx hL T hT X
  have hB0 := hB
  obtain ⟨hx, hb, hml, hown, hts, hN, hK, hA, hSt, hlk, hax⟩ := hB
  obtain ⟨q, As, fs, rfl, hg⟩ := nk_rcv_inv hrcv
  have hdg' : decode cc pc = .ok (.invokevirtual x, 3) := by
    rw [hdg]
    simp [nk_kop]
  have hG : GoodIn nk_gw (wsV own x r.1 y (Cond.code y bytes maxL ret :: nk_gw)) := by
    refine nk_gw_good (fun w h => ?_)
    unfold wsV at h hw
    rcases List.mem_append.mp h with h1 | h1
    · exact hw w (List.mem_append_left _ h1)
    · rcases List.mem_cons.mp h1 with h2 | h2
      · rw [h2]; exact hw _ (List.mem_append_right _ List.mem_cons_self)
      · exact h2
  have hat := nk_w_at (cA := cA) (ad := ad) hg
  have hpre := nk_pre hB0 (as := .ref q :: As) hP hD hS hnx hT X
  have hrun := va_runV (p := p) (e := e) (below := below) (meth := meth) (H := H) (locs := locs) (cells := cs) (slots := sl) (g := F0 m pc ls (((.ref q :: As).reverse ++ S).map (nk_v ad))) (As := As.map (nk_v ad)) (rest := S.map (nk_v ad)) (b := ad q) (C := r.1) (n := n) ⟨hx, hb, hml, hown, hts⟩ (hM D cA ad H.size (.ref q :: As) h K hev)
    (cwV n hts hG rfl hrc hrs hd hR) ⟨nk_blind al D cA ad H.size (.ref q :: As) h, va_recv hK hP (q0 := q) hc hat, hpre⟩ rfl (by rw [List.length_map]; have : As.length + 1 = n + 1 := hn; omega) hL.2.1 (nk_rev_cons (.ref q) As S) (lv_room (by rw [nk_cat_sum]; exact hcat)) hdg' ⟨hcs, hsl⟩
  exact nk_after hB0 hrun hD hS hnx hL kk T hT X
set_option maxHeartbeats 1000000 in
theorem nk_callS {l : Launch} {R : Room} {own : String} {cc : ByteArray} {nL : Nat} {al : Bool} {x : Nat} {y : MethodName} {bytes : ByteArray} {maxL : Nat} {ret : Option FieldType} {rm : Room} {mc ms n : Nat} {ev : nk_Ev}
    (hM : nk_Met l y bytes maxL ret rm al mc ms ev) (hw : ∀ w ∈ va_wsS own x y [Cond.code y bytes maxL ret], w ∈ nk_gw)
    (hrc : rm.cells = mc) (hrs : rm.slots = ms) (hd : y.cls ≠ "java/lang/invoke/MethodHandle" ∧ y.cls ≠ "java/lang/invoke/VarHandle" ∧ (parseMethodDescriptor y.desc).map (fun d => d.parameters.length) = some n) (hR : rm.frames + 1 ≤ R.frames ∧ 8 + (maxL + 11) + rm.locals ≤ R.locals) :
    nk_CallOk l R own cc nL al (4 * x + 2) (n, 0, mc, ms, ev) := by
  intro p e s m args below meth c D cA ad A n0 Q hB pc hdg L S as h cs sl K hn hrcv hcat hcs hsl hev kk H locs ls hP hD hS hnx hL T hT X
  have hB0 := hB
  obtain ⟨hx, hb, hml, hown, hts, hN, hK, hA, hSt, hlk, hax⟩ := hB
  have hdg' : decode cc pc = .ok (.invokestatic x, 3) := by
    rw [hdg]
    have e1 : (4 * x + 2) % 4 = 2 := by omega
    have e2 : (4 * x + 2) / 4 = x := by omega
    simp [nk_kop, e1, e2]
  have hG : GoodIn nk_gw (va_wsS own x y (Cond.code y bytes maxL ret :: nk_gw)) := by
    refine nk_gw_good (fun w h => ?_)
    unfold va_wsS at h hw
    rcases List.mem_append.mp h with h1 | h1
    · exact hw w (List.mem_append_left _ h1)
    · rcases List.mem_cons.mp h1 with h2 | h2
      · rw [h2]; exact hw _ (List.mem_append_right _ List.mem_cons_self)
      · exact h2
  have hpre := nk_pre hB0 (as := as) hP hD hS hnx hT X
  have hrun := va_runS (p := p) (e := e) (below := below) (meth := meth) (H := H) (locs := locs) (cells := cs) (slots := sl) (g := F0 m pc ls ((as.reverse ++ S).map (nk_v ad))) (As := as.map (nk_v ad)) (rest := S.map (nk_v ad)) (n := n) ⟨hx, hb, hml, hown, hts⟩ (hM D cA ad H.size as h K hev)
    (va_cwS n hts hG rfl hrc hrs hd hR) ⟨nk_blind al D cA ad H.size as h, hpre⟩ rfl (by rw [List.length_map]; exact hn) hL.2.1 (nk_rev as S) (lv_room (by rw [nk_cat_sum]; exact hcat)) hdg' ⟨hcs, hsl⟩
  exact nk_after hB0 hrun hD hS hnx hL kk T hT X
theorem nk_goodw {y : MethodName} {bytes : ByteArray} {maxL : Nat} {ret : Option FieldType} (hw : Cond.code y bytes maxL ret ∈ nk_gw) : GoodIn nk_gw (Cond.code y bytes maxL ret :: nk_gw) := nk_gw_good (fun w h => by
  rcases List.mem_cons.mp h with h2 | h2
  · rw [h2]; exact hw
  · exact h2)
set_option maxHeartbeats 1000000 in
/-- a static method of the nest -/
theorem nk_callSN {l : Launch} {R : Room} {own host : String} {cc : ByteArray} {nL : Nat} {al : Bool} {x : Nat} {y : MethodName} {bytes : ByteArray} {maxL : Nat} {ret : Option FieldType} {rm : Room} {mc ms n : Nat} {ev : nk_Ev}
    (hM : nk_Met l y bytes maxL ret rm al mc ms ev) (hne : (own, x, y, host) ∈ nk_nw) (hw : Cond.code y bytes maxL ret ∈ nk_gw) (hst : Cond.static y ∈ nk_gw) (hin : Cond.initialized y.cls ∈ nk_gw)
    (hrc : rm.cells = mc) (hrs : rm.slots = ms) (hd : y.cls ≠ "java/lang/invoke/MethodHandle" ∧ y.cls ≠ "java/lang/invoke/VarHandle" ∧ (parseMethodDescriptor y.desc).map (fun d => d.parameters.length) = some n) (hR : rm.frames + 1 ≤ R.frames ∧ 8 + (maxL + 11) + rm.locals ≤ R.locals) :
    nk_CallOk l R own cc nL al (4 * x + 2) (n, 0, mc, ms, ev) := by
  intro p e s m args below meth c D cA ad A n0 Q hB pc hdg L S as h cs sl K hn hrcv hcat hcs hsl hev kk H locs ls hP hD hS hnx hL T hT X
  have hB0 := hB
  obtain ⟨hx, hb, hml, hown, hts, hN, hK, hA, hSt, hlk, hax⟩ := hB
  have hdg' : decode cc pc = .ok (.invokestatic x, 3) := by
    rw [hdg]
    have e1 : (4 * x + 2) % 4 = 2 := by omega
    have e2 : (4 * x + 2) / 4 = x := by omega
    simp [nk_kop, e1, e2]
  have hpre := nk_pre hB0 (as := as) hP hD hS hnx hT X
  have hrun := va_runSN (p := p) (e := e) (below := below) (meth := meth) (H := H) (locs := locs) (cells := cs) (slots := sl) (g := F0 m pc ls ((as.reverse ++ S).map (nk_v ad))) (As := as.map (nk_v ad)) (rest := S.map (nk_v ad)) (n := n) ⟨hx, hb, hml, hown, hts⟩ (hM D cA ad H.size as h K hev)
    ⟨va_cnB n hts (nk_goodw hw) rfl hrc hrs (hN.1 _ hne) (hts _ hin) hd hR, hts _ hst, trivial⟩ ⟨nk_blind al D cA ad H.size as h, hpre⟩ rfl (by rw [List.length_map]; exact hn) hL.2.1 (nk_rev as S) (lv_room (by rw [nk_cat_sum]; exact hcat)) hdg' ⟨hcs, hsl⟩
  exact nk_after hB0 hrun hD hS hnx hL kk T hT X
theorem nk_cons_of {as : List Value} {n : Nat} (h : as.length = n + 1) : ∃ v As, as = v :: As := by
  cases as with
  | nil => cases h
  | cons v As => exact ⟨v, As, rfl⟩
set_option maxHeartbeats 1000000 in
/-- a constructor -/
theorem nk_callI {l : Launch} {R : Room} {own : String} {cc : ByteArray} {nL : Nat} {al : Bool} {x : Nat} {y : MethodName} {bytes : ByteArray} {maxL : Nat} {rm : Room} {mc ms n ci : Nat} {ev : nk_Ev}
    (hM : nk_Met l y bytes maxL none rm al mc ms ev) (hw : Cond.code y bytes maxL none ∈ nk_gw) (hli : Cond.methodLink own x y ∈ nk_gw) (him : Cond.instanceMethod y ∈ nk_gw) (hin : Cond.initialized y.cls ∈ nk_gw) (hy : y.name = "<init>")
    (hrc : rm.cells = mc) (hrs : rm.slots = ms) (hd : y.cls ≠ "java/lang/invoke/MethodHandle" ∧ y.cls ≠ "java/lang/invoke/VarHandle" ∧ (parseMethodDescriptor y.desc).map (fun d => d.parameters.length) = some n) (hR : rm.frames + 1 ≤ R.frames ∧ 8 + (maxL + 11) + rm.locals ≤ R.locals) :
    nk_CallOk l R own cc nL al (4 * x + 1) (n + 1, ci + 1, mc, ms, ev) := by
  intro p e s m args below meth c D cA ad A n0 Q hB pc hdg L S as h cs sl K hn hrcv hcat hcs hsl hev kk H locs ls hP hD hS hnx hL T hT X
  have hB0 := hB
  obtain ⟨hx, hb, hml, hown, hts, hN, hK, hA, hSt, hlk, hax⟩ := hB
  obtain ⟨q, As, fs, rfl, hg⟩ := nk_rcv_inv hrcv
  have hdg' : decode cc pc = .ok (.invokespecial x, 3) := by
    rw [hdg]
    have e1 : (4 * x + 1) % 4 = 1 := by omega
    have e2 : (4 * x + 1) / 4 = x := by omega
    simp [nk_kop, e1, e2]
  have hpre := nk_pre hB0 (as := .ref q :: As) hP hD hS hnx hT X
  have hrun := va_runI (p := p) (e := e) (below := below) (meth := meth) (H := H) (locs := locs) (cells := cs) (slots := sl) (g := F0 m pc ls (((.ref q :: As).reverse ++ S).map (nk_v ad))) (As := As.map (nk_v ad)) (rest := S.map (nk_v ad)) (b := ad q) (n := n) ⟨hx, hb, hml, hown, hts⟩ (hM D cA ad H.size (.ref q :: As) h K hev)
    (cwI n hts (nk_goodw hw) rfl hrc hrs (hts _ hin) (hts _ hli) (hts _ him) hy hd hR) ⟨nk_blind al D cA ad H.size (.ref q :: As) h, hpre⟩ rfl (by rw [List.length_map]; have : As.length + 1 = n + 1 := hn; omega) hL.2.1 (nk_rev_cons (.ref q) As S) (lv_room (by rw [nk_cat_sum]; exact hcat)) hdg' ⟨hcs, hsl⟩
  exact nk_after hB0 hrun hD hS hnx hL kk T hT X
set_option maxHeartbeats 1000000 in
/-- a constructor of the nest -/
theorem nk_callIN {l : Launch} {R : Room} {own host : String} {cc : ByteArray} {nL : Nat} {al : Bool} {x : Nat} {y : MethodName} {bytes : ByteArray} {maxL : Nat} {rm : Room} {mc ms n ci : Nat} {ev : nk_Ev}
    (hM : nk_Met l y bytes maxL none rm al mc ms ev) (hne : (own, x, y, host) ∈ nk_nw) (hw : Cond.code y bytes maxL none ∈ nk_gw) (him : Cond.instanceMethod y ∈ nk_gw) (hin : Cond.initialized y.cls ∈ nk_gw) (hy : y.name = "<init>")
    (hrc : rm.cells = mc) (hrs : rm.slots = ms) (hd : y.cls ≠ "java/lang/invoke/MethodHandle" ∧ y.cls ≠ "java/lang/invoke/VarHandle" ∧ (parseMethodDescriptor y.desc).map (fun d => d.parameters.length) = some n) (hR : rm.frames + 1 ≤ R.frames ∧ 8 + (maxL + 11) + rm.locals ≤ R.locals) :
    nk_CallOk l R own cc nL al (4 * x + 1) (n + 1, ci + 1, mc, ms, ev) := by
  intro p e s m args below meth c D cA ad A n0 Q hB pc hdg L S as h cs sl K hn hrcv hcat hcs hsl hev kk H locs ls hP hD hS hnx hL T hT X
  have hB0 := hB
  obtain ⟨hx, hb, hml, hown, hts, hN, hK, hA, hSt, hlk, hax⟩ := hB
  obtain ⟨q, As, fs, rfl, hg⟩ := nk_rcv_inv hrcv
  have hdg' : decode cc pc = .ok (.invokespecial x, 3) := by
    rw [hdg]
    have e1 : (4 * x + 1) % 4 = 1 := by omega
    have e2 : (4 * x + 1) / 4 = x := by omega
    simp [nk_kop, e1, e2]
  have hpre := nk_pre hB0 (as := .ref q :: As) hP hD hS hnx hT X
  have hrun := va_runIN (p := p) (e := e) (below := below) (meth := meth) (H := H) (locs := locs) (cells := cs) (slots := sl) (g := F0 m pc ls (((.ref q :: As).reverse ++ S).map (nk_v ad))) (As := As.map (nk_v ad)) (rest := S.map (nk_v ad)) (b := ad q) (n := n) ⟨hx, hb, hml, hown, hts⟩ (hM D cA ad H.size (.ref q :: As) h K hev)
    ⟨va_cnB n hts (nk_goodw hw) rfl hrc hrs (hN.1 _ hne) (hts _ hin) hd hR, hy, hts _ him⟩ ⟨nk_blind al D cA ad H.size (.ref q :: As) h, hpre⟩ rfl (by rw [List.length_map]; have : As.length + 1 = n + 1 := hn; omega) hL.2.1 (nk_rev_cons (.ref q) As S) (lv_room (by rw [nk_cat_sum]; exact hcat)) hdg' ⟨hcs, hsl⟩
  exact nk_after hB0 hrun hD hS hnx hL kk T hT X
/-- Object's own constructor -/
theorem nk_callO {l : Launch} {R : Room} {own : String} {cc : ByteArray} {nL : Nat} {al : Bool} {x ci : Nat} (hli : Cond.methodLink own x objectInit ∈ nk_gw) (him : Cond.instanceMethod objectInit ∈ nk_gw) (hw : Cond.code objectInit ⟨#[0xb1]⟩ 1 none ∈ nk_gw) (hR : 1 ≤ R.frames ∧ 20 ≤ R.locals) :
    nk_CallOk l R own cc nL al (4 * x + 1) (1, ci + 1, 0, 0, fun _ h K => K none h) := by
  intro p e s m args below meth c D cA ad A n0 Q hB pc hdg L S as h cs sl K hn hrcv hcat hcs hsl hev kk H locs ls hP hD hS hnx hL
  obtain ⟨hx, hb, hml, hown, hts, hN, hK, hA, hSt, hlk, hax⟩ := hB
  obtain ⟨q, As, fs, rfl, hg⟩ := nk_rcv_inv hrcv
  have hAs : As = [] := by
    cases As with
    | nil => rfl
    | cons a l => cases hn
  subst hAs
  have hdg' : decode cc pc = .ok (.invokespecial x, 3) := by
    rw [hdg]
    have e1 : (4 * x + 1) % 4 = 1 := by omega
    have e2 : (4 * x + 1) / 4 = x := by omega
    simp [nk_kop, e1, e2]
  refine W.objInit hx hb hown (hts _ hli) (hts _ him) (hts _ hw) (g := F0 m pc ls (([Value.ref q].reverse ++ S).map (nk_v ad))) (a := ad q) (rest := S.map (nk_v ad)) rfl (by rw [hml]; exact hL.2.1) rfl hdg' hR.1 ?_ ?_
  · have h1 := lv_room (m := m) (pc := pc) (ls := ls) (rest := ([Value.ref q].reverse ++ S).map (nk_v ad)) (st := S.map (nk_v ad)) (by rw [nk_cat_sum]; exact hcat)
    omega
  · exact kk none h hev H locs ls hP hD hS hnx hL
end
section
/-! ===== every instruction of a table is sound; a method's contract ===== -/
theorem nk_lk_mem {α : Type} : ∀ (l : List (Nat × α)) (i : Nat) (a : α), nk_lk l i = some a → (i, a) ∈ l
  | [], _, _, h => by cases h
  | q :: l, i, a, h => by
    unfold nk_lk at h
    cases hb : Nat.beq q.1 i with
    | true =>
      rw [hb] at h
      have e1 := Nat.eq_of_beq_eq_true hb
      cases h
      rw [← e1]
      exact List.mem_cons_self
    | false =>
      rw [hb] at h
      exact List.mem_cons_of_mem _ (nk_lk_mem l i a h)
theorem nk_sm_inv {α : Type} {x : Option α} {k : α → Prop} (h : nk_sm x k) : ∃ a, x = some a ∧ k a := by
  unfold nk_sm at h
  split at h
  · exact ⟨_, rfl, h⟩
  · exact h.elim
theorem nk_if_inv {b : Bool} {P : Prop} (h : nk_if b P) : b = true ∧ P := by
  cases b
  · exact h.elim
  · exact ⟨rfl, h⟩
theorem nk_obj_inv {h : nk_H} {q ci : Nat} {k : List Value → Prop} (hp : nk_obj h q ci k) : ∃ fs, nk_lg h q = some (.inr (ci, fs)) ∧ k fs := by
  unfold nk_obj at hp
  split at hp
  · rename_i cj fs hg
    obtain ⟨hb, hp1⟩ := nk_if_inv hp
    have := Nat.eq_of_beq_eq_true hb
    subst this
    exact ⟨fs, hg, hp1⟩
  · exact hp.elim
theorem nk_iaw_inv {h : nk_H} {q : Nat} {k : Nat → (Nat → Int32) → Prop} (hp : nk_iaw h q k) : ∃ n f, nk_lg h q = some (.inl (0, n, .inl f)) ∧ k n f := by
  unfold nk_iaw at hp
  split at hp
  · rename_i t n f hg
    obtain ⟨hb, hp1⟩ := nk_if_inv hp
    have := Nat.eq_of_beq_eq_true hb
    subst this
    exact ⟨n, f, hg, hp1⟩
  · exact hp.elim
theorem nk_iar_inv {h : nk_H} {q : Nat} {k : Nat → (Nat → Int32) → Prop} (hp : nk_iar h q k) : (∃ n f, nk_lg h q = some (.inl (0, n, .inl f)) ∧ k n f) ∨ (∃ r, (q, r) ∈ nk_sta ∧ k r.1 r.2.1) := by
  unfold nk_iar at hp
  split at hp
  · rename_i t n f hg
    obtain ⟨hb, hp1⟩ := nk_if_inv hp
    have := Nat.eq_of_beq_eq_true hb
    subst this
    exact Or.inl ⟨n, f, hg, hp1⟩
  · obtain ⟨r, h1, h2⟩ := nk_sm_inv hp
    exact Or.inr ⟨r, nk_lk_mem _ _ _ h1, h2⟩
  · exact hp.elim
theorem nk_lar_inv {h : nk_H} {q : Nat} {k : Nat → (Nat → Int64) → Prop} (hp : nk_lar h q k) : ∃ n f, nk_lg h q = some (.inl (1, n, .inr (.inl f))) ∧ k n f := by
  unfold nk_lar at hp
  split at hp
  · rename_i t n f hg
    obtain ⟨hb, hp1⟩ := nk_if_inv hp
    have := Nat.eq_of_beq_eq_true hb
    subst this
    exact ⟨n, f, hg, hp1⟩
  · exact hp.elim
theorem nk_rar_inv {h : nk_H} {q : Nat} {k : Nat → Nat → (Nat → Option Nat) → Prop} (hp : nk_rar h q k) : ∃ t n f, nk_lg h q = some (.inl (t, n, .inr (.inr (.inr (.inr f))))) ∧ k t n f := by
  unfold nk_rar at hp
  split at hp
  · rename_i t n f hg
    exact ⟨t, n, f, hg, hp⟩
  · exact hp.elim
theorem nk_len_inv {h : nk_H} {q : Nat} {k : Nat → Prop} (hp : nk_len h q k) : ∃ t n f ty, nk_lg h q = some (.inl (t, n, f)) ∧ nk_ty[t]? = some ty ∧ k n := by
  unfold nk_len at hp
  split at hp
  · rename_i t n f hg
    obtain ⟨ty, h1, h2⟩ := nk_sm_inv hp
    rw [nk_lg_eq] at h1
    exact ⟨t, n, f, ty, hg, h1, h2⟩
  · exact hp.elim
theorem nk_popn_inv : ∀ (n : Nat) (acc S : List Value) (k : List Value → List Value → Prop), nk_popn n acc S k → ∃ as S', as.length = n ∧ S = as.reverse ++ S' ∧ k (as ++ acc) S'
  | 0, acc, S, k, h => ⟨[], S, rfl, rfl, h⟩
  | n + 1, acc, [], k, h => False.elim h
  | n + 1, acc, v :: S, k, h => by
    obtain ⟨as, S', h1, h2, h3⟩ := nk_popn_inv n (v :: acc) S k h
    refine ⟨as ++ [v], S', by simp [h1], by simp [h2], by simpa using h3⟩
theorem nk_add_inv {c m : Nat} {k : Nat → Prop} (h : nk_add c m k) : k (c + m) := by
  cases m with
  | zero => exact h
  | succ m => exact h
theorem nk_ret_inv {r : Option Value} {S : List Value} {k : List Value → Prop} (h : nk_ret r S k) : k (r.toList ++ S) := by
  cases r <;> exact h
theorem nk_rcv_t {rc : Nat} {as : List Value} {h : nk_H} {P : Prop} (hp : nk_rcv rc as h P) : nk_rcv rc as h True ∧ P := by
  cases rc with
  | zero => exact ⟨trivial, hp⟩
  | succ ci =>
    obtain ⟨q, As, e1, hp1⟩ := nk_pr_inv hp
    subst e1
    obtain ⟨fs, hg, hp2⟩ := nk_obj_inv hp1
    refine ⟨?_, hp2⟩
    show nk_obj h q ci (fun _ => True)
    unfold nk_obj
    rw [hg]
    show nk_if (Nat.beq ci ci) True
    rw [Nat.beq_refl]
    trivial
/-- fields of a class: the row of a table is right -/
def nk_isr : FieldType → Bool
  | .object _ => true
  | .array _ => true
  | _ => false
def nk_kdok (kd : Nat) (d : String) (fin : Bool) : Bool := match kd with
  | 0 => decide (parseFieldDescriptor d = some .int) && !fin
  | 1 => decide (parseFieldDescriptor d = some .boolean) && !fin
  | 2 => decide (parseFieldDescriptor d = some .long) && !fin
  | 3 => (match parseFieldDescriptor d with
    | some ty => nk_isr ty
    | none => false) && !fin
  | 4 => (match parseFieldDescriptor d with
    | some ty => nk_isr ty
    | none => false) && fin
  | 5 => true
  | _ => false
def nk_fok (own : String) (q : Nat × Nat × Nat × Nat) : Bool := match nk_cl[q.2.1]? with
  | some r => decide (q.2.2.1 < r.2.2) && decide (Cond.fieldLink own q.1 (r.2.1 q.2.2.1).1 (r.2.1 q.2.2.1).2.1 (r.2.1 q.2.2.1).2.2.1 ∈ nk_gw) && nk_kdok q.2.2.2 (r.2.1 q.2.2.1).2.2.1 (r.2.1 q.2.2.1).2.2.2 && (decide (q.2.2.2 ≠ 4) || decide ((r.2.1 q.2.2.1).1 = own))
  | none => false
def nk_clok (r : vw_C) : Prop := (∀ w ∈ u_ws r.1 r.2.1 r.2.2, w ∈ nk_gw) ∧ ∃ ty : Nat → FieldType, (∀ k, k < r.2.2 → parseFieldDescriptor (r.2.1 k).2.2.1 = some (ty k)) ∧ (∀ a, a < r.2.2 → ∀ b, b < r.2.2 → a ≠ b → (r.2.1 a).2.1 ≠ (r.2.1 b).2.1)
/-- a class that may be made: its fields at first -/
def nk_newok (own : String) (q : Nat × Nat × List Value) : Prop := ∃ (r : vw_C) (ty : Nat → FieldType), nk_cl[q.2.1]? = some r ∧ r.2.2 = q.2.2.length ∧ (∀ k, k < r.2.2 → parseFieldDescriptor (r.2.1 k).2.2.1 = some (ty k)) ∧ (∀ j, j < r.2.2 → defaultValue (ty j) = vp_V q.2.2 j) ∧ (∀ v ∈ q.2.2, ∀ ad, nk_v ad v = v) ∧ Cond.classLink own q.1 r.1 ∈ nk_gw ∧ Cond.instantiable r.1 r.2.2 ∈ nk_gw ∧ Cond.initialized r.1 ∈ nk_gw
def nk_arrok (own : String) (q : Nat × Nat) : Prop := ∃ C : String, nk_ty[q.2]? = some (.object C) ∧ Cond.classLink own q.1 C ∈ nk_gw ∧ C ∈ nk_ao
/-- a static array: the row of a table is right -/
def nk_stok (own : String) (q : Nat × Nat) : Prop := ∃ r ∈ nk_sta, r.1 = q.2 ∧ Cond.fieldLink own q.1 r.2.2.2.1 r.2.2.2.2.1 r.2.2.2.2.2 ∈ nk_gw
def nk_rt : Nat → Option FieldType
  | 0 => none
  | 1 => some .int
  | 2 => some .boolean
  | _ => some .long
/-- what is asked of a method's tables -/
def nk_Tok (l : Launch) (R : Room) (own : String) (cc : ByteArray) (nL : Nat) (al : Bool) (X : nk_T) : Prop :=
  (∀ q ∈ X.1, nk_fok own q = true) ∧ (∀ q ∈ X.2.1, nk_CallOk l R own cc nL al q.1 q.2) ∧ (∀ q ∈ X.2.2.1, Cond.constant own q.1 q.2 ∈ nk_gw) ∧ (∀ q ∈ X.2.2.2.1, Cond.constantLong own q.1 q.2 ∈ nk_gw) ∧ (∀ q ∈ X.2.2.2.2.1, nk_newok own q) ∧ (∀ q ∈ X.2.2.2.2.2.1, nk_arrok own q) ∧ (∀ q ∈ X.2.2.2.2.2.2.1, nk_stok own q) ∧ (0 < X.2.2.2.2.2.2.2.2.2.1 → al = true) ∧ R.cells = X.2.2.2.2.2.2.2.2.2.1 ∧ R.slots = X.2.2.2.2.2.2.2.2.2.2
theorem nk_end_inv {X : nk_T} {c s : Nat} {P : Prop} (h : nk_end X c s P) : (c = X.2.2.2.2.2.2.2.2.2.1 ∧ s ≤ X.2.2.2.2.2.2.2.2.2.2) ∧ P := by
  obtain ⟨h1, h2⟩ := nk_if_inv h
  rw [Bool.and_eq_true] at h1
  exact ⟨⟨Nat.eq_of_beq_eq_true h1.1, Nat.le_of_ble_eq_true h1.2⟩, h2⟩
theorem nk_room_inv {X : nk_T} {c s : Nat} {P : Prop} (h : nk_room X c s P) : (c ≤ X.2.2.2.2.2.2.2.2.2.1 ∧ s ≤ X.2.2.2.2.2.2.2.2.2.2) ∧ P := by
  obtain ⟨h1, h2⟩ := nk_if_inv h
  rw [Bool.and_eq_true] at h1
  exact ⟨⟨Nat.le_of_ble_eq_true h1.1, Nat.le_of_ble_eq_true h1.2⟩, h2⟩
/-- what is asked of the tables that all methods share -/
def nk_Gok : Prop := (∀ r ∈ nk_cl, nk_clok r) ∧ Cond.arrayClass .int ∈ nk_gw ∧ Cond.arrayClass .long ∈ nk_gw ∧ (∀ q ∈ nk_cm, ∃ r : vw_C, nk_cl[q.2]? = some r ∧ nk_ty[q.1]? = some (.object r.1))
theorem nk_SS {A : Nat → Prop} {H0 H H1 : Heap} {locs locs1 : List Loc} (h1 : va_S A H0 H locs) (h2 : va_S A H H1 locs1) : va_S A H0 H1 locs1 := ⟨Nat.le_trans h1.1 h2.1, fun q a b => (h2.2.1 q (Nat.lt_of_lt_of_le a h1.1) b).trans (h1.2.1 q a b), h2.2.2⟩
theorem nk_S0 {A : Nat → Prop} {H0 H : Heap} {locs : List Loc} (h1 : va_S A H0 H locs) : va_S A H H locs := ⟨Nat.le_refl _, fun _ _ _ => rfl, h1.2.2⟩
theorem nk_nxs {al : Bool} {n0 : Nat} {s : State} {h h' : nk_H} {H H1 : Heap} {cs : Nat} (hn : nk_nx al n0 s h H cs) (hl : h'.length = h.length) (hz : H.size ≤ H1.size) : nk_nx al n0 s h' H1 cs := fun hal => by
  have := hn hal
  exact ⟨by omega, by omega⟩
section NkNew
variable {p : Program} {l : Launch} {e : Env} {R : Room} {s : State} {m : MethodId} {args : Array Value} {below : List Frame} {meth : Method} {c : Code} {H : Heap} {locs : List Loc} {cells slots : Nat} {Q : State → Prop}
variable {own : String} {cc : ByteArray} {ad : Nat → Nat} {nL n0 : Nat} {D : va_G} {cA : Nat → ClassId} {A : Nat → Prop} {al : Bool}
/-- a new cell at the heap's end, as the picture has it -/
theorem nk_grow (hA : ∀ q : Nat, s.heap.size ≤ q → A q) {h : nk_H} {o : nk_O} {H1 : Heap} (hP : va_P D nk_cl (nk_w cA ad h 0) H) (hD : va_D A (nk_w cA ad h 0)) (hS : va_S A s.heap H locs) (hn : nk_nx al n0 s h H cells) (ha : ad h.length = H.size) (z1 : H1.size = H.size + 1) (o1 : ∀ q : Nat, q < H.size → H1[q]? = H[q]?) (ho : va_at D nk_cl (H.size, nk_o cA ad o) H1) :
    va_P D nk_cl (nk_w cA ad (h ++ [o]) 0) H1 ∧ va_D A (nk_w cA ad (h ++ [o]) 0) ∧ va_S A s.heap H1 locs ∧ nk_nx al n0 s (h ++ [o]) H1 (cells + 1) := by
  have he : nk_w cA ad (h ++ [o]) 0 = nk_w cA ad h 0 ++ [(H.size, nk_o cA ad o)] := by
    rw [nk_w_app, Nat.zero_add, ha]
  have hk : ∀ (k : Nat) (x : Nat × va_E), (nk_w cA ad h 0)[k]? = some x → H1[x.1]? = H[x.1]? := fun k x hx => o1 x.1 ((hP k x hx).lt)
  refine ⟨?_, ?_, ⟨Nat.le_trans hS.1 (by omega), fun x h1 h2 => (o1 x (Nat.lt_of_lt_of_le h1 hS.1)).trans (hS.2.1 x h1 h2), hS.2.2⟩, fun hal => ?_⟩
  · rw [he]
    refine (hP.kept hk).app (fun k x hx => ?_)
    have hz : k < 1 := (List.getElem?_eq_some_iff.mp hx).1
    rw [show k = 0 by omega] at hx
    cases hx
    exact ho
  · rw [he]
    exact hD.push hP rfl (hA _ hS.1)
  · obtain ⟨h1, h2⟩ := hn hal
    rw [List.length_append]
    exact ⟨by simp; omega, by omega⟩
end NkNew
section NkSem
variable {p : Program} {l : Launch} {e : Env} {R : Room} {s : State} {m : MethodId} {args : Array Value} {below : List Frame} {meth : Method} {c : Code}
variable {own : String} {cc : ByteArray} {ad : Nat → Nat} {nL n0 : Nat} {D : va_G} {cA : Nat → ClassId} {A : Nat → Prop} {al : Bool} {Qc : Array Value → State → Outcome → State → Prop}
set_option maxHeartbeats 8000000 in
theorem nk_semW (hB : nk_B p s m args meth c own cc nL D cA ad A al n0) {X : nk_T} (hT : nk_Tok l R own cc nL al X) (hG : nk_Gok) (hini : X.2.2.2.2.2.2.2.2.1 = true → meth.name = "<init>") (hrt : meth.sig.returnType = nk_rt X.2.2.2.2.2.2.2.1)
    {pc n nx : Nat} {i : Instr} {tg : List Nat} {lit : Int32} (hdg : decode cc pc = .ok (i, n)) (hok : nk_ok pc i n nx tg lit = true) {L : nk_Ls} {S : List Value} {h : nk_H} {cs sl : Nat} {K : nk_K} {Qa : nk_Q}
    (hQ : ∀ (v : Option Value) (h' : nk_H) (t : State) (locs : List Loc), Qa v h' → s.WarmedH t.vm → va_P D nk_cl (nk_w cA ad h' 0) t.heap → va_D A (nk_w cA ad h' 0) → va_S A s.heap t.heap locs → nk_nx al n0 s h' t.heap X.2.2.2.2.2.2.2.2.2.1 → Qc args s (.returned (v.map (nk_v ad))) t)
    (hp : nk_sem X i nx tg lit L S h cs sl K Qa)
    (kk : ∀ (pc : Nat) (L : nk_Ls) (S : List Value) (h : nk_H) (cs sl : Nat), K pc L S h cs sl → nk_G p l e R s m args below meth c nL D cA ad A al n0 (MQ below Qc args s X.2.2.2.2.2.2.2.2.2.1 X.2.2.2.2.2.2.2.2.2.2 A) pc L S h cs sl) :
    nk_G p l e R s m args below meth c nL D cA ad A al n0 (MQ below Qc args s X.2.2.2.2.2.2.2.2.2.1 X.2.2.2.2.2.2.2.2.2.2 A) pc L S h cs sl := by
  have hB0 := hB
  obtain ⟨hx, hb, hml, hown, hts, hN, hK, hA, hSt, hlk, hax⟩ := hB
  obtain ⟨tF, tC, tI, tJ, tN, tA, tS, tal, tR1, tR2⟩ := hT
  obtain ⟨hcl, hwi, hwl, hcm⟩ := hG
  have calls : ∀ (key : Nat), decode cc pc = .ok (nk_kop key, 3) → nk_call X key (pc + 3) L S h cs sl K → nk_G p l e R s m args below meth c nL D cA ad A al n0 (MQ below Qc args s X.2.2.2.2.2.2.2.2.2.1 X.2.2.2.2.2.2.2.2.2.2 A) pc L S h cs sl := by
    intro key hd2 hp
    obtain ⟨C, hC, hp⟩ := nk_sm_inv hp
    obtain ⟨as, S1, hlen, hS1, hp⟩ := nk_popn_inv _ _ _ _ hp
    rw [List.append_nil] at hp
    obtain ⟨hrc, hp⟩ := nk_rcv_t hp
    obtain ⟨hcat, hp⟩ := nk_if_inv hp
    have hp := nk_add_inv hp
    have hp := nk_add_inv hp
    obtain ⟨hr, hp⟩ := nk_if_inv hp
    rw [Bool.and_eq_true] at hr
    rw [hS1]
    exact tC _ (nk_lk_mem _ _ _ hC) p e s m args below meth c D cA ad A n0 _ hB0 pc hd2 L S1 as h cs sl _ hlen hrc (Nat.le_of_ble_eq_true hcat) (by rw [tR1]; exact Nat.le_of_ble_eq_true hr.1) (by rw [tR2]; exact Nat.le_of_ble_eq_true hr.2) hp (fun v h' hk => kk _ _ _ _ _ _ (nk_ret_inv hk))
  cases i
  case invokevirtual x =>
    simp only [nk_ok, Bool.and_eq_true, decide_eq_true_eq] at hok
    obtain ⟨rfl, rfl⟩ := hok
    exact calls (4 * x) (by rw [hdg]; simp [nk_kop]) hp
  case invokespecial x =>
    simp only [nk_ok, Bool.and_eq_true, decide_eq_true_eq] at hok
    obtain ⟨rfl, rfl⟩ := hok
    exact calls (4 * x + 1) (by
      rw [hdg]
      have e1 : (4 * x + 1) % 4 = 1 := by omega
      have e2 : (4 * x + 1) / 4 = x := by omega
      simp [nk_kop, e1, e2]) hp
  case invokestatic x =>
    simp only [nk_ok, Bool.and_eq_true, decide_eq_true_eq] at hok
    obtain ⟨rfl, rfl⟩ := hok
    exact calls (4 * x + 2) (by
      rw [hdg]
      have e1 : (4 * x + 2) % 4 = 2 := by omega
      have e2 : (4 * x + 2) / 4 = x := by omega
      simp [nk_kop, e1, e2]) hp
  all_goals intro H locs ls hP hD hS hn hL
  case getfield x =>
    simp only [nk_ok, Bool.and_eq_true, decide_eq_true_eq] at hok
    obtain ⟨rfl, rfl⟩ := hok
    obtain ⟨f, hf, hp⟩ := nk_sm_inv hp
    obtain ⟨q, S1, rfl, hp⟩ := nk_pr_inv hp
    obtain ⟨fs, hg, hp⟩ := nk_obj_inv hp
    obtain ⟨v, hv, hp⟩ := nk_sm_inv hp
    have hfo := tF _ (nk_lk_mem _ _ _ hf)
    unfold nk_fok at hfo
    cases hr : nk_cl[f.1]? with
    | none => simp only [hr] at hfo; cases hfo
    | some r =>
      simp only [hr, Bool.and_eq_true, decide_eq_true_eq] at hfo
      obtain ⟨⟨⟨hk, hlink⟩, -⟩, -⟩ := hfo
      have hcr := hcl r (List.mem_of_getElem? hr)
      refine va_get (ref := (r.2.1 f.2.1).1) (v := nk_v ad v) hx hb hts hcr.1 hown hK hP q (nk_w_at hg) hr f.2.1 hk (hts _ hlink) (fun _ h9 => h9) ?_ hdg (kk _ _ _ _ _ _ hp H locs ls hP hD hS hn hL)
      rw [List.getElem?_map, ← nk_lg_eq, hv]
      rfl
  case putfield x =>
    simp only [nk_ok, Bool.and_eq_true, decide_eq_true_eq] at hok
    obtain ⟨rfl, rfl⟩ := hok
    obtain ⟨f, hf, hp⟩ := nk_sm_inv hp
    cases S with
    | nil => exact hp.elim
    | cons v S =>
    obtain ⟨q, S1, rfl, hp⟩ := nk_pr_inv hp
    obtain ⟨fs, hg, hp⟩ := nk_obj_inv hp
    have hfo := tF _ (nk_lk_mem _ _ _ hf)
    unfold nk_fok at hfo
    obtain ⟨f1, f2, f3⟩ := f
    cases hr : nk_cl[f1]? with
    | none => simp only [hr] at hfo; cases hfo
    | some r =>
      simp only [hr, Bool.and_eq_true, decide_eq_true_eq] at hfo
      obtain ⟨⟨⟨hk, hlink⟩, hkd⟩, hdec⟩ := hfo
      obtain ⟨hcr1, ty0, hty, hnm⟩ := hcl r (List.mem_of_getElem? hr)
      have fin : nk_ins fs f2 v (fun fs => K (pc + 3) L S1 (h.set q (.inr (f1, fs))) cs sl) → f2 < (fs.map (nk_v ad)).length ∧ ∀ (H1 : Heap) (locs1 : List Loc), va_P D nk_cl ((nk_w cA ad h 0).set q (ad q, .inr (f1, (fs.map (nk_v ad)).set f2 (nk_v ad v)))) H1 → va_D A ((nk_w cA ad h 0).set q (ad q, .inr (f1, (fs.map (nk_v ad)).set f2 (nk_v ad v)))) → va_S A H H1 locs1 → W p l e R s m args below meth c H1 locs1 cs sl (MQ below Qc args s X.2.2.2.2.2.2.2.2.2.1 X.2.2.2.2.2.2.2.2.2.2 A) (F0 m (pc + 3) ls (S1.map (nk_v ad))) := by
        intro P
        obtain ⟨h1, h2⟩ := nk_ins_set _ _ _ _ P
        refine ⟨by rw [List.length_map]; exact h1, fun H1 locs1 hP1 hD1 hS1 => ?_⟩
        have he : (nk_w cA ad h 0).set q (ad q, .inr (f1, (fs.map (nk_v ad)).set f2 (nk_v ad v))) = nk_w cA ad (h.set q (.inr (f1, fs.set f2 v))) 0 := nk_w_st (by show _ = Sum.inr (f1, (fs.set f2 v).map (nk_v ad)); rw [List.map_set])
        rw [he] at hP1 hD1
        exact kk _ _ _ _ _ _ h2 H1 locs1 ls hP1 hD1 (nk_SS hS hS1) (nk_nxs hn List.length_set hS1.1) hL
      have plain : ∀ (ty : FieldType), parseFieldDescriptor (r.2.1 f2).2.2.1 = some ty → (r.2.1 f2).2.2.2 = false → narrow ty (nk_v ad v) = nk_v ad v → fits ty (nk_v ad v) = true → nk_ins fs f2 v (fun fs => K (pc + 3) L S1 (h.set q (.inr (f1, fs))) cs sl) → W p l e R s m args below meth c H locs cs sl (MQ below Qc args s X.2.2.2.2.2.2.2.2.2.1 X.2.2.2.2.2.2.2.2.2.2 A) (F0 m pc ls (nk_v ad v :: .ref (ad q) :: S1.map (nk_v ad))) := by
        intro ty e1 e2 e3 e4 P
        obtain ⟨w1, w2⟩ := fin P
        exact va_put (ref := (r.2.1 f2).1) hx hb hts hcr1 ty0 hty hnm hown hK hP hD (nk_S0 hS) q (nk_w_at hg) hr f2 hk (hts _ hlink) (fun _ h9 => h9) e2 e1 e3 e4 w1 hdg w2
      match f3, hp, hkd, hdec with
      | 0, hp, hkd, _ =>
        simp only [nk_kdok, Bool.and_eq_true, decide_eq_true_eq, Bool.not_eq_true'] at hkd
        cases v with
        | int x => exact plain .int hkd.1 hkd.2 rfl rfl hp
        | _ => exact False.elim hp
      | 1, hp, hkd, _ =>
        simp only [nk_kdok, Bool.and_eq_true, decide_eq_true_eq, Bool.not_eq_true'] at hkd
        cases v with
        | int x =>
          obtain ⟨hx01, hp⟩ := (hp : nk_bo x _)
          rcases hx01 with rfl | rfl
          · exact plain .boolean hkd.1 hkd.2 rfl rfl hp
          · exact plain .boolean hkd.1 hkd.2 rfl rfl hp
        | _ => exact False.elim hp
      | 2, hp, hkd, _ =>
        simp only [nk_kdok, Bool.and_eq_true, decide_eq_true_eq, Bool.not_eq_true'] at hkd
        cases v with
        | long x => exact plain .long hkd.1 hkd.2 rfl rfl hp
        | _ => exact False.elim hp
      | 3, hp, hkd, _ =>
        simp only [nk_kdok, Bool.and_eq_true, Bool.not_eq_true'] at hkd
        cases v with
        | ref x =>
          cases hpd : parseFieldDescriptor (r.2.1 f2).2.2.1 with
          | none => rw [hpd] at hkd; cases hkd.1
          | some ty =>
            rw [hpd] at hkd
            cases ty with
            | object C => exact plain (.object C) hpd hkd.2 rfl rfl hp
            | array t => exact plain (.array t) hpd hkd.2 rfl rfl hp
            | _ => cases hkd.1
        | _ => exact False.elim hp
      | 4, hp, hkd, hdec =>
        simp only [nk_kdok, Bool.and_eq_true] at hkd
        simp at hdec
        cases v with
        | ref x =>
          obtain ⟨hi, hp⟩ := nk_if_inv hp
          obtain ⟨w1, w2⟩ := fin hp
          cases hpd : parseFieldDescriptor (r.2.1 f2).2.2.1 with
          | none => rw [hpd] at hkd; cases hkd.1
          | some ty =>
            rw [hpd] at hkd
            cases ty with
            | object C => exact va_putF (ref := (r.2.1 f2).1) hx hb hts hcr1 ty0 hty hnm hown hK hP hD (nk_S0 hS) q (nk_w_at hg) hr f2 hk (hts _ hlink) (fun _ h9 => h9) hkd.2 (hini hi) hdec hpd rfl rfl w1 hdg w2
            | array t => exact va_putF (ref := (r.2.1 f2).1) hx hb hts hcr1 ty0 hty hnm hown hK hP hD (nk_S0 hS) q (nk_w_at hg) hr f2 hk (hts _ hlink) (fun _ h9 => h9) hkd.2 (hini hi) hdec hpd rfl rfl w1 hdg w2
            | _ => cases hkd.1
        | _ => exact False.elim hp
      | k + 5, hp, _, _ => exact False.elim hp
  case iaload =>
    simp only [nk_ok, Bool.and_eq_true, decide_eq_true_eq] at hok
    obtain ⟨rfl, rfl⟩ := hok
    obtain ⟨i, S1, rfl, hp⟩ := nk_pi_inv hp
    obtain ⟨q, S2, rfl, hp⟩ := nk_pr_inv hp
    rcases nk_iar_inv hp with ⟨n, f, hg, hin, hp⟩ | ⟨r, hr, hin, hp⟩
    · exact va_iald hx hb hK hP q 0 (nk_w_at hg) (nk_tys_at rfl) hin hdg (kk _ _ _ _ _ _ hp H locs ls hP hD hS hn hL)
    · obtain ⟨s1, s2, s3, -⟩ := hSt _ hr
      exact va_sld hx hb s1 s2 s3 hS hin hdg (kk _ _ _ _ _ _ hp H locs ls hP hD hS hn hL)
  case laload =>
    simp only [nk_ok, Bool.and_eq_true, decide_eq_true_eq] at hok
    obtain ⟨rfl, rfl⟩ := hok
    obtain ⟨i, S1, rfl, hp⟩ := nk_pi_inv hp
    obtain ⟨q, S2, rfl, hp⟩ := nk_pr_inv hp
    obtain ⟨n, f, hg, hin, hp⟩ := nk_lar_inv hp
    exact va_lald hx hb hK hP q 1 (nk_w_at hg) (nk_tys_at rfl) hin hdg (kk _ _ _ _ _ _ hp H locs ls hP hD hS hn hL)
  case aaload =>
    simp only [nk_ok, Bool.and_eq_true, decide_eq_true_eq] at hok
    obtain ⟨rfl, rfl⟩ := hok
    obtain ⟨i, S1, rfl, hp⟩ := nk_pi_inv hp
    obtain ⟨q, S2, rfl, hp⟩ := nk_pr_inv hp
    obtain ⟨t, n, f, hg, hp⟩ := nk_rar_inv hp
    obtain ⟨ci, hci, hin, hp⟩ := nk_sm_inv hp
    obtain ⟨r, hr1, hr2⟩ := hcm _ (nk_lk_mem _ _ _ hci)
    refine va_aldq hx hb hK hP q t (nk_w_at hg) (nk_tys_at hr2) hin hdg ?_
    have h1 := kk _ _ _ _ _ _ hp H locs ls hP hD hS hn hL
    have h2 : va_rf ((f i.toNatClampNeg).map ad) = nk_v ad (va_rf (f i.toNatClampNeg)) := by cases f i.toNatClampNeg <;> rfl
    rw [h2]
    exact h1
  case iastore =>
    simp only [nk_ok, Bool.and_eq_true, decide_eq_true_eq] at hok
    obtain ⟨rfl, rfl⟩ := hok
    obtain ⟨v, S0, rfl, hp⟩ := nk_pi_inv hp
    obtain ⟨i, S1, rfl, hp⟩ := nk_pi_inv hp
    obtain ⟨q, S2, rfl, hp⟩ := nk_pr_inv hp
    obtain ⟨n, f, hg, hin, hp⟩ := nk_iaw_inv hp
    refine va_iast hx hb hK hP hD (nk_S0 hS) q 0 (nk_w_at hg) (nk_tys_at rfl) hin hdg (fun H1 locs1 hP1 hD1 hS1 => ?_)
    have he : (Sum.inl (cA 0, n, .inl (upd f i.toNatClampNeg v)) : va_E) = nk_o cA ad (.inl (0, n, .inl (upd f i.toNatClampNeg v))) := rfl
    rw [nk_w_st he] at hP1 hD1
    exact kk _ _ _ _ _ _ hp H1 locs1 ls hP1 hD1 (nk_SS hS hS1) (nk_nxs hn List.length_set hS1.1) hL
  case lastore =>
    simp only [nk_ok, Bool.and_eq_true, decide_eq_true_eq] at hok
    obtain ⟨rfl, rfl⟩ := hok
    obtain ⟨v, S0, rfl, hp⟩ := nk_pl_inv hp
    obtain ⟨i, S1, rfl, hp⟩ := nk_pi_inv hp
    obtain ⟨q, S2, rfl, hp⟩ := nk_pr_inv hp
    obtain ⟨n, f, hg, hin, hp⟩ := nk_lar_inv hp
    refine va_last hx hb hK hP hD (nk_S0 hS) q 1 (nk_w_at hg) (nk_tys_at rfl) hin hdg (fun H1 locs1 hP1 hD1 hS1 => ?_)
    have he : (Sum.inl (cA 1, n, .inr (.inl (vp_updL f i.toNatClampNeg v))) : va_E) = nk_o cA ad (.inl (1, n, .inr (.inl (vp_updL f i.toNatClampNeg v)))) := rfl
    rw [nk_w_st he] at hP1 hD1
    exact kk _ _ _ _ _ _ hp H1 locs1 ls hP1 hD1 (nk_SS hS hS1) (nk_nxs hn List.length_set hS1.1) hL
  case aastore =>
    simp only [nk_ok, Bool.and_eq_true, decide_eq_true_eq] at hok
    obtain ⟨rfl, rfl⟩ := hok
    obtain ⟨v, S0, rfl, hp⟩ := nk_pr_inv hp
    obtain ⟨i, S1, rfl, hp⟩ := nk_pi_inv hp
    obtain ⟨q, S2, rfl, hp⟩ := nk_pr_inv hp
    obtain ⟨t, n, f, hg, hp⟩ := nk_rar_inv hp
    obtain ⟨ci, hci, hp⟩ := nk_sm_inv hp
    obtain ⟨vs, hgv, hin, hp⟩ := nk_obj_inv hp
    obtain ⟨r, hr1, hr2⟩ := hcm _ (nk_lk_mem _ _ _ hci)
    refine va_astq hx hb hK hP hD (nk_S0 hS) q t v ci (nk_w_at hg) (nk_tys_at hr2) (nk_w_at hgv) hr1 hin hdg (fun H1 locs1 hP1 hD1 hS1 => ?_)
    have he : (Sum.inl (cA t, n, .inr (.inr (.inr (.inr (va_up (fun i => (f i).map ad) i.toNatClampNeg (some (ad v))))))) : va_E) = nk_o cA ad (.inl (t, n, .inr (.inr (.inr (.inr (va_up f i.toNatClampNeg (some v))))))) := by
      have : va_up (fun i => (f i).map ad) i.toNatClampNeg (some (ad v)) = fun j => (va_up f i.toNatClampNeg (some v) j).map ad := by
        funext j
        unfold va_up
        by_cases hj : j = i.toNatClampNeg
        · simp [hj]
        · simp [hj]
      rw [this]
      rfl
    rw [nk_w_st he] at hP1 hD1
    exact kk _ _ _ _ _ _ hp H1 locs1 ls hP1 hD1 (nk_SS hS hS1) (nk_nxs hn List.length_set hS1.1) hL
  case arraylength =>
    simp only [nk_ok, Bool.and_eq_true, decide_eq_true_eq] at hok
    obtain ⟨rfl, rfl⟩ := hok
    obtain ⟨q, S2, rfl, hp⟩ := nk_pr_inv hp
    obtain ⟨t, n, f, ty, hg, hty, hp⟩ := nk_len_inv hp
    exact va_alen hx hb hK hP q t (nk_w_at hg) (nk_tys_at hty) rfl hdg (kk _ _ _ _ _ _ hp H locs ls hP hD hS hn hL)
  case getstatic x =>
    simp only [nk_ok, Bool.and_eq_true, decide_eq_true_eq] at hok
    obtain ⟨rfl, rfl⟩ := hok
    obtain ⟨q, hq, hp⟩ := nk_sm_inv hp
    obtain ⟨r, hr, e1, hlink⟩ := tS _ (nk_lk_mem _ _ _ hq)
    obtain ⟨s1, s2, s3, s4⟩ := hSt _ hr
    rw [e1] at s4
    exact va_gets hx hb s4 hS hown (hts _ hlink) (fun _ h9 => h9) hdg (kk _ _ _ _ _ _ hp H locs ls hP hD hS hn hL)
  case ldc x =>
    simp only [nk_ok, Bool.and_eq_true, decide_eq_true_eq] at hok
    obtain ⟨rfl, rfl⟩ := hok
    obtain ⟨v, hv, hp⟩ := nk_sm_inv hp
    exact W.ldc hx hb hown (hts _ (tI _ (nk_lk_mem _ _ _ hv))) rfl hdg (kk _ _ _ _ _ _ hp H locs ls hP hD hS hn hL)
  case ldc_w x =>
    simp only [nk_ok, Bool.and_eq_true, decide_eq_true_eq] at hok
    obtain ⟨rfl, rfl⟩ := hok
    obtain ⟨v, hv, hp⟩ := nk_sm_inv hp
    exact lv_ldcw hx hb hown (hts _ (tI _ (nk_lk_mem _ _ _ hv))) hdg (kk _ _ _ _ _ _ hp H locs ls hP hD hS hn hL)
  case ldc2_w x =>
    simp only [nk_ok, Bool.and_eq_true, decide_eq_true_eq] at hok
    obtain ⟨rfl, rfl⟩ := hok
    obtain ⟨v, hv, hp⟩ := nk_sm_inv hp
    exact W.ldc2 hx hb hown (hts _ (tJ _ (nk_lk_mem _ _ _ hv))) rfl hdg (kk _ _ _ _ _ _ hp H locs ls hP hD hS hn hL)
  case new x =>
    simp only [nk_ok, Bool.and_eq_true, decide_eq_true_eq] at hok
    obtain ⟨rfl, rfl⟩ := hok
    obtain ⟨d, hd, n, h', e1, e2, hp⟩ := nk_sm_inv hp
    obtain ⟨hbig, hp⟩ := nk_if_inv hp
    have hbig := Nat.le_of_ble_eq_true hbig
    obtain ⟨hroom, hp⟩ := nk_room_inv hp
    subst e1
    subst e2
    obtain ⟨r, ty, hr, hlen, hty, hdef, hcv, hcll, hinst, hinn⟩ := tN _ (nk_lk_mem _ _ _ hd)
    have hal : al = true := tal (by omega)
    intro T hTh XX
    obtain ⟨z1, z2⟩ := nk_sz hn hTh XX hal
    have hadl : ad h.length = H.size := by
      rw [hax hal _ (by omega) (by omega)]
      omega
    have hKn := hK.1 _ _ hr
    refine W.newcK hx hb hown (hts _ hcll) (hts _ hinst) (hts _ hinn) (g := F0 m pc ls (S.map (nk_v ad))) rfl hdg (by rw [tR1]; exact hroom.1) (by rw [tR2, hlen]; exact hroom.2) hKn.2.1 rfl (fun H1 kC hkC e1 z1' o1 => ?_) T hTh XX
    have hmap : d.2.map (nk_v ad) = d.2 := by
      conv => rhs; rw [← List.map_id d.2]
      exact List.map_congr_left (fun v hv => hcv v hv ad)
    obtain ⟨hcr1, -⟩ := hcl r (List.mem_of_getElem? hr)
    obtain ⟨g1, g2, g3, g4⟩ := nk_grow (o := .inr d) hA hP hD hS hn hadl z1' o1 ⟨r, hr, (u_born ty hts hcr1 hKn hkC e1 hty).to (fun j hj => by rw [hmap]; exact hdef j hj)⟩
    have h9 := kk _ _ _ _ _ _ hp H1 locs ls g1 g2 g3 g4 hL
    rw [hlen]
    have he : ((Value.ref h.length :: S).map (nk_v ad)) = .ref H.size :: S.map (nk_v ad) := by
      show Value.ref (ad h.length) :: _ = _
      rw [hadl]
    rw [he] at h9
    exact h9
  case newarray ty =>
    simp only [nk_ok, Bool.and_eq_true, decide_eq_true_eq] at hok
    obtain ⟨rfl, rfl⟩ := hok
    obtain ⟨v, S1, rfl, hv0, hv1, n, z, h', e1, e2, hp⟩ := nk_pi_inv hp
    obtain ⟨hbig, hp⟩ := nk_if_inv hp
    have hbig := Nat.le_of_ble_eq_true hbig
    obtain ⟨hroom, hp⟩ := nk_room_inv hp
    subst e1
    have hal : al = true := tal (by omega)
    intro T hTh XX
    obtain ⟨z1, z2⟩ := nk_sz hn hTh XX hal
    have hadl : ad h.length = H.size := by
      rw [hax hal _ (by omega) (by omega)]
      omega
    cases ty
    case int =>
      obtain ⟨e3, hp⟩ := hp
      subst e3
      refine va_newaK hx hb (atype := .int) (hts _ hwi) (g := F0 m pc ls ((Value.int v :: S1).map (nk_v ad))) rfl hdg rfl hv0 e2 (by have : componentBytes (newarray.typeOf .int) = 4 := rfl; rw [this]; omega) (by rw [tR1]; exact hroom.1) (by rw [tR2]; exact hroom.2) rfl (fun H1 cA' e4 z1' o1 hAr hNm => ?_) T hTh XX
      have hcA : cA' = cA 0 := Option.some.inj (hNm.symm.trans (hK.2 0 _ (nk_tys_at rfl)).2)
      subst hcA
      obtain ⟨g1, g2, g3, g4⟩ := nk_grow (o := .inl (0, z, .inl (fun _ => 0))) hA hP hD hS hn hadl z1' o1 e4
      have h9 := kk _ _ _ _ _ _ hp H1 locs ls g1 g2 g3 g4 hL
      have he : ((Value.ref h.length :: S1).map (nk_v ad)) = .ref H.size :: S1.map (nk_v ad) := by
        show Value.ref (ad h.length) :: _ = _
        rw [hadl]
      rw [he] at h9
      exact h9
    case long =>
      obtain ⟨e3, hp⟩ := hp
      subst e3
      refine va_newaK hx hb (atype := .long) (hts _ hwl) (g := F0 m pc ls ((Value.int v :: S1).map (nk_v ad))) rfl hdg rfl hv0 e2 (by have : componentBytes (newarray.typeOf .long) = 8 := rfl; rw [this]; omega) (by rw [tR1]; exact hroom.1) (by rw [tR2]; exact hroom.2) rfl (fun H1 cA' e4 z1' o1 hAr hNm => ?_) T hTh XX
      have hcA : cA' = cA 1 := Option.some.inj (hNm.symm.trans (hK.2 1 _ (nk_tys_at rfl)).2)
      subst hcA
      obtain ⟨g1, g2, g3, g4⟩ := nk_grow (o := .inl (1, z, .inr (.inl (fun _ => 0)))) hA hP hD hS hn hadl z1' o1 e4
      have h9 := kk _ _ _ _ _ _ hp H1 locs ls g1 g2 g3 g4 hL
      have he : ((Value.ref h.length :: S1).map (nk_v ad)) = .ref H.size :: S1.map (nk_v ad) := by
        show Value.ref (ad h.length) :: _ = _
        rw [hadl]
      rw [he] at h9
      exact h9
    all_goals exact False.elim hp
  case anewarray x =>
    simp only [nk_ok, Bool.and_eq_true, decide_eq_true_eq] at hok
    obtain ⟨rfl, rfl⟩ := hok
    obtain ⟨t, ht, hp⟩ := nk_sm_inv hp
    obtain ⟨v, S1, rfl, hv0, hv1, n, z, h', e1, e2, hp⟩ := nk_pi_inv hp
    obtain ⟨hbig, hp⟩ := nk_if_inv hp
    have hbig := Nat.le_of_ble_eq_true hbig
    obtain ⟨hroom, e3, hp⟩ := nk_room_inv hp
    subst e1
    subst e3
    obtain ⟨C, htC, hcll, hov⟩ := tA _ (nk_lk_mem _ _ _ ht)
    have hal : al = true := tal (by omega)
    intro T hTh XX
    obtain ⟨z1, z2⟩ := nk_sz hn hTh XX hal
    have hadl : ad h.length = H.size := by
      rw [hax hal _ (by omega) (by omega)]
      omega
    refine W.anew hx hb hown (hts _ hcll) (va_AO.use (hN.2 C hov)) (g := F0 m pc ls ((Value.int v :: S1).map (nk_v ad))) rfl hdg rfl hv0 (by omega) (by rw [tR1]; exact hroom.1) (by rw [tR2, e2]; exact hroom.2) (fun cA' kA comp f1 f2 f3 f4 => ?_) T hTh XX
    have hcA : cA' = cA t := by
      obtain ⟨_, _, _, _, _, k4⟩ := (hK.2 t _ (nk_tys_at htC)).2
      exact Option.some.inj (f1.symm.trans k4)
    subst hcA
    rw [e2]
    generalize hH1 : H.push ({ cls := cA t, slots := Array.replicate z .null, vm := .none } : Cell) = H1
    have z1' : H1.size = H.size + 1 := by rw [← hH1, Array.size_push]
    have e4 : H1[H.size]? = some (arrV (cA t) z (fun _ => .null)) := by rw [← hH1, Array.getElem?_push_size, ← arrV_new]
    have o1 : ∀ q : Nat, q < H.size → H1[q]? = H[q]? := fun q hq => by rw [← hH1, Array.getElem?_push, if_neg (Nat.ne_of_lt hq)]
    obtain ⟨g1, g2, g3, g4⟩ := nk_grow (o := .inl (t, z, .inr (.inr (.inr (.inr (fun _ => none)))))) hA hP hD hS hn hadl z1' o1 e4
    have h9 := kk _ _ _ _ _ _ hp H1 locs ls g1 g2 g3 g4 hL
    have he : ((Value.ref h.length :: S1).map (nk_v ad)) = .ref H.size :: S1.map (nk_v ad) := by
      show Value.ref (ad h.length) :: _ = _
      rw [hadl]
    rw [he] at h9
    exact h9
  case ireturn =>
    simp only [nk_ok, Bool.and_eq_true, decide_eq_true_eq] at hok
    obtain ⟨rfl, rfl⟩ := hok
    match S, hp with
    | [.int v], hp =>
      obtain ⟨⟨ec, es⟩, hp⟩ := nk_end_inv hp
      generalize X.2.2.2.2.2.2.2.1 = rr at hp hrt
      show W p l e R s m args below meth c H locs cs sl _ (F0 m pc ls [.int v])
      refine W.widen (k := X.2.2.2.2.2.2.2.2.2.1) (n := X.2.2.2.2.2.2.2.2.2.2) (Nat.le_of_eq ec) es ?_
      rw [ec] at hn
      match rr, hp, hrt with
      | 1, hp, hrt => exact W.iret hx hb hrt (fun t ht hW => hQ (some (.int v)) h t locs hp hW (by rw [ht]; exact hP) hD (by rw [ht]; exact hS) (by rw [ht]; exact hn)) hS.2.2 hdg
      | 2, hp, hrt =>
        obtain ⟨hv, hp⟩ := (hp : nk_bo v _)
        refine W.zret hx hb hrt ?_ (fun t ht hW => hQ (some (.int v)) h t locs hp hW (by rw [ht]; exact hP) hD (by rw [ht]; exact hS) (by rw [ht]; exact hn)) hS.2.2 hdg
        rcases hv with rfl | rfl <;> rfl
      | 0, hp, _ => exact False.elim hp
      | k + 3, hp, _ => exact False.elim hp
    | [], hp => exact False.elim hp
    | .int _ :: _ :: _, hp => exact False.elim hp
    | .long _ :: _, hp => exact False.elim hp
    | .float _ :: _, hp => exact False.elim hp
    | .double _ :: _, hp => exact False.elim hp
    | .null :: _, hp => exact False.elim hp
    | .ref _ :: _, hp => exact False.elim hp
    | .retAddr _ :: _, hp => exact False.elim hp
  case lreturn =>
    simp only [nk_ok, Bool.and_eq_true, decide_eq_true_eq] at hok
    obtain ⟨rfl, rfl⟩ := hok
    match S, hp with
    | [.long v], hp =>
      obtain ⟨⟨ec, es⟩, hp⟩ := nk_end_inv hp
      generalize X.2.2.2.2.2.2.2.1 = rr at hp hrt
      show W p l e R s m args below meth c H locs cs sl _ (F0 m pc ls [.long v])
      refine W.widen (k := X.2.2.2.2.2.2.2.2.2.1) (n := X.2.2.2.2.2.2.2.2.2.2) (Nat.le_of_eq ec) es ?_
      rw [ec] at hn
      match rr, hp, hrt with
      | 3, hp, hrt => exact W.lret hx hb hrt (fun t ht hW => hQ (some (.long v)) h t locs hp hW (by rw [ht]; exact hP) hD (by rw [ht]; exact hS) (by rw [ht]; exact hn)) hS.2.2 hdg
      | 0, hp, _ => exact False.elim hp
      | 1, hp, _ => exact False.elim hp
      | 2, hp, _ => exact False.elim hp
      | k + 4, hp, _ => exact False.elim hp
    | [], hp => exact False.elim hp
    | .long _ :: _ :: _, hp => exact False.elim hp
    | .int _ :: _, hp => exact False.elim hp
    | .float _ :: _, hp => exact False.elim hp
    | .double _ :: _, hp => exact False.elim hp
    | .null :: _, hp => exact False.elim hp
    | .ref _ :: _, hp => exact False.elim hp
    | .retAddr _ :: _, hp => exact False.elim hp
  case return_ =>
    simp only [nk_ok, Bool.and_eq_true, decide_eq_true_eq] at hok
    obtain ⟨rfl, rfl⟩ := hok
    match S, hp with
    | [], hp =>
      obtain ⟨⟨ec, es⟩, hp⟩ := nk_end_inv hp
      generalize X.2.2.2.2.2.2.2.1 = rr at hp hrt
      show W p l e R s m args below meth c H locs cs sl _ (F0 m pc ls [])
      refine W.widen (k := X.2.2.2.2.2.2.2.2.2.1) (n := X.2.2.2.2.2.2.2.2.2.2) (Nat.le_of_eq ec) es ?_
      rw [ec] at hn
      match rr, hp, hrt with
      | 0, hp, hrt => exact W.vret hx hb hrt (fun t ht hW => hQ none h t locs hp hW (by rw [ht]; exact hP) hD (by rw [ht]; exact hS) (by rw [ht]; exact hn)) hS.2.2 hdg
      | k + 1, hp, _ => exact False.elim hp
    | _ :: _, hp => exact False.elim hp
  all_goals exact nk_pureW (L := L) (S := S) (K := fun pc L S => K pc L S h cs sl) hx hb hdg hok hp (fun pc' L' S' hk ls' hL' => kk _ _ _ _ _ _ hk H locs ls' hP hD hS hn hL') hL
end NkSem
/-- a method's table: every row is what its bytes are -/
def nk_chk (cc : ByteArray) (kc : Nat → Option nk_I) (N : Nat) : Bool := (List.range N).all (fun pc => match kc pc with
  | none => true
  | some (i, n, nx, tg, lit) => decide (decode cc pc = .ok (i, n)) && nk_ok pc i n nx tg lit)
theorem nk_lv_args (ad : Nat → Nat) : ∀ (as : List Value) (n k : Nat) (i : Nat) (v : Value), nk_get (nk_ent as n) i = some v → (k + i, nk_v ad v) ∈ lv_args k (as.map (nk_v ad))
  | [], n, k, i, v, h => by
    rw [nk_get_eq] at h
    unfold nk_ent at h
    rw [List.getElem?_replicate] at h
    split at h <;> cases h
  | a :: as, n, k, i, v, h => by
    have one : a.category = 1 → nk_ent (a :: as) n = some a :: nk_ent as (n - 1) → (k + i, nk_v ad v) ∈ lv_args k ((a :: as).map (nk_v ad)) := by
      intro hc he
      rw [he] at h
      simp only [List.map_cons, lv_args]
      rw [if_neg (by rw [nk_v_cat, hc]; decide)]
      cases i with
      | zero =>
        cases (h : some a = some v)
        exact List.mem_cons_self
      | succ i =>
        have := nk_lv_args ad as (n - 1) (k + 1) i v h
        rw [show k + (i + 1) = k + 1 + i by omega]
        exact List.mem_cons_of_mem _ this
    have two : a.category = 2 → nk_ent (a :: as) n = some a :: none :: nk_ent as (n - 2) → (k + i, nk_v ad v) ∈ lv_args k ((a :: as).map (nk_v ad)) := by
      intro hc he
      rw [he] at h
      simp only [List.map_cons, lv_args]
      rw [if_pos (by rw [nk_v_cat, hc])]
      match i, h with
      | 0, h =>
        cases (h : some a = some v)
        exact List.mem_cons_self
      | 1, h => cases h
      | i + 2, h =>
        have := nk_lv_args ad as (n - 2) (k + 2) i v h
        rw [show k + (i + 2) = k + 2 + i by omega]
        exact List.mem_cons_of_mem _ this
    cases a with
    | long x => exact two rfl rfl
    | double x => exact two rfl rfl
    | int x => exact one rfl rfl
    | float x => exact one rfl rfl
    | null => exact one rfl rfl
    | ref x => exact one rfl rfl
    | retAddr x => exact one rfl rfl
theorem nk_ent_len (ad : Nat → Nat) : ∀ (as : List Value) (n : Nat), (lg_sl (as.map (nk_v ad))).length ≤ n → (nk_ent as n).length = n
  | [], n, _ => by simp [nk_ent]
  | a :: as, n, h => by
    have hs : lg_sl ((a :: as).map (nk_v ad)) = (if a.category = 2 then [.val (nk_v ad a), .second] else [.val (nk_v ad a)]) ++ lg_sl (as.map (nk_v ad)) := by
      unfold lg_sl
      rw [List.map_cons, List.flatMap_cons, nk_v_cat]
    rw [hs, List.length_append] at h
    cases a with
    | long x => simp [Value.category] at h; simp [nk_ent, nk_ent_len ad as (n - 2) (by omega)]; omega
    | double x => simp [Value.category] at h; simp [nk_ent, nk_ent_len ad as (n - 2) (by omega)]; omega
    | int x => simp [Value.category] at h; simp [nk_ent, nk_ent_len ad as (n - 1) (by omega)]; omega
    | float x => simp [Value.category] at h; simp [nk_ent, nk_ent_len ad as (n - 1) (by omega)]; omega
    | null => simp [Value.category] at h; simp [nk_ent, nk_ent_len ad as (n - 1) (by omega)]; omega
    | ref x => simp [Value.category] at h; simp [nk_ent, nk_ent_len ad as (n - 1) (by omega)]; omega
    | retAddr x => simp [Value.category] at h; simp [nk_ent, nk_ent_len ad as (n - 1) (by omega)]; omega
/-- the values that a method takes, by words -/
def nk_wd : List Value → Nat
  | [] => 0
  | v :: as => v.category + nk_wd as
theorem nk_wd_len (ad : Nat → Nat) : ∀ (as : List Value), (lg_sl (as.map (nk_v ad))).length = nk_wd as
  | [] => rfl
  | a :: as => by
    have hs : lg_sl ((a :: as).map (nk_v ad)) = (if a.category = 2 then [.val (nk_v ad a), .second] else [.val (nk_v ad a)]) ++ lg_sl (as.map (nk_v ad)) := by
      unfold lg_sl
      rw [List.map_cons, List.flatMap_cons, nk_v_cat]
    rw [hs, List.length_append, nk_wd_len ad as]
    cases a <;> simp [Value.category, nk_wd]
set_option maxHeartbeats 2000000 in
/-- THE CONTRACT of a method: what its picture does, it does -/
theorem nk_met {l : Launch} {y : MethodName} {cc : ByteArray} {nL : Nat} {ret : Option FieldType} {rm : Room} {al : Bool} {X : nk_T} {kc : Nat → Option nk_I} {N : Nat} (hG : nk_Gok) (hy : plainFor y = true) (hchk : nk_chk cc kc N = true) (hout : ∀ pc, N ≤ pc → kc pc = none)
    (hT : nk_Tok l rm y.cls cc nL al X) (hret : ret = nk_rt X.2.2.2.2.2.2.2.1) (hini : X.2.2.2.2.2.2.2.2.1 = true → y.name = "<init>") :
    nk_Met l y cc nL ret rm al X.2.2.2.2.2.2.2.2.2.1 X.2.2.2.2.2.2.2.2.2.2 (fun as h Q => nk_if (Nat.ble (nk_wd as) nL) (nk_ev X kc nL as h Q)) := by
  intro D cA ad sz as h Qa hev
  obtain ⟨hwd, hev⟩ := nk_if_inv hev
  refine va_MetF (cc := cc) (maxL := nL) (ret := ret) hy rfl ?_
  intro p e s m args below meth c s₁ B hml hv
  obtain ⟨rfl, hsz, hP, hK, hD0, hax, hN, hSt⟩ := hv
  have hts := atoms_spec (ws := Cond.code y cc nL ret :: nk_gw) B.pre
  have hown : s.vm.findClass y.cls = some m.cls := findClass_of_methodNamed B.named
  have hin := (name_of_methodNamed B.named B.method).1
  subst hsz
  have hD := hD0.self (sz := s.heap.size)
  have hlen : (lg_sl (as.map (nk_v ad))).length ≤ nL := by rw [nk_wd_len]; exact Nat.le_of_ble_eq_true hwd
  have hl := lv_entry (as.map (nk_v ad)) hlen
  have hB : nk_B p s m (as.map (nk_v ad)).toArray meth c y.cls cc nL D cA ad (va_A (nk_w cA ad h 0) s.heap.size) al h.length := ⟨B.exec, B.bytes, hml, hown, fun w hw => hts w (List.mem_cons_of_mem _ hw), hN, hK, fun q hq => Or.inr hq, hSt, B.notSynchronized, hax⟩
  have key : nk_G p l e (headSpec (Cond.code y cc nL ret :: nk_gw) rm).room s m (as.map (nk_v ad)).toArray below meth c nL D cA ad (va_A (nk_w cA ad h 0) s.heap.size) al h.length (MQ below (nk_Qc al X.2.2.2.2.2.2.2.2.2.1 D cA ad s.heap.size h Qa) (as.map (nk_v ad)).toArray s X.2.2.2.2.2.2.2.2.2.1 X.2.2.2.2.2.2.2.2.2.2 (va_A (nk_w cA ad h 0) s.heap.size)) 0 (nk_ent as nL) [] h 0 0 := by
    refine hev _ (fun pc L S h1 cs sl K hK1 hat => ?_)
    unfold nk_at at hat
    split at hat
    · rename_i i n nx tg lit hkc
      have hpc : pc < N := by
        rcases Nat.lt_or_ge pc N with q | q
        · exact q
        · rw [hout pc q] at hkc; cases hkc
      have h2 := List.all_eq_true.mp hchk pc (List.mem_range.mpr hpc)
      simp only [hkc, Bool.and_eq_true, decide_eq_true_eq] at h2
      exact nk_semW hB hT hG (fun hi => by rw [hin]; exact hini hi) (by rw [B.returns, hret]) h2.1 h2.2 (fun v h' t locs hq hW hP' hD' hS' hn' => ⟨⟨v, h', rfl, hq, hP', hD', fun hal => by have := hn' hal; exact ⟨by omega, by omega⟩⟩, hS'.F rfl⟩) hat hK1
    · exact hat.elim
  rw [lg_entry_eq]
  exact key s.heap [] _ hP hD va_S.rf (fun _ => ⟨by omega, by omega⟩) ⟨nk_ent_len ad as nL hlen, hl.1, hl.2.1, fun i v hv => by have := hl.2.2 _ (nk_lv_args ad as nL 0 i v hv); rw [Nat.zero_add] at this; exact this⟩
end
