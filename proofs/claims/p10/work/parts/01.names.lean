-- ===== PART A: goes FIRST, ahead of the names: the tables' words, and 'selects' of the private methods out of them =====
/-- a private method of a class that the tables say can be made, by its rows of tables_1 -/
noncomputable def lw_okq (q : MethodName × Nat) : Prop := (q.1.cls ≠ "java/lang/invoke/MethodHandle" ∧ q.1.cls ≠ "java/lang/invoke/VarHandle") ∧ Cond.instantiable q.1.cls q.2 ∈ tables_1 ∧ Cond.privateMethod q.1 ∈ tables_1 ∧ Cond.instanceMethod q.1 ∈ tables_1
theorem lw_p0 : lw_okq (⟨"MarbleLaw", "begin", "([LMarbleLaw$Row;III)I"⟩, 13) := ⟨⟨by decide +kernel, by decide +kernel⟩, List.mem_of_getElem? (i := 12) (by decide +kernel), List.mem_of_getElem? (i := 196) (by decide +kernel), List.mem_of_getElem? (i := 197) (by decide +kernel)⟩
theorem lw_p1 : lw_okq (⟨"MarbleLaw", "found", "(I)I"⟩, 13) := ⟨⟨by decide +kernel, by decide +kernel⟩, List.mem_of_getElem? (i := 12) (by decide +kernel), List.mem_of_getElem? (i := 203) (by decide +kernel), List.mem_of_getElem? (i := 204) (by decide +kernel)⟩
theorem lw_p2 : lw_okq (⟨"MarbleLaw", "refusalOfPlace", "([LMarbleLaw$Row;II)I"⟩, 13) := ⟨⟨by decide +kernel, by decide +kernel⟩, List.mem_of_getElem? (i := 12) (by decide +kernel), List.mem_of_getElem? (i := 215) (by decide +kernel), List.mem_of_getElem? (i := 216) (by decide +kernel)⟩
theorem lw_p3 : lw_okq (⟨"MarbleLaw", "isStuff", "(I)Z"⟩, 13) := ⟨⟨by decide +kernel, by decide +kernel⟩, List.mem_of_getElem? (i := 12) (by decide +kernel), List.mem_of_getElem? (i := 277) (by decide +kernel), List.mem_of_getElem? (i := 278) (by decide +kernel)⟩
theorem lw_p4 : lw_okq (⟨"MarbleLaw", "isAim", "(III)Z"⟩, 13) := ⟨⟨by decide +kernel, by decide +kernel⟩, List.mem_of_getElem? (i := 12) (by decide +kernel), List.mem_of_getElem? (i := 293) (by decide +kernel), List.mem_of_getElem? (i := 294) (by decide +kernel)⟩
theorem lw_p5 : lw_okq (⟨"MarbleLaw", "isMaking", "(I)Z"⟩, 13) := ⟨⟨by decide +kernel, by decide +kernel⟩, List.mem_of_getElem? (i := 12) (by decide +kernel), List.mem_of_getElem? (i := 315) (by decide +kernel), List.mem_of_getElem? (i := 316) (by decide +kernel)⟩
theorem lw_p6 : lw_okq (⟨"MarbleLaw", "standBehind", "(I)V"⟩, 13) := ⟨⟨by decide +kernel, by decide +kernel⟩, List.mem_of_getElem? (i := 12) (by decide +kernel), List.mem_of_getElem? (i := 330) (by decide +kernel), List.mem_of_getElem? (i := 331) (by decide +kernel)⟩
theorem lw_p7 : lw_okq (⟨"MarbleLaw$Course", "giveAll", "(II)V"⟩, 15) := ⟨⟨by decide +kernel, by decide +kernel⟩, List.mem_of_getElem? (i := 55) (by decide +kernel), List.mem_of_getElem? (i := 339) (by decide +kernel), List.mem_of_getElem? (i := 340) (by decide +kernel)⟩
theorem lw_p8 : lw_okq (⟨"MarbleLaw$Course", "share", "(II)V"⟩, 15) := ⟨⟨by decide +kernel, by decide +kernel⟩, List.mem_of_getElem? (i := 55) (by decide +kernel), List.mem_of_getElem? (i := 357) (by decide +kernel), List.mem_of_getElem? (i := 358) (by decide +kernel)⟩
theorem lw_p9 : lw_okq (⟨"MarbleLaw$Course", "barsKnowing", "()Z"⟩, 15) := ⟨⟨by decide +kernel, by decide +kernel⟩, List.mem_of_getElem? (i := 55) (by decide +kernel), List.mem_of_getElem? (i := 361) (by decide +kernel), List.mem_of_getElem? (i := 362) (by decide +kernel)⟩
theorem lw_p10 : lw_okq (⟨"MarbleLaw$Course", "knew", "(I)Z"⟩, 15) := ⟨⟨by decide +kernel, by decide +kernel⟩, List.mem_of_getElem? (i := 55) (by decide +kernel), List.mem_of_getElem? (i := 365) (by decide +kernel), List.mem_of_getElem? (i := 366) (by decide +kernel)⟩
theorem lw_p11 : lw_okq (⟨"MarbleLaw$Course", "formTakes", "(II)Z"⟩, 15) := ⟨⟨by decide +kernel, by decide +kernel⟩, List.mem_of_getElem? (i := 55) (by decide +kernel), List.mem_of_getElem? (i := 369) (by decide +kernel), List.mem_of_getElem? (i := 370) (by decide +kernel)⟩
theorem lw_p12 : lw_okq (⟨"MarbleLaw$Course", "writeTakes", "()Z"⟩, 15) := ⟨⟨by decide +kernel, by decide +kernel⟩, List.mem_of_getElem? (i := 55) (by decide +kernel), List.mem_of_getElem? (i := 373) (by decide +kernel), List.mem_of_getElem? (i := 374) (by decide +kernel)⟩
theorem lw_p13 : lw_okq (⟨"MarbleLaw$Course", "chiefTakesJoin", "()Z"⟩, 15) := ⟨⟨by decide +kernel, by decide +kernel⟩, List.mem_of_getElem? (i := 55) (by decide +kernel), List.mem_of_getElem? (i := 381) (by decide +kernel), List.mem_of_getElem? (i := 382) (by decide +kernel)⟩
theorem lw_p14 : lw_okq (⟨"MarbleLaw$Course", "blend", "(JJ)V"⟩, 15) := ⟨⟨by decide +kernel, by decide +kernel⟩, List.mem_of_getElem? (i := 55) (by decide +kernel), List.mem_of_getElem? (i := 385) (by decide +kernel), List.mem_of_getElem? (i := 386) (by decide +kernel)⟩
theorem lw_p15 : lw_okq (⟨"MarbleLaw$Course", "mixesByAmount", "()Z"⟩, 15) := ⟨⟨by decide +kernel, by decide +kernel⟩, List.mem_of_getElem? (i := 55) (by decide +kernel), List.mem_of_getElem? (i := 397) (by decide +kernel), List.mem_of_getElem? (i := 398) (by decide +kernel)⟩
noncomputable def lw_privs_1 : List (MethodName × Nat) := [(⟨"MarbleLaw", "begin", "([LMarbleLaw$Row;III)I"⟩, 13), (⟨"MarbleLaw", "found", "(I)I"⟩, 13), (⟨"MarbleLaw", "refusalOfPlace", "([LMarbleLaw$Row;II)I"⟩, 13), (⟨"MarbleLaw", "isStuff", "(I)Z"⟩, 13), (⟨"MarbleLaw", "isAim", "(III)Z"⟩, 13), (⟨"MarbleLaw", "isMaking", "(I)Z"⟩, 13), (⟨"MarbleLaw", "standBehind", "(I)V"⟩, 13), (⟨"MarbleLaw$Course", "giveAll", "(II)V"⟩, 15), (⟨"MarbleLaw$Course", "share", "(II)V"⟩, 15), (⟨"MarbleLaw$Course", "barsKnowing", "()Z"⟩, 15), (⟨"MarbleLaw$Course", "knew", "(I)Z"⟩, 15), (⟨"MarbleLaw$Course", "formTakes", "(II)Z"⟩, 15), (⟨"MarbleLaw$Course", "writeTakes", "()Z"⟩, 15), (⟨"MarbleLaw$Course", "chiefTakesJoin", "()Z"⟩, 15), (⟨"MarbleLaw$Course", "blend", "(JJ)V"⟩, 15), (⟨"MarbleLaw$Course", "mixesByAmount", "()Z"⟩, 15)]
theorem lw_r1 : ∀ q ∈ lw_privs_1, lw_okq q := List.forall_mem_cons.mpr ⟨lw_p0, List.forall_mem_cons.mpr ⟨lw_p1, List.forall_mem_cons.mpr ⟨lw_p2, List.forall_mem_cons.mpr ⟨lw_p3, List.forall_mem_cons.mpr ⟨lw_p4, List.forall_mem_cons.mpr ⟨lw_p5, List.forall_mem_cons.mpr ⟨lw_p6, List.forall_mem_cons.mpr ⟨lw_p7, List.forall_mem_cons.mpr ⟨lw_p8, List.forall_mem_cons.mpr ⟨lw_p9, List.forall_mem_cons.mpr ⟨lw_p10, List.forall_mem_cons.mpr ⟨lw_p11, List.forall_mem_cons.mpr ⟨lw_p12, List.forall_mem_cons.mpr ⟨lw_p13, List.forall_mem_cons.mpr ⟨lw_p14, List.forall_mem_cons.mpr ⟨lw_p15, fun _ h => absurd h List.not_mem_nil⟩⟩⟩⟩⟩⟩⟩⟩⟩⟩⟩⟩⟩⟩⟩⟩
theorem lw_p16 : lw_okq (⟨"MarbleLaw$Course", "bringComer", "()V"⟩, 15) := ⟨⟨by decide +kernel, by decide +kernel⟩, List.mem_of_getElem? (i := 55) (by decide +kernel), List.mem_of_getElem? (i := 401) (by decide +kernel), List.mem_of_getElem? (i := 402) (by decide +kernel)⟩
theorem lw_p17 : lw_okq (⟨"MarbleLaw", "isStory", "(I)Z"⟩, 13) := ⟨⟨by decide +kernel, by decide +kernel⟩, List.mem_of_getElem? (i := 12) (by decide +kernel), List.mem_of_getElem? (i := 441) (by decide +kernel), List.mem_of_getElem? (i := 442) (by decide +kernel)⟩
theorem lw_p18 : lw_okq (⟨"MarbleLaw", "refusalOfParts", "(IIIII)I"⟩, 13) := ⟨⟨by decide +kernel, by decide +kernel⟩, List.mem_of_getElem? (i := 12) (by decide +kernel), List.mem_of_getElem? (i := 457) (by decide +kernel), List.mem_of_getElem? (i := 458) (by decide +kernel)⟩
theorem lw_p19 : lw_okq (⟨"MarbleLaw", "tellFraction", "(JJ)V"⟩, 13) := ⟨⟨by decide +kernel, by decide +kernel⟩, List.mem_of_getElem? (i := 12) (by decide +kernel), List.mem_of_getElem? (i := 462) (by decide +kernel), List.mem_of_getElem? (i := 463) (by decide +kernel)⟩
theorem lw_p20 : lw_okq (⟨"MarbleLaw", "answersByWhichHas", "(IIII)I"⟩, 13) := ⟨⟨by decide +kernel, by decide +kernel⟩, List.mem_of_getElem? (i := 12) (by decide +kernel), List.mem_of_getElem? (i := 507) (by decide +kernel), List.mem_of_getElem? (i := 508) (by decide +kernel)⟩
theorem lw_p21 : lw_okq (⟨"MarbleLaw$Course", "hasAll", "(II)Z"⟩, 15) := ⟨⟨by decide +kernel, by decide +kernel⟩, List.mem_of_getElem? (i := 55) (by decide +kernel), List.mem_of_getElem? (i := 533) (by decide +kernel), List.mem_of_getElem? (i := 534) (by decide +kernel)⟩
theorem lw_p22 : lw_okq (⟨"MarbleLaw$Course", "hasAnother", "(II)Z"⟩, 15) := ⟨⟨by decide +kernel, by decide +kernel⟩, List.mem_of_getElem? (i := 55) (by decide +kernel), List.mem_of_getElem? (i := 537) (by decide +kernel), List.mem_of_getElem? (i := 538) (by decide +kernel)⟩
theorem lw_p23 : lw_okq (⟨"MarbleLaw", "isStoppedBy", "(IIII)Z"⟩, 13) := ⟨⟨by decide +kernel, by decide +kernel⟩, List.mem_of_getElem? (i := 12) (by decide +kernel), List.mem_of_getElem? (i := 551) (by decide +kernel), List.mem_of_getElem? (i := 552) (by decide +kernel)⟩
theorem lw_p24 : lw_okq (⟨"MarbleLaw$Heap", "take", "(II)I"⟩, 3) := ⟨⟨by decide +kernel, by decide +kernel⟩, List.mem_of_getElem? (i := 135) (by decide +kernel), List.mem_of_getElem? (i := 579) (by decide +kernel), List.mem_of_getElem? (i := 580) (by decide +kernel)⟩
theorem lw_p25 : lw_okq (⟨"MarbleLaw", "counted", "(I)I"⟩, 13) := ⟨⟨by decide +kernel, by decide +kernel⟩, List.mem_of_getElem? (i := 12) (by decide +kernel), List.mem_of_getElem? (i := 631) (by decide +kernel), List.mem_of_getElem? (i := 632) (by decide +kernel)⟩
theorem lw_p26 : lw_okq (⟨"MarbleLawModel", "meets", "(I)I"⟩, 32) := ⟨⟨by decide +kernel, by decide +kernel⟩, List.mem_of_getElem? (i := 668) (by decide +kernel), List.mem_of_getElem? (i := 781) (by decide +kernel), List.mem_of_getElem? (i := 782) (by decide +kernel)⟩
theorem lw_p27 : lw_okq (⟨"MarbleLawModel", "askedRow", "(I)I"⟩, 32) := ⟨⟨by decide +kernel, by decide +kernel⟩, List.mem_of_getElem? (i := 668) (by decide +kernel), List.mem_of_getElem? (i := 789) (by decide +kernel), List.mem_of_getElem? (i := 790) (by decide +kernel)⟩
theorem lw_p28 : lw_okq (⟨"MarbleLawModel", "rowAt", "(II)I"⟩, 32) := ⟨⟨by decide +kernel, by decide +kernel⟩, List.mem_of_getElem? (i := 668) (by decide +kernel), List.mem_of_getElem? (i := 793) (by decide +kernel), List.mem_of_getElem? (i := 794) (by decide +kernel)⟩
theorem lw_p29 : lw_okq (⟨"MarbleLawModel", "ask", "(II)I"⟩, 32) := ⟨⟨by decide +kernel, by decide +kernel⟩, List.mem_of_getElem? (i := 668) (by decide +kernel), List.mem_of_getElem? (i := 797) (by decide +kernel), List.mem_of_getElem? (i := 798) (by decide +kernel)⟩
theorem lw_p30 : lw_okq (⟨"MarbleLawModel", "askedText", "(I)I"⟩, 32) := ⟨⟨by decide +kernel, by decide +kernel⟩, List.mem_of_getElem? (i := 668) (by decide +kernel), List.mem_of_getElem? (i := 829) (by decide +kernel), List.mem_of_getElem? (i := 830) (by decide +kernel)⟩
theorem lw_p31 : lw_okq (⟨"MarbleLawModel", "newStuff", "(IIII)I"⟩, 32) := ⟨⟨by decide +kernel, by decide +kernel⟩, List.mem_of_getElem? (i := 668) (by decide +kernel), List.mem_of_getElem? (i := 843) (by decide +kernel), List.mem_of_getElem? (i := 844) (by decide +kernel)⟩
noncomputable def lw_privs_2 : List (MethodName × Nat) := [(⟨"MarbleLaw$Course", "bringComer", "()V"⟩, 15), (⟨"MarbleLaw", "isStory", "(I)Z"⟩, 13), (⟨"MarbleLaw", "refusalOfParts", "(IIIII)I"⟩, 13), (⟨"MarbleLaw", "tellFraction", "(JJ)V"⟩, 13), (⟨"MarbleLaw", "answersByWhichHas", "(IIII)I"⟩, 13), (⟨"MarbleLaw$Course", "hasAll", "(II)Z"⟩, 15), (⟨"MarbleLaw$Course", "hasAnother", "(II)Z"⟩, 15), (⟨"MarbleLaw", "isStoppedBy", "(IIII)Z"⟩, 13), (⟨"MarbleLaw$Heap", "take", "(II)I"⟩, 3), (⟨"MarbleLaw", "counted", "(I)I"⟩, 13), (⟨"MarbleLawModel", "meets", "(I)I"⟩, 32), (⟨"MarbleLawModel", "askedRow", "(I)I"⟩, 32), (⟨"MarbleLawModel", "rowAt", "(II)I"⟩, 32), (⟨"MarbleLawModel", "ask", "(II)I"⟩, 32), (⟨"MarbleLawModel", "askedText", "(I)I"⟩, 32), (⟨"MarbleLawModel", "newStuff", "(IIII)I"⟩, 32)]
theorem lw_r2 : ∀ q ∈ lw_privs_2, lw_okq q := List.forall_mem_cons.mpr ⟨lw_p16, List.forall_mem_cons.mpr ⟨lw_p17, List.forall_mem_cons.mpr ⟨lw_p18, List.forall_mem_cons.mpr ⟨lw_p19, List.forall_mem_cons.mpr ⟨lw_p20, List.forall_mem_cons.mpr ⟨lw_p21, List.forall_mem_cons.mpr ⟨lw_p22, List.forall_mem_cons.mpr ⟨lw_p23, List.forall_mem_cons.mpr ⟨lw_p24, List.forall_mem_cons.mpr ⟨lw_p25, List.forall_mem_cons.mpr ⟨lw_p26, List.forall_mem_cons.mpr ⟨lw_p27, List.forall_mem_cons.mpr ⟨lw_p28, List.forall_mem_cons.mpr ⟨lw_p29, List.forall_mem_cons.mpr ⟨lw_p30, List.forall_mem_cons.mpr ⟨lw_p31, fun _ h => absurd h List.not_mem_nil⟩⟩⟩⟩⟩⟩⟩⟩⟩⟩⟩⟩⟩⟩⟩⟩
theorem lw_p32 : lw_okq (⟨"MarbleLawModel", "isStuff", "(I)Z"⟩, 32) := ⟨⟨by decide +kernel, by decide +kernel⟩, List.mem_of_getElem? (i := 668) (by decide +kernel), List.mem_of_getElem? (i := 855) (by decide +kernel), List.mem_of_getElem? (i := 856) (by decide +kernel)⟩
theorem lw_p33 : lw_okq (⟨"MarbleLawModel", "isV", "(III)Z"⟩, 32) := ⟨⟨by decide +kernel, by decide +kernel⟩, List.mem_of_getElem? (i := 668) (by decide +kernel), List.mem_of_getElem? (i := 863) (by decide +kernel), List.mem_of_getElem? (i := 864) (by decide +kernel)⟩
theorem lw_p34 : lw_okq (⟨"MarbleLawModel", "isMaking", "(I)Z"⟩, 32) := ⟨⟨by decide +kernel, by decide +kernel⟩, List.mem_of_getElem? (i := 668) (by decide +kernel), List.mem_of_getElem? (i := 881) (by decide +kernel), List.mem_of_getElem? (i := 882) (by decide +kernel)⟩
theorem lw_p35 : lw_okq (⟨"MarbleLawModel", "part", "(II)I"⟩, 32) := ⟨⟨by decide +kernel, by decide +kernel⟩, List.mem_of_getElem? (i := 668) (by decide +kernel), List.mem_of_getElem? (i := 885) (by decide +kernel), List.mem_of_getElem? (i := 886) (by decide +kernel)⟩
theorem lw_p36 : lw_okq (⟨"MarbleLawModel", "goesOn", "(I)I"⟩, 32) := ⟨⟨by decide +kernel, by decide +kernel⟩, List.mem_of_getElem? (i := 668) (by decide +kernel), List.mem_of_getElem? (i := 893) (by decide +kernel), List.mem_of_getElem? (i := 894) (by decide +kernel)⟩
theorem lw_p37 : lw_okq (⟨"MarbleLawModel", "byteAt", "(II)I"⟩, 32) := ⟨⟨by decide +kernel, by decide +kernel⟩, List.mem_of_getElem? (i := 668) (by decide +kernel), List.mem_of_getElem? (i := 897) (by decide +kernel), List.mem_of_getElem? (i := 898) (by decide +kernel)⟩
theorem lw_p38 : lw_okq (⟨"MarbleLawModel", "askedLaws", "(I)I"⟩, 32) := ⟨⟨by decide +kernel, by decide +kernel⟩, List.mem_of_getElem? (i := 668) (by decide +kernel), List.mem_of_getElem? (i := 921) (by decide +kernel), List.mem_of_getElem? (i := 922) (by decide +kernel)⟩
theorem lw_p39 : lw_okq (⟨"MarbleLawModel", "goes", "(IIII)Z"⟩, 32) := ⟨⟨by decide +kernel, by decide +kernel⟩, List.mem_of_getElem? (i := 668) (by decide +kernel), List.mem_of_getElem? (i := 929) (by decide +kernel), List.mem_of_getElem? (i := 930) (by decide +kernel)⟩
theorem lw_p40 : lw_okq (⟨"MarbleLawModel", "begins", "(II)V"⟩, 32) := ⟨⟨by decide +kernel, by decide +kernel⟩, List.mem_of_getElem? (i := 668) (by decide +kernel), List.mem_of_getElem? (i := 933) (by decide +kernel), List.mem_of_getElem? (i := 934) (by decide +kernel)⟩
theorem lw_p41 : lw_okq (⟨"MarbleLawModel", "does", "(I)V"⟩, 32) := ⟨⟨by decide +kernel, by decide +kernel⟩, List.mem_of_getElem? (i := 668) (by decide +kernel), List.mem_of_getElem? (i := 937) (by decide +kernel), List.mem_of_getElem? (i := 938) (by decide +kernel)⟩
theorem lw_p42 : lw_okq (⟨"MarbleLawModel", "knows", "(I)Z"⟩, 32) := ⟨⟨by decide +kernel, by decide +kernel⟩, List.mem_of_getElem? (i := 668) (by decide +kernel), List.mem_of_getElem? (i := 941) (by decide +kernel), List.mem_of_getElem? (i := 942) (by decide +kernel)⟩
theorem lw_p43 : lw_okq (⟨"MarbleLawModel", "makes", "(IIIIIZ)V"⟩, 32) := ⟨⟨by decide +kernel, by decide +kernel⟩, List.mem_of_getElem? (i := 668) (by decide +kernel), List.mem_of_getElem? (i := 948) (by decide +kernel), List.mem_of_getElem? (i := 949) (by decide +kernel)⟩
theorem lw_p44 : lw_okq (⟨"MarbleLawModel", "comes", "(IIII)V"⟩, 32) := ⟨⟨by decide +kernel, by decide +kernel⟩, List.mem_of_getElem? (i := 668) (by decide +kernel), List.mem_of_getElem? (i := 952) (by decide +kernel), List.mem_of_getElem? (i := 953) (by decide +kernel)⟩
theorem lw_p45 : lw_okq (⟨"MarbleLawModel", "mixes", "(IIII)V"⟩, 32) := ⟨⟨by decide +kernel, by decide +kernel⟩, List.mem_of_getElem? (i := 668) (by decide +kernel), List.mem_of_getElem? (i := 956) (by decide +kernel), List.mem_of_getElem? (i := 957) (by decide +kernel)⟩
theorem lw_p46 : lw_okq (⟨"MarbleLawModel", "takes", "(IIIZ)Z"⟩, 32) := ⟨⟨by decide +kernel, by decide +kernel⟩, List.mem_of_getElem? (i := 668) (by decide +kernel), List.mem_of_getElem? (i := 964) (by decide +kernel), List.mem_of_getElem? (i := 965) (by decide +kernel)⟩
theorem lw_p47 : lw_okq (⟨"MarbleLawModel", "allTo", "(II)V"⟩, 32) := ⟨⟨by decide +kernel, by decide +kernel⟩, List.mem_of_getElem? (i := 668) (by decide +kernel), List.mem_of_getElem? (i := 968) (by decide +kernel), List.mem_of_getElem? (i := 969) (by decide +kernel)⟩
noncomputable def lw_privs_3 : List (MethodName × Nat) := [(⟨"MarbleLawModel", "isStuff", "(I)Z"⟩, 32), (⟨"MarbleLawModel", "isV", "(III)Z"⟩, 32), (⟨"MarbleLawModel", "isMaking", "(I)Z"⟩, 32), (⟨"MarbleLawModel", "part", "(II)I"⟩, 32), (⟨"MarbleLawModel", "goesOn", "(I)I"⟩, 32), (⟨"MarbleLawModel", "byteAt", "(II)I"⟩, 32), (⟨"MarbleLawModel", "askedLaws", "(I)I"⟩, 32), (⟨"MarbleLawModel", "goes", "(IIII)Z"⟩, 32), (⟨"MarbleLawModel", "begins", "(II)V"⟩, 32), (⟨"MarbleLawModel", "does", "(I)V"⟩, 32), (⟨"MarbleLawModel", "knows", "(I)Z"⟩, 32), (⟨"MarbleLawModel", "makes", "(IIIIIZ)V"⟩, 32), (⟨"MarbleLawModel", "comes", "(IIII)V"⟩, 32), (⟨"MarbleLawModel", "mixes", "(IIII)V"⟩, 32), (⟨"MarbleLawModel", "takes", "(IIIZ)Z"⟩, 32), (⟨"MarbleLawModel", "allTo", "(II)V"⟩, 32)]
theorem lw_r3 : ∀ q ∈ lw_privs_3, lw_okq q := List.forall_mem_cons.mpr ⟨lw_p32, List.forall_mem_cons.mpr ⟨lw_p33, List.forall_mem_cons.mpr ⟨lw_p34, List.forall_mem_cons.mpr ⟨lw_p35, List.forall_mem_cons.mpr ⟨lw_p36, List.forall_mem_cons.mpr ⟨lw_p37, List.forall_mem_cons.mpr ⟨lw_p38, List.forall_mem_cons.mpr ⟨lw_p39, List.forall_mem_cons.mpr ⟨lw_p40, List.forall_mem_cons.mpr ⟨lw_p41, List.forall_mem_cons.mpr ⟨lw_p42, List.forall_mem_cons.mpr ⟨lw_p43, List.forall_mem_cons.mpr ⟨lw_p44, List.forall_mem_cons.mpr ⟨lw_p45, List.forall_mem_cons.mpr ⟨lw_p46, List.forall_mem_cons.mpr ⟨lw_p47, fun _ h => absurd h List.not_mem_nil⟩⟩⟩⟩⟩⟩⟩⟩⟩⟩⟩⟩⟩⟩⟩⟩
theorem lw_p48 : lw_okq (⟨"MarbleLawModel", "isMany", "(I)Z"⟩, 32) := ⟨⟨by decide +kernel, by decide +kernel⟩, List.mem_of_getElem? (i := 668) (by decide +kernel), List.mem_of_getElem? (i := 976) (by decide +kernel), List.mem_of_getElem? (i := 977) (by decide +kernel)⟩
theorem lw_p49 : lw_okq (⟨"MarbleLawModel", "partOf", "(II)J"⟩, 32) := ⟨⟨by decide +kernel, by decide +kernel⟩, List.mem_of_getElem? (i := 668) (by decide +kernel), List.mem_of_getElem? (i := 991) (by decide +kernel), List.mem_of_getElem? (i := 992) (by decide +kernel)⟩
theorem lw_p50 : lw_okq (⟨"MarbleLawModel", "share", "(JJI)I"⟩, 32) := ⟨⟨by decide +kernel, by decide +kernel⟩, List.mem_of_getElem? (i := 668) (by decide +kernel), List.mem_of_getElem? (i := 995) (by decide +kernel), List.mem_of_getElem? (i := 996) (by decide +kernel)⟩
theorem lw_p51 : lw_okq (⟨"MarbleLawModel", "ownersOf", "(I)I"⟩, 32) := ⟨⟨by decide +kernel, by decide +kernel⟩, List.mem_of_getElem? (i := 668) (by decide +kernel), List.mem_of_getElem? (i := 1003) (by decide +kernel), List.mem_of_getElem? (i := 1004) (by decide +kernel)⟩
theorem lw_p52 : lw_okq (⟨"MarbleLawModel", "setTrails", "(II)V"⟩, 32) := ⟨⟨by decide +kernel, by decide +kernel⟩, List.mem_of_getElem? (i := 668) (by decide +kernel), List.mem_of_getElem? (i := 1019) (by decide +kernel), List.mem_of_getElem? (i := 1020) (by decide +kernel)⟩
theorem lw_p53 : lw_okq (⟨"MarbleLawModel", "askedBy", "(IIII)I"⟩, 32) := ⟨⟨by decide +kernel, by decide +kernel⟩, List.mem_of_getElem? (i := 668) (by decide +kernel), List.mem_of_getElem? (i := 1031) (by decide +kernel), List.mem_of_getElem? (i := 1032) (by decide +kernel)⟩
theorem lw_p54 : lw_okq (⟨"MarbleLawModel", "hasBy", "(IIII)I"⟩, 32) := ⟨⟨by decide +kernel, by decide +kernel⟩, List.mem_of_getElem? (i := 668) (by decide +kernel), List.mem_of_getElem? (i := 1035) (by decide +kernel), List.mem_of_getElem? (i := 1036) (by decide +kernel)⟩
theorem lw_p55 : lw_okq (⟨"MarbleLawModel", "askedSly", "(IIII)I"⟩, 32) := ⟨⟨by decide +kernel, by decide +kernel⟩, List.mem_of_getElem? (i := 668) (by decide +kernel), List.mem_of_getElem? (i := 1051) (by decide +kernel), List.mem_of_getElem? (i := 1052) (by decide +kernel)⟩
theorem lw_p56 : lw_okq (⟨"MarbleLawModel", "slyBy", "(IIII)I"⟩, 32) := ⟨⟨by decide +kernel, by decide +kernel⟩, List.mem_of_getElem? (i := 668) (by decide +kernel), List.mem_of_getElem? (i := 1055) (by decide +kernel), List.mem_of_getElem? (i := 1056) (by decide +kernel)⟩
theorem lw_p57 : lw_okq (⟨"MarbleLawModel", "hasAll", "(II)Z"⟩, 32) := ⟨⟨by decide +kernel, by decide +kernel⟩, List.mem_of_getElem? (i := 668) (by decide +kernel), List.mem_of_getElem? (i := 1059) (by decide +kernel), List.mem_of_getElem? (i := 1060) (by decide +kernel)⟩
theorem lw_p58 : lw_okq (⟨"MarbleLawModel", "allOf", "(II)I"⟩, 32) := ⟨⟨by decide +kernel, by decide +kernel⟩, List.mem_of_getElem? (i := 668) (by decide +kernel), List.mem_of_getElem? (i := 1085) (by decide +kernel), List.mem_of_getElem? (i := 1086) (by decide +kernel)⟩
theorem lw_p59 : lw_okq (⟨"MarbleLawModel", "drawsFrom", "(II)V"⟩, 32) := ⟨⟨by decide +kernel, by decide +kernel⟩, List.mem_of_getElem? (i := 668) (by decide +kernel), List.mem_of_getElem? (i := 1089) (by decide +kernel), List.mem_of_getElem? (i := 1090) (by decide +kernel)⟩
theorem lw_p60 : lw_okq (⟨"MarbleLawModel", "counts", "(I)I"⟩, 32) := ⟨⟨by decide +kernel, by decide +kernel⟩, List.mem_of_getElem? (i := 668) (by decide +kernel), List.mem_of_getElem? (i := 1117) (by decide +kernel), List.mem_of_getElem? (i := 1118) (by decide +kernel)⟩
theorem lw_p61 : lw_okq (⟨"MarbleLawModel", "mix", "(I)V"⟩, 32) := ⟨⟨by decide +kernel, by decide +kernel⟩, List.mem_of_getElem? (i := 668) (by decide +kernel), List.mem_of_getElem? (i := 1134) (by decide +kernel), List.mem_of_getElem? (i := 1135) (by decide +kernel)⟩
theorem lw_p62 : lw_okq (⟨"MarbleLawModel", "mixAll", "()V"⟩, 32) := ⟨⟨by decide +kernel, by decide +kernel⟩, List.mem_of_getElem? (i := 668) (by decide +kernel), List.mem_of_getElem? (i := 1139) (by decide +kernel), List.mem_of_getElem? (i := 1140) (by decide +kernel)⟩
noncomputable def lw_privs_4 : List (MethodName × Nat) := [(⟨"MarbleLawModel", "isMany", "(I)Z"⟩, 32), (⟨"MarbleLawModel", "partOf", "(II)J"⟩, 32), (⟨"MarbleLawModel", "share", "(JJI)I"⟩, 32), (⟨"MarbleLawModel", "ownersOf", "(I)I"⟩, 32), (⟨"MarbleLawModel", "setTrails", "(II)V"⟩, 32), (⟨"MarbleLawModel", "askedBy", "(IIII)I"⟩, 32), (⟨"MarbleLawModel", "hasBy", "(IIII)I"⟩, 32), (⟨"MarbleLawModel", "askedSly", "(IIII)I"⟩, 32), (⟨"MarbleLawModel", "slyBy", "(IIII)I"⟩, 32), (⟨"MarbleLawModel", "hasAll", "(II)Z"⟩, 32), (⟨"MarbleLawModel", "allOf", "(II)I"⟩, 32), (⟨"MarbleLawModel", "drawsFrom", "(II)V"⟩, 32), (⟨"MarbleLawModel", "counts", "(I)I"⟩, 32), (⟨"MarbleLawModel", "mix", "(I)V"⟩, 32), (⟨"MarbleLawModel", "mixAll", "()V"⟩, 32)]
theorem lw_r4 : ∀ q ∈ lw_privs_4, lw_okq q := List.forall_mem_cons.mpr ⟨lw_p48, List.forall_mem_cons.mpr ⟨lw_p49, List.forall_mem_cons.mpr ⟨lw_p50, List.forall_mem_cons.mpr ⟨lw_p51, List.forall_mem_cons.mpr ⟨lw_p52, List.forall_mem_cons.mpr ⟨lw_p53, List.forall_mem_cons.mpr ⟨lw_p54, List.forall_mem_cons.mpr ⟨lw_p55, List.forall_mem_cons.mpr ⟨lw_p56, List.forall_mem_cons.mpr ⟨lw_p57, List.forall_mem_cons.mpr ⟨lw_p58, List.forall_mem_cons.mpr ⟨lw_p59, List.forall_mem_cons.mpr ⟨lw_p60, List.forall_mem_cons.mpr ⟨lw_p61, List.forall_mem_cons.mpr ⟨lw_p62, fun _ h => absurd h List.not_mem_nil⟩⟩⟩⟩⟩⟩⟩⟩⟩⟩⟩⟩⟩⟩⟩
noncomputable def lw_privs : List (MethodName × Nat) := lw_privs_1 ++ (lw_privs_2 ++ (lw_privs_3 ++ (lw_privs_4)))
noncomputable def lw_tbl : List Cond := k2_sels lw_privs ++ tables_1
theorem lw_privs_ok : ∀ q ∈ lw_privs, lw_okq q := by
  show ∀ q ∈ lw_privs_1 ++ (lw_privs_2 ++ (lw_privs_3 ++ (lw_privs_4))), lw_okq q
  exact List.forall_mem_append.mpr ⟨lw_r1, List.forall_mem_append.mpr ⟨lw_r2, List.forall_mem_append.mpr ⟨lw_r3, lw_r4⟩⟩⟩

/-! ===== BEGIN printed: names, fields, word lists, decode rows ===== -/
noncomputable def RX0 : String := "MarbleLaw$Course"
noncomputable def TX0 : u_T := fun k => match k with
  | 0 => ("MarbleLaw$Course", "tale", "LMarbleLaw$Tale;", true)
  | 1 => ("MarbleLaw$Course", "lawWords", "[I", true)
  | 2 => ("MarbleLaw$Course", "answers", "I", false)
  | 3 => ("MarbleLaw$Course", "in", "[I", true)
  | 4 => ("MarbleLaw$Course", "sort", "[I", true)
  | 5 => ("MarbleLaw$Course", "worth", "[I", true)
  | 6 => ("MarbleLaw$Course", "amount", "[I", true)
  | 7 => ("MarbleLaw$Course", "lower", "[I", true)
  | 8 => ("MarbleLaw$Course", "parts", "[I", true)
  | 9 => ("MarbleLaw$Course", "blended", "[J", true)
  | 10 => ("MarbleLaw$Course", "tooFine", "Z", false)
  | 11 => ("MarbleLaw$Course", "chief", "I", false)
  | 12 => ("MarbleLaw$Course", "comer", "I", false)
  | 13 => ("MarbleLaw$Course", "chiefWorth", "I", false)
  | _ => ("MarbleLaw$Course", "comerWorth", "I", false)
noncomputable def tyX0 : Nat → FieldType := fun k => match k with
  | 0 => .object "MarbleLaw$Tale"
  | 1 => .array .int
  | 2 => .int
  | 3 => .array .int
  | 4 => .array .int
  | 5 => .array .int
  | 6 => .array .int
  | 7 => .array .int
  | 8 => .array .int
  | 9 => .array .long
  | 10 => .boolean
  | 11 => .int
  | 12 => .int
  | 13 => .int
  | _ => .int
noncomputable abbrev wsX00 : List Cond := u_ws RX0 TX0 15
theorem nmX0 : ∀ a, a < 15 → ∀ b, b < 15 → a ≠ b → (TX0 a).2.1 ≠ (TX0 b).2.1 := by decide +kernel
theorem tyX0_ok : ∀ k, k < 15 → parseFieldDescriptor (TX0 k).2.2.1 = some (tyX0 k) := by decide +kernel
noncomputable abbrev cX0_init : ByteArray := prog_2_method_1_code
noncomputable def yX0_init : MethodName := ⟨RX0, "<init>", "(LMarbleLaw$Tale;)V"⟩
noncomputable abbrev cX0_begin : ByteArray := prog_2_method_2_code
noncomputable def yX0_begin : MethodName := ⟨RX0, "begin", "(II)V"⟩
noncomputable abbrev cX0_go : ByteArray := prog_2_method_3_code
noncomputable def yX0_go : MethodName := ⟨RX0, "go", "(II)V"⟩
noncomputable abbrev cX0_meet : ByteArray := prog_2_method_4_code
noncomputable def yX0_meet : MethodName := ⟨RX0, "meet", "(I)V"⟩
noncomputable abbrev cX0_someCame : ByteArray := prog_2_method_5_code
noncomputable def yX0_someCame : MethodName := ⟨RX0, "someCame", "()Z"⟩
noncomputable abbrev cX0_step : ByteArray := prog_2_method_6_code
noncomputable def yX0_step : MethodName := ⟨RX0, "step", "(I)V"⟩
noncomputable abbrev cX0_bringComer : ByteArray := prog_2_method_7_code
noncomputable def yX0_bringComer : MethodName := ⟨RX0, "bringComer", "()V"⟩
noncomputable abbrev cX0_share : ByteArray := prog_2_method_8_code
noncomputable def yX0_share : MethodName := ⟨RX0, "share", "(II)V"⟩
noncomputable abbrev cX0_formTakes : ByteArray := prog_2_method_9_code
noncomputable def yX0_formTakes : MethodName := ⟨RX0, "formTakes", "(II)Z"⟩
noncomputable abbrev cX0_chiefTakesJoin : ByteArray := prog_2_method_10_code
noncomputable def yX0_chiefTakesJoin : MethodName := ⟨RX0, "chiefTakesJoin", "()Z"⟩
noncomputable abbrev cX0_mixesByAmount : ByteArray := prog_2_method_11_code
noncomputable def yX0_mixesByAmount : MethodName := ⟨RX0, "mixesByAmount", "()Z"⟩
noncomputable abbrev cX0_writeTakes : ByteArray := prog_2_method_12_code
noncomputable def yX0_writeTakes : MethodName := ⟨RX0, "writeTakes", "()Z"⟩
noncomputable abbrev cX0_barsKnowing : ByteArray := prog_2_method_13_code
noncomputable def yX0_barsKnowing : MethodName := ⟨RX0, "barsKnowing", "()Z"⟩
noncomputable abbrev cX0_knew : ByteArray := prog_2_method_14_code
noncomputable def yX0_knew : MethodName := ⟨RX0, "knew", "(I)Z"⟩
noncomputable abbrev cX0_giveAll : ByteArray := prog_2_method_15_code
noncomputable def yX0_giveAll : MethodName := ⟨RX0, "giveAll", "(II)V"⟩
noncomputable abbrev cX0_blend : ByteArray := prog_2_method_16_code
noncomputable def yX0_blend : MethodName := ⟨RX0, "blend", "(JJ)V"⟩
noncomputable abbrev cX0_part : ByteArray := prog_2_method_17_code
noncomputable def yX0_part : MethodName := ⟨RX0, "part", "(II)J"⟩
noncomputable abbrev cX0_hasSome : ByteArray := prog_2_method_18_code
noncomputable def yX0_hasSome : MethodName := ⟨RX0, "hasSome", "(II)Z"⟩
noncomputable abbrev cX0_hasAll : ByteArray := prog_2_method_19_code
noncomputable def yX0_hasAll : MethodName := ⟨RX0, "hasAll", "(II)Z"⟩
noncomputable abbrev cX0_debts : ByteArray := prog_2_method_20_code
noncomputable def yX0_debts : MethodName := ⟨RX0, "debts", "(I)I"⟩
noncomputable abbrev cX0_sharesAlike : ByteArray := prog_2_method_21_code
noncomputable def yX0_sharesAlike : MethodName := ⟨RX0, "sharesAlike", "(LMarbleLaw$Course;I)Z"⟩
noncomputable abbrev cX0_namesPartOf : ByteArray := prog_2_method_22_code
noncomputable def yX0_namesPartOf : MethodName := ⟨RX0, "namesPartOf", "(II)Z"⟩
noncomputable abbrev cX0_slyWay : ByteArray := prog_2_method_23_code
noncomputable def yX0_slyWay : MethodName := ⟨RX0, "slyWay", "(III)I"⟩
noncomputable abbrev cX0_hasAnother : ByteArray := prog_2_method_24_code
noncomputable def yX0_hasAnother : MethodName := ⟨RX0, "hasAnother", "(II)Z"⟩
noncomputable def RX1 : String := "MarbleLaw$Heap"
noncomputable def TX1 : u_T := fun k => match k with
  | 0 => ("MarbleLaw$Heap", "persons", "[I", true)
  | 1 => ("MarbleLaw$Heap", "amounts", "[I", true)
  | _ => ("MarbleLaw$Heap", "size", "I", false)
noncomputable def tyX1 : Nat → FieldType := fun k => match k with
  | 0 => .array .int
  | 1 => .array .int
  | _ => .int
noncomputable abbrev wsX10 : List Cond := u_ws RX1 TX1 3
theorem nmX1 : ∀ a, a < 3 → ∀ b, b < 3 → a ≠ b → (TX1 a).2.1 ≠ (TX1 b).2.1 := by decide +kernel
theorem tyX1_ok : ∀ k, k < 3 → parseFieldDescriptor (TX1 k).2.2.1 = some (tyX1 k) := by decide +kernel
noncomputable abbrev cX1_init : ByteArray := prog_3_method_1_code
noncomputable def yX1_init : MethodName := ⟨RX1, "<init>", "()V"⟩
noncomputable abbrev cX1_add : ByteArray := prog_3_method_2_code
noncomputable def yX1_add : MethodName := ⟨RX1, "add", "(II)V"⟩
noncomputable abbrev cX1_total : ByteArray := prog_3_method_3_code
noncomputable def yX1_total : MethodName := ⟨RX1, "total", "()I"⟩
noncomputable abbrev cX1_amountOf : ByteArray := prog_3_method_4_code
noncomputable def yX1_amountOf : MethodName := ⟨RX1, "amountOf", "(I)I"⟩
noncomputable abbrev cX1_asNumber : ByteArray := prog_3_method_5_code
noncomputable def yX1_asNumber : MethodName := ⟨RX1, "asNumber", "(I)I"⟩
noncomputable abbrev cX1_drawFromFirst : ByteArray := prog_3_method_6_code
noncomputable def yX1_drawFromFirst : MethodName := ⟨RX1, "drawFromFirst", "(I)V"⟩
noncomputable abbrev cX1_drawByParts : ByteArray := prog_3_method_7_code
noncomputable def yX1_drawByParts : MethodName := ⟨RX1, "drawByParts", "(I)V"⟩
noncomputable abbrev cX1_drawFromLast : ByteArray := prog_3_method_8_code
noncomputable def yX1_drawFromLast : MethodName := ⟨RX1, "drawFromLast", "(II)V"⟩
noncomputable abbrev cX1_take : ByteArray := prog_3_method_9_code
noncomputable def yX1_take : MethodName := ⟨RX1, "take", "(II)I"⟩
noncomputable abbrev cX1_dropEmpty : ByteArray := prog_3_method_10_code
noncomputable def yX1_dropEmpty : MethodName := ⟨RX1, "dropEmpty", "()V"⟩
noncomputable abbrev cX1_addTo : ByteArray := prog_3_method_11_code
noncomputable def yX1_addTo : MethodName := ⟨RX1, "addTo", "(J)J"⟩
noncomputable def RX2 : String := "MarbleLaw$LawReader"
noncomputable def TX2 : u_T := fun k => match k with
  | _ => ("MarbleLaw$LawReader", "chosen", "[I", true)
noncomputable def tyX2 : Nat → FieldType := fun k => match k with
  | _ => .array .int
noncomputable abbrev wsX20 : List Cond := u_ws RX2 TX2 1
theorem nmX2 : ∀ a, a < 1 → ∀ b, b < 1 → a ≠ b → (TX2 a).2.1 ≠ (TX2 b).2.1 := by decide +kernel
theorem tyX2_ok : ∀ k, k < 1 → parseFieldDescriptor (TX2 k).2.2.1 = some (tyX2 k) := by decide +kernel
noncomputable abbrev cX2_init : ByteArray := prog_4_method_1_code
noncomputable def yX2_init : MethodName := ⟨RX2, "<init>", "()V"⟩
noncomputable abbrev cX2_read : ByteArray := prog_4_method_2_code
noncomputable def yX2_read : MethodName := ⟨RX2, "read", "(LMarbleLaw$Row;)I"⟩
noncomputable abbrev cX2_number : ByteArray := prog_4_method_3_code
noncomputable def yX2_number : MethodName := ⟨RX2, "number", "()I"⟩
noncomputable abbrev cX2_wordOf : ByteArray := prog_4_method_4_code
noncomputable def yX2_wordOf : MethodName := ⟨RX2, "wordOf", "(I)I"⟩
noncomputable abbrev cX2_choiceOf : ByteArray := prog_4_method_5_code
noncomputable def yX2_choiceOf : MethodName := ⟨RX2, "choiceOf", "(II)I"⟩
noncomputable abbrev cX2_lawInOrder : ByteArray := prog_4_method_6_code
noncomputable def yX2_lawInOrder : MethodName := ⟨RX2, "lawInOrder", "(I)I"⟩
noncomputable abbrev cX2_wordsBetween : ByteArray := prog_4_method_7_code
noncomputable def yX2_wordsBetween : MethodName := ⟨RX2, "wordsBetween", "(II)I"⟩
noncomputable def RX3 : String := "MarbleLaw$Row"
noncomputable def TX3 : u_T := fun k => match k with
  | 0 => ("MarbleLaw$Row", "places", "[I", true)
  | _ => ("MarbleLaw$Row", "size", "I", false)
noncomputable def tyX3 : Nat → FieldType := fun k => match k with
  | 0 => .array .int
  | _ => .int
noncomputable abbrev wsX30 : List Cond := u_ws RX3 TX3 2
theorem nmX3 : ∀ a, a < 2 → ∀ b, b < 2 → a ≠ b → (TX3 a).2.1 ≠ (TX3 b).2.1 := by decide +kernel
theorem tyX3_ok : ∀ k, k < 2 → parseFieldDescriptor (TX3 k).2.2.1 = some (tyX3 k) := by decide +kernel
noncomputable abbrev cX3_init : ByteArray := prog_5_method_1_code
noncomputable def yX3_init : MethodName := ⟨RX3, "<init>", "()V"⟩
noncomputable abbrev cX3_isMissing : ByteArray := prog_5_method_2_code
noncomputable def yX3_isMissing : MethodName := ⟨RX3, "isMissing", "()Z"⟩
noncomputable abbrev cX3_begin : ByteArray := prog_5_method_3_code
noncomputable def yX3_begin : MethodName := ⟨RX3, "begin", "(II)V"⟩
noncomputable abbrev cX3_hasFrom : ByteArray := prog_5_method_4_code
noncomputable def yX3_hasFrom : MethodName := ⟨RX3, "hasFrom", "(II)Z"⟩
noncomputable abbrev cX3_sum : ByteArray := prog_5_method_5_code
noncomputable def yX3_sum : MethodName := ⟨RX3, "sum", "()J"⟩
noncomputable abbrev cX3_addTo : ByteArray := prog_5_method_6_code
noncomputable def yX3_addTo : MethodName := ⟨RX3, "addTo", "(J)J"⟩
noncomputable def RX4 : String := "MarbleLaw$Tale"
noncomputable def TX4 : u_T := fun k => match k with
  | 0 => ("MarbleLaw$Tale", "stuffNumbers", "[I", true)
  | 1 => ("MarbleLaw$Tale", "makingNumbers", "[I", true)
  | 2 => ("MarbleLaw$Tale", "stuffs", "I", false)
  | _ => ("MarbleLaw$Tale", "makings", "I", false)
noncomputable def tyX4 : Nat → FieldType := fun k => match k with
  | 0 => .array .int
  | 1 => .array .int
  | 2 => .int
  | _ => .int
noncomputable abbrev wsX40 : List Cond := u_ws RX4 TX4 4
theorem nmX4 : ∀ a, a < 4 → ∀ b, b < 4 → a ≠ b → (TX4 a).2.1 ≠ (TX4 b).2.1 := by decide +kernel
theorem tyX4_ok : ∀ k, k < 4 → parseFieldDescriptor (TX4 k).2.2.1 = some (tyX4 k) := by decide +kernel
noncomputable abbrev cX4_init : ByteArray := prog_6_method_1_code
noncomputable def yX4_init : MethodName := ⟨RX4, "<init>", "()V"⟩
noncomputable abbrev cX4_ofStuff : ByteArray := prog_6_method_2_code
noncomputable def yX4_ofStuff : MethodName := ⟨RX4, "ofStuff", "(II)I"⟩
noncomputable abbrev cX4_ofMaking : ByteArray := prog_6_method_3_code
noncomputable def yX4_ofMaking : MethodName := ⟨RX4, "ofMaking", "(II)I"⟩
noncomputable abbrev cX4_setDebt : ByteArray := prog_6_method_4_code
noncomputable def yX4_setDebt : MethodName := ⟨RX4, "setDebt", "(II)V"⟩
noncomputable abbrev cX4_addStuff : ByteArray := prog_6_method_5_code
noncomputable def yX4_addStuff : MethodName := ⟨RX4, "addStuff", "(IIII)I"⟩
noncomputable abbrev cX4_addMaking : ByteArray := prog_6_method_6_code
noncomputable def yX4_addMaking : MethodName := ⟨RX4, "addMaking", "(IIIIIIZ)I"⟩
noncomputable abbrev cX4_addTo : ByteArray := prog_6_method_7_code
noncomputable def yX4_addTo : MethodName := ⟨RX4, "addTo", "(J)J"⟩
noncomputable def RX5 : String := "MarbleLaw"
noncomputable def TX5 : u_T := fun k => match k with
  | 0 => ("MarbleLaw", "rows", "[LMarbleLaw$Row;", true)
  | 1 => ("MarbleLaw", "texts", "[LMarbleLaw$Row;", true)
  | 2 => ("MarbleLaw", "tale", "LMarbleLaw$Tale;", true)
  | 3 => ("MarbleLaw", "reader", "LMarbleLaw$LawReader;", true)
  | 4 => ("MarbleLaw", "lawNumbers", "[I", true)
  | 5 => ("MarbleLaw", "course", "LMarbleLaw$Course;", true)
  | 6 => ("MarbleLaw", "otherCourse", "LMarbleLaw$Course;", true)
  | 7 => ("MarbleLaw", "heaps", "[LMarbleLaw$Heap;", true)
  | 8 => ("MarbleLaw", "findingCounts", "[I", true)
  | 9 => ("MarbleLaw", "latestFinding", "I", false)
  | 10 => ("MarbleLaw", "askedNumber", "I", false)
  | 11 => ("MarbleLaw", "upperNumber", "J", false)
  | _ => ("MarbleLaw", "lowerNumber", "J", false)
noncomputable def tyX5 : Nat → FieldType := fun k => match k with
  | 0 => .array (.object "MarbleLaw$Row")
  | 1 => .array (.object "MarbleLaw$Row")
  | 2 => .object "MarbleLaw$Tale"
  | 3 => .object "MarbleLaw$LawReader"
  | 4 => .array .int
  | 5 => .object "MarbleLaw$Course"
  | 6 => .object "MarbleLaw$Course"
  | 7 => .array (.object "MarbleLaw$Heap")
  | 8 => .array .int
  | 9 => .int
  | 10 => .int
  | 11 => .long
  | _ => .long
noncomputable abbrev wsX50 : List Cond := u_ws RX5 TX5 13
theorem nmX5 : ∀ a, a < 13 → ∀ b, b < 13 → a ≠ b → (TX5 a).2.1 ≠ (TX5 b).2.1 := by decide +kernel
theorem tyX5_ok : ∀ k, k < 13 → parseFieldDescriptor (TX5 k).2.2.1 = some (tyX5 k) := by decide +kernel
noncomputable abbrev cX5_init : ByteArray := prog_1_method_1_code
noncomputable def yX5_init : MethodName := ⟨RX5, "<init>", "()V"⟩
noncomputable abbrev cX5_row : ByteArray := prog_1_method_2_code
noncomputable def yX5_row : MethodName := ⟨RX5, "row", "(II)I"⟩
noncomputable abbrev cX5_lay : ByteArray := prog_1_method_3_code
noncomputable def yX5_lay : MethodName := ⟨RX5, "lay", "(III)I"⟩
noncomputable abbrev cX5_at : ByteArray := prog_1_method_4_code
noncomputable def yX5_at : MethodName := ⟨RX5, "at", "(II)I"⟩
noncomputable abbrev cX5_tear : ByteArray := prog_1_method_5_code
noncomputable def yX5_tear : MethodName := ⟨RX5, "tear", "(I)I"⟩
noncomputable abbrev cX5_copy : ByteArray := prog_1_method_6_code
noncomputable def yX5_copy : MethodName := ⟨RX5, "copy", "(IIIII)I"⟩
noncomputable abbrev cX5_mean : ByteArray := prog_1_method_7_code
noncomputable def yX5_mean : MethodName := ⟨RX5, "mean", "(I)I"⟩
noncomputable abbrev cX5_text : ByteArray := prog_1_method_8_code
noncomputable def yX5_text : MethodName := ⟨RX5, "text", "(II)I"⟩
noncomputable abbrev cX5_put : ByteArray := prog_1_method_9_code
noncomputable def yX5_put : MethodName := ⟨RX5, "put", "(III)I"⟩
noncomputable abbrev cX5_stuff : ByteArray := prog_1_method_10_code
noncomputable def yX5_stuff : MethodName := ⟨RX5, "stuff", "(IIII)I"⟩
noncomputable abbrev cX5_stuffs : ByteArray := prog_1_method_11_code
noncomputable def yX5_stuffs : MethodName := ⟨RX5, "stuffs", "(I)I"⟩
noncomputable abbrev cX5_debt : ByteArray := prog_1_method_12_code
noncomputable def yX5_debt : MethodName := ⟨RX5, "debt", "(II)I"⟩
noncomputable abbrev cX5_making : ByteArray := prog_1_method_13_code
noncomputable def yX5_making : MethodName := ⟨RX5, "making", "(IIIIIIZ)I"⟩
noncomputable abbrev cX5_about : ByteArray := prog_1_method_14_code
noncomputable def yX5_about : MethodName := ⟨RX5, "about", "(II)I"⟩
noncomputable abbrev cX5_told : ByteArray := prog_1_method_15_code
noncomputable def yX5_told : MethodName := ⟨RX5, "told", "(II)I"⟩
noncomputable abbrev cX5_mark : ByteArray := prog_1_method_16_code
noncomputable def yX5_mark : MethodName := ⟨RX5, "mark", "(II)I"⟩
noncomputable abbrev cX5_fault : ByteArray := prog_1_method_17_code
noncomputable def yX5_fault : MethodName := ⟨RX5, "fault", "(I)I"⟩
noncomputable abbrev cX5_laws : ByteArray := prog_1_method_18_code
noncomputable def yX5_laws : MethodName := ⟨RX5, "laws", "(II)I"⟩
noncomputable abbrev cX5_law : ByteArray := prog_1_method_19_code
noncomputable def yX5_law : MethodName := ⟨RX5, "law", "(I)I"⟩
noncomputable abbrev cX5_inside : ByteArray := prog_1_method_20_code
noncomputable def yX5_inside : MethodName := ⟨RX5, "inside", "(II)I"⟩
noncomputable abbrev cX5_now : ByteArray := prog_1_method_21_code
noncomputable def yX5_now : MethodName := ⟨RX5, "now", "(III)I"⟩
noncomputable abbrev cX5_whose : ByteArray := prog_1_method_22_code
noncomputable def yX5_whose : MethodName := ⟨RX5, "whose", "(IIIII)I"⟩
noncomputable abbrev cX5_owners : ByteArray := prog_1_method_23_code
noncomputable def yX5_owners : MethodName := ⟨RX5, "owners", "(IIII)I"⟩
noncomputable abbrev cX5_changes : ByteArray := prog_1_method_24_code
noncomputable def yX5_changes : MethodName := ⟨RX5, "changes", "(IIII)I"⟩
noncomputable abbrev cX5_lost : ByteArray := prog_1_method_25_code
noncomputable def yX5_lost : MethodName := ⟨RX5, "lost", "(IIII)I"⟩
noncomputable abbrev cX5_beside : ByteArray := prog_1_method_26_code
noncomputable def yX5_beside : MethodName := ⟨RX5, "beside", "(III)I"⟩
noncomputable abbrev cX5_undo : ByteArray := prog_1_method_27_code
noncomputable def yX5_undo : MethodName := ⟨RX5, "undo", "(II)I"⟩
noncomputable abbrev cX5_sure : ByteArray := prog_1_method_28_code
noncomputable def yX5_sure : MethodName := ⟨RX5, "sure", "(IIII)I"⟩
noncomputable abbrev cX5_hangs : ByteArray := prog_1_method_29_code
noncomputable def yX5_hangs : MethodName := ⟨RX5, "hangs", "(IIII)I"⟩
noncomputable abbrev cX5_sly : ByteArray := prog_1_method_30_code
noncomputable def yX5_sly : MethodName := ⟨RX5, "sly", "(IIII)I"⟩
noncomputable abbrev cX5_stop : ByteArray := prog_1_method_31_code
noncomputable def yX5_stop : MethodName := ⟨RX5, "stop", "(IIII)I"⟩
noncomputable abbrev cX5_inTime : ByteArray := prog_1_method_32_code
noncomputable def yX5_inTime : MethodName := ⟨RX5, "inTime", "(III)I"⟩
noncomputable abbrev cX5_heap : ByteArray := prog_1_method_33_code
noncomputable def yX5_heap : MethodName := ⟨RX5, "heap", "(III)I"⟩
noncomputable abbrev cX5_draw : ByteArray := prog_1_method_34_code
noncomputable def yX5_draw : MethodName := ⟨RX5, "draw", "(IIII)I"⟩
noncomputable abbrev cX5_left : ByteArray := prog_1_method_35_code
noncomputable def yX5_left : MethodName := ⟨RX5, "left", "(II)I"⟩
noncomputable abbrev cX5_layer : ByteArray := prog_1_method_36_code
noncomputable def yX5_layer : MethodName := ⟨RX5, "layer", "(II)I"⟩
noncomputable abbrev cX5_asked : ByteArray := prog_1_method_37_code
noncomputable def yX5_asked : MethodName := ⟨RX5, "asked", "()I"⟩
noncomputable abbrev cX5_upper : ByteArray := prog_1_method_38_code
noncomputable def yX5_upper : MethodName := ⟨RX5, "upper", "()J"⟩
noncomputable abbrev cX5_lower : ByteArray := prog_1_method_39_code
noncomputable def yX5_lower : MethodName := ⟨RX5, "lower", "()J"⟩
noncomputable abbrev cX5_count : ByteArray := prog_1_method_40_code
noncomputable def yX5_count : MethodName := ⟨RX5, "count", "(I)I"⟩
noncomputable abbrev cX5_finding : ByteArray := prog_1_method_41_code
noncomputable def yX5_finding : MethodName := ⟨RX5, "finding", "()I"⟩
noncomputable abbrev cX5_findings : ByteArray := prog_1_method_42_code
noncomputable def yX5_findings : MethodName := ⟨RX5, "findings", "(I)I"⟩
noncomputable abbrev cX5_digest : ByteArray := prog_1_method_43_code
noncomputable def yX5_digest : MethodName := ⟨RX5, "digest", "()J"⟩
noncomputable abbrev cX5_found : ByteArray := prog_1_method_44_code
noncomputable def yX5_found : MethodName := ⟨RX5, "found", "(I)I"⟩
noncomputable abbrev cX5_within : ByteArray := prog_1_method_45_code
noncomputable def yX5_within : MethodName := ⟨RX5, "within", "(II)Z"⟩
noncomputable abbrev cX5_isWork : ByteArray := prog_1_method_46_code
noncomputable def yX5_isWork : MethodName := ⟨RX5, "isWork", "(I)Z"⟩
noncomputable abbrev cX5_isJoin : ByteArray := prog_1_method_47_code
noncomputable def yX5_isJoin : MethodName := ⟨RX5, "isJoin", "(I)Z"⟩
noncomputable abbrev cX5_namesTwo : ByteArray := prog_1_method_48_code
noncomputable def yX5_namesTwo : MethodName := ⟨RX5, "namesTwo", "(I)Z"⟩
noncomputable abbrev cX5_isStuffAsTold : ByteArray := prog_1_method_49_code
noncomputable def yX5_isStuffAsTold : MethodName := ⟨RX5, "isStuffAsTold", "(IIII)Z"⟩
noncomputable abbrev cX5_isStuff : ByteArray := prog_1_method_50_code
noncomputable def yX5_isStuff : MethodName := ⟨RX5, "isStuff", "(I)Z"⟩
noncomputable abbrev cX5_isMaking : ByteArray := prog_1_method_51_code
noncomputable def yX5_isMaking : MethodName := ⟨RX5, "isMaking", "(I)Z"⟩
noncomputable abbrev cX5_isStory : ByteArray := prog_1_method_52_code
noncomputable def yX5_isStory : MethodName := ⟨RX5, "isStory", "(I)Z"⟩
noncomputable abbrev cX5_isAim : ByteArray := prog_1_method_53_code
noncomputable def yX5_isAim : MethodName := ⟨RX5, "isAim", "(III)Z"⟩
noncomputable abbrev cX5_begin : ByteArray := prog_1_method_54_code
noncomputable def yX5_begin : MethodName := ⟨RX5, "begin", "([LMarbleLaw$Row;III)I"⟩
noncomputable abbrev cX5_refusalOfPlace : ByteArray := prog_1_method_55_code
noncomputable def yX5_refusalOfPlace : MethodName := ⟨RX5, "refusalOfPlace", "([LMarbleLaw$Row;II)I"⟩
noncomputable abbrev cX5_standBehind : ByteArray := prog_1_method_56_code
noncomputable def yX5_standBehind : MethodName := ⟨RX5, "standBehind", "(I)V"⟩
noncomputable abbrev cX5_refusalOfParts : ByteArray := prog_1_method_57_code
noncomputable def yX5_refusalOfParts : MethodName := ⟨RX5, "refusalOfParts", "(IIIII)I"⟩
noncomputable abbrev cX5_answersByWhichHas : ByteArray := prog_1_method_58_code
noncomputable def yX5_answersByWhichHas : MethodName := ⟨RX5, "answersByWhichHas", "(IIII)I"⟩
noncomputable abbrev cX5_decide : ByteArray := prog_1_method_59_code
noncomputable def yX5_decide : MethodName := ⟨RX5, "decide", "(II)Z"⟩
noncomputable abbrev cX5_isStoppedBy : ByteArray := prog_1_method_60_code
noncomputable def yX5_isStoppedBy : MethodName := ⟨RX5, "isStoppedBy", "(IIII)Z"⟩
noncomputable abbrev cX5_tellFraction : ByteArray := prog_1_method_61_code
noncomputable def yX5_tellFraction : MethodName := ⟨RX5, "tellFraction", "(JJ)V"⟩
noncomputable abbrev cX5_divisorOf : ByteArray := prog_1_method_62_code
noncomputable def yX5_divisorOf : MethodName := ⟨RX5, "divisorOf", "(JJ)J"⟩
noncomputable abbrev cX5_thereOf : ByteArray := prog_1_method_63_code
noncomputable def yX5_thereOf : MethodName := ⟨RX5, "thereOf", "([LMarbleLaw$Row;)I"⟩
noncomputable abbrev cX5_counted : ByteArray := prog_1_method_64_code
noncomputable def yX5_counted : MethodName := ⟨RX5, "counted", "(I)I"⟩
noncomputable def RX6 : String := "MarbleLawModel"
noncomputable def TX6 : u_T := fun k => match k with
  | 0 => ("MarbleLawModel", "finding", "I", false)
  | 1 => ("MarbleLawModel", "findings", "[I", true)
  | 2 => ("MarbleLawModel", "asked", "I", false)
  | 3 => ("MarbleLawModel", "upper", "J", false)
  | 4 => ("MarbleLawModel", "lower", "J", false)
  | 5 => ("MarbleLawModel", "sizes", "[I", true)
  | 6 => ("MarbleLawModel", "rows", "[I", true)
  | 7 => ("MarbleLawModel", "moving", "[I", true)
  | 8 => ("MarbleLawModel", "lengths", "[I", true)
  | 9 => ("MarbleLawModel", "texts", "[I", true)
  | 10 => ("MarbleLawModel", "stuffMany", "I", false)
  | 11 => ("MarbleLawModel", "abouts", "[I", true)
  | 12 => ("MarbleLawModel", "makingMany", "I", false)
  | 13 => ("MarbleLawModel", "makings", "[I", true)
  | 14 => ("MarbleLawModel", "numbers", "[I", true)
  | 15 => ("MarbleLawModel", "readNumber", "I", false)
  | 16 => ("MarbleLawModel", "inOf", "[I", true)
  | 17 => ("MarbleLawModel", "sorts", "[I", true)
  | 18 => ("MarbleLawModel", "worths", "[I", true)
  | 19 => ("MarbleLawModel", "amounts", "[I", true)
  | 20 => ("MarbleLawModel", "parts", "[J", true)
  | 21 => ("MarbleLawModel", "wholes", "[J", true)
  | 22 => ("MarbleLawModel", "isFine", "Z", false)
  | 23 => ("MarbleLawModel", "lawNow", "I", false)
  | 24 => ("MarbleLawModel", "answersNow", "I", false)
  | 25 => ("MarbleLawModel", "moved", "[J", true)
  | 26 => ("MarbleLawModel", "trails", "[J", true)
  | 27 => ("MarbleLawModel", "layerMany", "[I", true)
  | 28 => ("MarbleLawModel", "layerWho", "[I", true)
  | 29 => ("MarbleLawModel", "layerHas", "[I", true)
  | 30 => ("MarbleLawModel", "due", "I", false)
  | _ => ("MarbleLawModel", "h0", "J", false)
noncomputable def tyX6 : Nat → FieldType := fun k => match k with
  | 0 => .int
  | 1 => .array .int
  | 2 => .int
  | 3 => .long
  | 4 => .long
  | 5 => .array .int
  | 6 => .array .int
  | 7 => .array .int
  | 8 => .array .int
  | 9 => .array .int
  | 10 => .int
  | 11 => .array .int
  | 12 => .int
  | 13 => .array .int
  | 14 => .array .int
  | 15 => .int
  | 16 => .array .int
  | 17 => .array .int
  | 18 => .array .int
  | 19 => .array .int
  | 20 => .array .long
  | 21 => .array .long
  | 22 => .boolean
  | 23 => .int
  | 24 => .int
  | 25 => .array .long
  | 26 => .array .long
  | 27 => .array .int
  | 28 => .array .int
  | 29 => .array .int
  | 30 => .int
  | _ => .long
noncomputable abbrev wsX60 : List Cond := u_ws RX6 TX6 32
theorem nmX6 : ∀ a, a < 32 → ∀ b, b < 32 → a ≠ b → (TX6 a).2.1 ≠ (TX6 b).2.1 := by decide +kernel
theorem tyX6_ok : ∀ k, k < 32 → parseFieldDescriptor (TX6 k).2.2.1 = some (tyX6 k) := by decide +kernel
noncomputable abbrev cX6_init : ByteArray := prog_8_method_1_code
noncomputable def yX6_init : MethodName := ⟨RX6, "<init>", "()V"⟩
noncomputable abbrev cX6_in : ByteArray := prog_8_method_3_code
noncomputable def yX6_in : MethodName := ⟨RX6, "in", "(III)Z"⟩
noncomputable abbrev cX6_meets : ByteArray := prog_8_method_4_code
noncomputable def yX6_meets : MethodName := ⟨RX6, "meets", "(I)I"⟩
noncomputable abbrev cX6_ask : ByteArray := prog_8_method_5_code
noncomputable def yX6_ask : MethodName := ⟨RX6, "ask", "(II)I"⟩
noncomputable abbrev cX6_has : ByteArray := prog_8_method_6_code
noncomputable def yX6_has : MethodName := ⟨RX6, "has", "(II)Z"⟩
noncomputable abbrev cX6_bits : ByteArray := prog_8_method_7_code
noncomputable def yX6_bits : MethodName := ⟨RX6, "bits", "(I)I"⟩
noncomputable abbrev cX6_divisor : ByteArray := prog_8_method_8_code
noncomputable def yX6_divisor : MethodName := ⟨RX6, "divisor", "(JJ)J"⟩
noncomputable abbrev cX6_share : ByteArray := prog_8_method_9_code
noncomputable def yX6_share : MethodName := ⟨RX6, "share", "(JJI)I"⟩
noncomputable abbrev cX6_isRow : ByteArray := prog_8_method_10_code
noncomputable def yX6_isRow : MethodName := ⟨RX6, "isRow", "(I)Z"⟩
noncomputable abbrev cX6_isText : ByteArray := prog_8_method_11_code
noncomputable def yX6_isText : MethodName := ⟨RX6, "isText", "(I)Z"⟩
noncomputable abbrev cX6_askedRow : ByteArray := prog_8_method_12_code
noncomputable def yX6_askedRow : MethodName := ⟨RX6, "askedRow", "(I)I"⟩
noncomputable abbrev cX6_askedText : ByteArray := prog_8_method_13_code
noncomputable def yX6_askedText : MethodName := ⟨RX6, "askedText", "(I)I"⟩
noncomputable abbrev cX6_rowAt : ByteArray := prog_8_method_14_code
noncomputable def yX6_rowAt : MethodName := ⟨RX6, "rowAt", "(II)I"⟩
noncomputable abbrev cX6_row : ByteArray := prog_8_method_15_code
noncomputable def yX6_row : MethodName := ⟨RX6, "row", "(II)I"⟩
noncomputable abbrev cX6_at : ByteArray := prog_8_method_16_code
noncomputable def yX6_at : MethodName := ⟨RX6, "at", "(II)I"⟩
noncomputable abbrev cX6_lay : ByteArray := prog_8_method_17_code
noncomputable def yX6_lay : MethodName := ⟨RX6, "lay", "(III)I"⟩
noncomputable abbrev cX6_tear : ByteArray := prog_8_method_18_code
noncomputable def yX6_tear : MethodName := ⟨RX6, "tear", "(I)I"⟩
noncomputable abbrev cX6_copy : ByteArray := prog_8_method_19_code
noncomputable def yX6_copy : MethodName := ⟨RX6, "copy", "(IIIII)I"⟩
noncomputable abbrev cX6_mean : ByteArray := prog_8_method_20_code
noncomputable def yX6_mean : MethodName := ⟨RX6, "mean", "(I)I"⟩
noncomputable abbrev cX6_text : ByteArray := prog_8_method_21_code
noncomputable def yX6_text : MethodName := ⟨RX6, "text", "(II)I"⟩
noncomputable abbrev cX6_put : ByteArray := prog_8_method_22_code
noncomputable def yX6_put : MethodName := ⟨RX6, "put", "(III)I"⟩
noncomputable abbrev cX6_isStuff : ByteArray := prog_8_method_23_code
noncomputable def yX6_isStuff : MethodName := ⟨RX6, "isStuff", "(I)Z"⟩
noncomputable abbrev cX6_isPerson : ByteArray := prog_8_method_24_code
noncomputable def yX6_isPerson : MethodName := ⟨RX6, "isPerson", "(I)Z"⟩
noncomputable abbrev cX6_areStuff : ByteArray := prog_8_method_25_code
noncomputable def yX6_areStuff : MethodName := ⟨RX6, "areStuff", "(IIII)Z"⟩
noncomputable abbrev cX6_newStuff : ByteArray := prog_8_method_26_code
noncomputable def yX6_newStuff : MethodName := ⟨RX6, "newStuff", "(IIII)I"⟩
noncomputable abbrev cX6_stuff : ByteArray := prog_8_method_27_code
noncomputable def yX6_stuff : MethodName := ⟨RX6, "stuff", "(IIII)I"⟩
noncomputable abbrev cX6_stuffs : ByteArray := prog_8_method_28_code
noncomputable def yX6_stuffs : MethodName := ⟨RX6, "stuffs", "(I)I"⟩
noncomputable abbrev cX6_debt : ByteArray := prog_8_method_29_code
noncomputable def yX6_debt : MethodName := ⟨RX6, "debt", "(II)I"⟩
noncomputable abbrev cX6_brings : ByteArray := prog_8_method_30_code
noncomputable def yX6_brings : MethodName := ⟨RX6, "brings", "(I)Z"⟩
noncomputable abbrev cX6_isV : ByteArray := prog_8_method_31_code
noncomputable def yX6_isV : MethodName := ⟨RX6, "isV", "(III)Z"⟩
noncomputable abbrev cX6_isWork : ByteArray := prog_8_method_32_code
noncomputable def yX6_isWork : MethodName := ⟨RX6, "isWork", "(I)Z"⟩
noncomputable abbrev cX6_making : ByteArray := prog_8_method_33_code
noncomputable def yX6_making : MethodName := ⟨RX6, "making", "(IIIIIIZ)I"⟩
noncomputable abbrev cX6_about : ByteArray := prog_8_method_34_code
noncomputable def yX6_about : MethodName := ⟨RX6, "about", "(II)I"⟩
noncomputable abbrev cX6_isMaking : ByteArray := prog_8_method_35_code
noncomputable def yX6_isMaking : MethodName := ⟨RX6, "isMaking", "(I)Z"⟩
noncomputable abbrev cX6_part : ByteArray := prog_8_method_36_code
noncomputable def yX6_part : MethodName := ⟨RX6, "part", "(II)I"⟩
noncomputable abbrev cX6_told : ByteArray := prog_8_method_37_code
noncomputable def yX6_told : MethodName := ⟨RX6, "told", "(II)I"⟩
noncomputable abbrev cX6_choice : ByteArray := prog_8_method_38_code
noncomputable def yX6_choice : MethodName := ⟨RX6, "choice", "(II)I"⟩
noncomputable abbrev cX6_placeOf : ByteArray := prog_8_method_39_code
noncomputable def yX6_placeOf : MethodName := ⟨RX6, "placeOf", "(I)I"⟩
noncomputable abbrev cX6_figure : ByteArray := prog_8_method_40_code
noncomputable def yX6_figure : MethodName := ⟨RX6, "figure", "(II)I"⟩
noncomputable abbrev cX6_byteAt : ByteArray := prog_8_method_41_code
noncomputable def yX6_byteAt : MethodName := ⟨RX6, "byteAt", "(II)I"⟩
noncomputable abbrev cX6_goesOn : ByteArray := prog_8_method_42_code
noncomputable def yX6_goesOn : MethodName := ⟨RX6, "goesOn", "(I)I"⟩
noncomputable abbrev cX6_fault : ByteArray := prog_8_method_43_code
noncomputable def yX6_fault : MethodName := ⟨RX6, "fault", "(I)I"⟩
noncomputable abbrev cX6_isLaws : ByteArray := prog_8_method_44_code
noncomputable def yX6_isLaws : MethodName := ⟨RX6, "isLaws", "(I)Z"⟩
noncomputable abbrev cX6_askedLaws : ByteArray := prog_8_method_45_code
noncomputable def yX6_askedLaws : MethodName := ⟨RX6, "askedLaws", "(I)I"⟩
noncomputable abbrev cX6_laws : ByteArray := prog_8_method_46_code
noncomputable def yX6_laws : MethodName := ⟨RX6, "laws", "(II)I"⟩
noncomputable abbrev cX6_law : ByteArray := prog_8_method_47_code
noncomputable def yX6_law : MethodName := ⟨RX6, "law", "(I)I"⟩
noncomputable abbrev cX6_begins : ByteArray := prog_8_method_48_code
noncomputable def yX6_begins : MethodName := ⟨RX6, "begins", "(II)V"⟩
noncomputable abbrev cX6_allTo : ByteArray := prog_8_method_49_code
noncomputable def yX6_allTo : MethodName := ⟨RX6, "allTo", "(II)V"⟩
noncomputable abbrev cX6_mixes : ByteArray := prog_8_method_50_code
noncomputable def yX6_mixes : MethodName := ⟨RX6, "mixes", "(IIII)V"⟩
noncomputable abbrev cX6_knows : ByteArray := prog_8_method_51_code
noncomputable def yX6_knows : MethodName := ⟨RX6, "knows", "(I)Z"⟩
noncomputable abbrev cX6_takes : ByteArray := prog_8_method_52_code
noncomputable def yX6_takes : MethodName := ⟨RX6, "takes", "(IIIZ)Z"⟩
noncomputable abbrev cX6_comes : ByteArray := prog_8_method_53_code
noncomputable def yX6_comes : MethodName := ⟨RX6, "comes", "(IIII)V"⟩
noncomputable abbrev cX6_makes : ByteArray := prog_8_method_54_code
noncomputable def yX6_makes : MethodName := ⟨RX6, "makes", "(IIIIIZ)V"⟩
noncomputable abbrev cX6_does : ByteArray := prog_8_method_55_code
noncomputable def yX6_does : MethodName := ⟨RX6, "does", "(I)V"⟩
noncomputable abbrev cX6_goes : ByteArray := prog_8_method_56_code
noncomputable def yX6_goes : MethodName := ⟨RX6, "goes", "(IIII)Z"⟩
noncomputable abbrev cX6_isMany : ByteArray := prog_8_method_57_code
noncomputable def yX6_isMany : MethodName := ⟨RX6, "isMany", "(I)Z"⟩
noncomputable abbrev cX6_mark : ByteArray := prog_8_method_58_code
noncomputable def yX6_mark : MethodName := ⟨RX6, "mark", "(II)I"⟩
noncomputable abbrev cX6_inside : ByteArray := prog_8_method_59_code
noncomputable def yX6_inside : MethodName := ⟨RX6, "inside", "(II)I"⟩
noncomputable abbrev cX6_now : ByteArray := prog_8_method_60_code
noncomputable def yX6_now : MethodName := ⟨RX6, "now", "(III)I"⟩
noncomputable abbrev cX6_areAnswers : ByteArray := prog_8_method_61_code
noncomputable def yX6_areAnswers : MethodName := ⟨RX6, "areAnswers", "(I)Z"⟩
noncomputable abbrev cX6_partOf : ByteArray := prog_8_method_62_code
noncomputable def yX6_partOf : MethodName := ⟨RX6, "partOf", "(II)J"⟩
noncomputable abbrev cX6_whose : ByteArray := prog_8_method_63_code
noncomputable def yX6_whose : MethodName := ⟨RX6, "whose", "(IIIII)I"⟩
noncomputable abbrev cX6_ownersOf : ByteArray := prog_8_method_64_code
noncomputable def yX6_ownersOf : MethodName := ⟨RX6, "ownersOf", "(I)I"⟩
noncomputable abbrev cX6_owners : ByteArray := prog_8_method_65_code
noncomputable def yX6_owners : MethodName := ⟨RX6, "owners", "(IIII)I"⟩
noncomputable abbrev cX6_changes : ByteArray := prog_8_method_66_code
noncomputable def yX6_changes : MethodName := ⟨RX6, "changes", "(IIII)I"⟩
noncomputable abbrev cX6_lost : ByteArray := prog_8_method_67_code
noncomputable def yX6_lost : MethodName := ⟨RX6, "lost", "(IIII)I"⟩
noncomputable abbrev cX6_setTrails : ByteArray := prog_8_method_68_code
noncomputable def yX6_setTrails : MethodName := ⟨RX6, "setTrails", "(II)V"⟩
noncomputable abbrev cX6_beside : ByteArray := prog_8_method_69_code
noncomputable def yX6_beside : MethodName := ⟨RX6, "beside", "(III)I"⟩
noncomputable abbrev cX6_undo : ByteArray := prog_8_method_70_code
noncomputable def yX6_undo : MethodName := ⟨RX6, "undo", "(II)I"⟩
noncomputable abbrev cX6_hasBy : ByteArray := prog_8_method_71_code
noncomputable def yX6_hasBy : MethodName := ⟨RX6, "hasBy", "(IIII)I"⟩
noncomputable abbrev cX6_askedBy : ByteArray := prog_8_method_72_code
noncomputable def yX6_askedBy : MethodName := ⟨RX6, "askedBy", "(IIII)I"⟩
noncomputable abbrev cX6_sure : ByteArray := prog_8_method_73_code
noncomputable def yX6_sure : MethodName := ⟨RX6, "sure", "(IIII)I"⟩
noncomputable abbrev cX6_hangs : ByteArray := prog_8_method_74_code
noncomputable def yX6_hangs : MethodName := ⟨RX6, "hangs", "(IIII)I"⟩
noncomputable abbrev cX6_hasAll : ByteArray := prog_8_method_75_code
noncomputable def yX6_hasAll : MethodName := ⟨RX6, "hasAll", "(II)Z"⟩
noncomputable abbrev cX6_slyBy : ByteArray := prog_8_method_76_code
noncomputable def yX6_slyBy : MethodName := ⟨RX6, "slyBy", "(IIII)I"⟩
noncomputable abbrev cX6_askedSly : ByteArray := prog_8_method_77_code
noncomputable def yX6_askedSly : MethodName := ⟨RX6, "askedSly", "(IIII)I"⟩
noncomputable abbrev cX6_sly : ByteArray := prog_8_method_78_code
noncomputable def yX6_sly : MethodName := ⟨RX6, "sly", "(IIII)I"⟩
noncomputable abbrev cX6_words : ByteArray := prog_8_method_79_code
noncomputable def yX6_words : MethodName := ⟨RX6, "words", "(II)I"⟩
noncomputable abbrev cX6_stop : ByteArray := prog_8_method_80_code
noncomputable def yX6_stop : MethodName := ⟨RX6, "stop", "(IIII)I"⟩
noncomputable abbrev cX6_inTime : ByteArray := prog_8_method_81_code
noncomputable def yX6_inTime : MethodName := ⟨RX6, "inTime", "(III)I"⟩
noncomputable abbrev cX6_isHeap : ByteArray := prog_8_method_82_code
noncomputable def yX6_isHeap : MethodName := ⟨RX6, "isHeap", "(I)Z"⟩
noncomputable abbrev cX6_heap : ByteArray := prog_8_method_83_code
noncomputable def yX6_heap : MethodName := ⟨RX6, "heap", "(III)I"⟩
noncomputable abbrev cX6_allOf : ByteArray := prog_8_method_84_code
noncomputable def yX6_allOf : MethodName := ⟨RX6, "allOf", "(II)I"⟩
noncomputable abbrev cX6_drawsFrom : ByteArray := prog_8_method_85_code
noncomputable def yX6_drawsFrom : MethodName := ⟨RX6, "drawsFrom", "(II)V"⟩
noncomputable abbrev cX6_draw : ByteArray := prog_8_method_86_code
noncomputable def yX6_draw : MethodName := ⟨RX6, "draw", "(IIII)I"⟩
noncomputable abbrev cX6_left : ByteArray := prog_8_method_87_code
noncomputable def yX6_left : MethodName := ⟨RX6, "left", "(II)I"⟩
noncomputable abbrev cX6_layer : ByteArray := prog_8_method_88_code
noncomputable def yX6_layer : MethodName := ⟨RX6, "layer", "(II)I"⟩
noncomputable abbrev cX6_asked : ByteArray := prog_8_method_89_code
noncomputable def yX6_asked : MethodName := ⟨RX6, "asked", "()I"⟩
noncomputable abbrev cX6_upper : ByteArray := prog_8_method_90_code
noncomputable def yX6_upper : MethodName := ⟨RX6, "upper", "()J"⟩
noncomputable abbrev cX6_lower : ByteArray := prog_8_method_91_code
noncomputable def yX6_lower : MethodName := ⟨RX6, "lower", "()J"⟩
noncomputable abbrev cX6_counts : ByteArray := prog_8_method_92_code
noncomputable def yX6_counts : MethodName := ⟨RX6, "counts", "(I)I"⟩
noncomputable abbrev cX6_count : ByteArray := prog_8_method_93_code
noncomputable def yX6_count : MethodName := ⟨RX6, "count", "(I)I"⟩
noncomputable abbrev cX6_finding : ByteArray := prog_8_method_94_code
noncomputable def yX6_finding : MethodName := ⟨RX6, "finding", "()I"⟩
noncomputable abbrev cX6_findings : ByteArray := prog_8_method_95_code
noncomputable def yX6_findings : MethodName := ⟨RX6, "findings", "(I)I"⟩
noncomputable abbrev cX6_mix : ByteArray := prog_8_method_96_code
noncomputable def yX6_mix : MethodName := ⟨RX6, "mix", "(I)V"⟩
noncomputable abbrev cX6_mixAll : ByteArray := prog_8_method_97_code
noncomputable def yX6_mixAll : MethodName := ⟨RX6, "mixAll", "()V"⟩
noncomputable abbrev cX6_digest : ByteArray := prog_8_method_98_code
noncomputable def yX6_digest : MethodName := ⟨RX6, "digest", "()J"⟩
noncomputable def RJ6 : String := "java/lang/Integer"
noncomputable def TJ6 : u_T := fun k => match k with
  | _ => ("", "", "", false)
noncomputable def tyJ6 : Nat → FieldType := fun k => match k with
  | _ => .int
noncomputable abbrev wsJ60 : List Cond := u_ws RJ6 TJ6 0
theorem nmJ6 : ∀ a, a < 0 → ∀ b, b < 0 → a ≠ b → (TJ6 a).2.1 ≠ (TJ6 b).2.1 := by decide +kernel
theorem tyJ6_ok : ∀ k, k < 0 → parseFieldDescriptor (TJ6 k).2.2.1 = some (tyJ6 k) := by decide +kernel
noncomputable abbrev cJ6_bitCount_0f7a4 : ByteArray := prog_9_method_49_code
noncomputable def yJ6_bitCount_0f7a4 : MethodName := ⟨RJ6, "bitCount", "(I)I"⟩
noncomputable def RJ9 : String := "java/lang/Math"
noncomputable def TJ9 : u_T := fun k => match k with
  | _ => ("", "", "", false)
noncomputable def tyJ9 : Nat → FieldType := fun k => match k with
  | _ => .int
noncomputable abbrev wsJ90 : List Cond := u_ws RJ9 TJ9 0
theorem nmJ9 : ∀ a, a < 0 → ∀ b, b < 0 → a ≠ b → (TJ9 a).2.1 ≠ (TJ9 b).2.1 := by decide +kernel
theorem tyJ9_ok : ∀ k, k < 0 → parseFieldDescriptor (TJ9 k).2.2.1 = some (tyJ9 k) := by decide +kernel
noncomputable abbrev cJ9_abs_067f4 : ByteArray := prog_10_method_61_code
noncomputable def yJ9_abs_067f4 : MethodName := ⟨RJ9, "abs", "(J)J"⟩
noncomputable abbrev cJ9_min_7cf53 : ByteArray := prog_10_method_69_code
noncomputable def yJ9_min_7cf53 : MethodName := ⟨RJ9, "min", "(II)I"⟩
noncomputable def RJ10 : String := "java/lang/System"
noncomputable def TJ10 : u_T := fun k => match k with
  | _ => ("", "", "", false)
noncomputable def tyJ10 : Nat → FieldType := fun k => match k with
  | _ => .int
noncomputable abbrev wsJ100 : List Cond := u_ws RJ10 TJ10 0
theorem nmJ10 : ∀ a, a < 0 → ∀ b, b < 0 → a ≠ b → (TJ10 a).2.1 ≠ (TJ10 b).2.1 := by decide +kernel
theorem tyJ10_ok : ∀ k, k < 0 → parseFieldDescriptor (TJ10 k).2.2.1 = some (tyJ10 k) := by decide +kernel
noncomputable def RL : String := "MarbleLawLaw"
noncomputable abbrev cL_law : ByteArray := code
noncomputable def yL_law : MethodName := ⟨RL, "law", "([I)Z"⟩

/-! ===== the words that stay, the nest's words, the classes, the array types ===== -/
noncomputable def nk_gw : List Cond := lw_tbl.filter goodWord
noncomputable def nk_nw : List (String × Nat × MethodName × String) := [("MarbleLaw", 20, ⟨"MarbleLaw$Tale", "<init>", "()V"⟩, "MarbleLaw"), ("MarbleLaw", 27, ⟨"MarbleLaw$LawReader", "<init>", "()V"⟩, "MarbleLaw"), ("MarbleLaw", 71, ⟨"MarbleLaw$Row", "<init>", "()V"⟩, "MarbleLaw"), ("MarbleLaw", 72, ⟨"MarbleLaw$Heap", "<init>", "()V"⟩, "MarbleLaw"), ("MarbleLaw$Course", 127, ⟨"MarbleLaw", "divisorOf", "(JJ)J"⟩, "MarbleLaw"), ("MarbleLaw$Course", 83, ⟨"MarbleLaw", "namesTwo", "(I)Z"⟩, "MarbleLaw")]
noncomputable def nk_ao : List String := ["MarbleLaw$Row", "MarbleLaw$Heap"]
noncomputable abbrev nk_cl : List vw_C := [(RX0, TX0, 15), (RX1, TX1, 3), (RX2, TX2, 1), (RX3, TX3, 2), (RX4, TX4, 4), (RX5, TX5, 13), (RX6, TX6, 32)]
noncomputable abbrev nk_ty : List FieldType := [.int, .long, .object "MarbleLaw$Row", .object "MarbleLaw$Heap"]
/-- of an array type its components' class -/
noncomputable abbrev nk_cm : List (Nat × Nat) := [(2, 3), (3, 1)]
/-- static arrays: handle, length, what they hold, class, name, descriptor -/
noncomputable def nk_sta : List (Nat × Nat × (Nat → Int32) × String × String × String) := [(3000000, 5, fun j => ([70, 74, 77, 87, 75] : List Int32).getD j 0, "MarbleLaw$LawReader", "CAPITALS", "[I"), (3000001, 15, fun j => ([115, 109, 103, 99, 112, 999, 97, 119, 999, 99, 109, 999, 121, 110, 999] : List Int32).getD j 0, "MarbleLaw$LawReader", "SMALLS", "[I")]
