section
-- ===== PART A: goes FIRST, ahead of the names: the tables' words, and 'selects' of the private methods out of them =====
/-- a private method of a class that the tables say can be made, by its rows of tables_1 -/
def lw_okq (q : MethodName × Nat) : Prop := (q.1.cls ≠ "java/lang/invoke/MethodHandle" ∧ q.1.cls ≠ "java/lang/invoke/VarHandle") ∧ Cond.instantiable q.1.cls q.2 ∈ tables_1 ∧ Cond.privateMethod q.1 ∈ tables_1 ∧ Cond.instanceMethod q.1 ∈ tables_1
theorem lw_p0 : lw_okq (⟨"EqualMethods", "buildOf", "(I)LEqualMethods$Build;"⟩, 17) := ⟨⟨by decide +kernel, by decide +kernel⟩, List.mem_of_getElem? (i := 13) (by decide +kernel), List.mem_of_getElem? (i := 263) (by decide +kernel), List.mem_of_getElem? (i := 264) (by decide +kernel)⟩
theorem lw_p1 : lw_okq (⟨"EqualMethods", "isMethod", "(II)Z"⟩, 17) := ⟨⟨by decide +kernel, by decide +kernel⟩, List.mem_of_getElem? (i := 13) (by decide +kernel), List.mem_of_getElem? (i := 275) (by decide +kernel), List.mem_of_getElem? (i := 276) (by decide +kernel)⟩
theorem lw_p2 : lw_okq (⟨"EqualMethods", "fits", "(III)Z"⟩, 17) := ⟨⟨by decide +kernel, by decide +kernel⟩, List.mem_of_getElem? (i := 13) (by decide +kernel), List.mem_of_getElem? (i := 283) (by decide +kernel), List.mem_of_getElem? (i := 284) (by decide +kernel)⟩
theorem lw_p3 : lw_okq (⟨"EqualMethods$Machine", "enter", "(III)V"⟩, 9) := ⟨⟨by decide +kernel, by decide +kernel⟩, List.mem_of_getElem? (i := 106) (by decide +kernel), List.mem_of_getElem? (i := 325) (by decide +kernel), List.mem_of_getElem? (i := 326) (by decide +kernel)⟩
theorem lw_p4 : lw_okq (⟨"EqualMethods$Machine", "giveBack", "(I)V"⟩, 9) := ⟨⟨by decide +kernel, by decide +kernel⟩, List.mem_of_getElem? (i := 106) (by decide +kernel), List.mem_of_getElem? (i := 329) (by decide +kernel), List.mem_of_getElem? (i := 330) (by decide +kernel)⟩
theorem lw_p5 : lw_okq (⟨"EqualMethods$Machine", "placeOfTop", "()I"⟩, 9) := ⟨⟨by decide +kernel, by decide +kernel⟩, List.mem_of_getElem? (i := 106) (by decide +kernel), List.mem_of_getElem? (i := 334) (by decide +kernel), List.mem_of_getElem? (i := 335) (by decide +kernel)⟩
theorem lw_p6 : lw_okq (⟨"EqualMethods$Machine", "put", "(II)V"⟩, 9) := ⟨⟨by decide +kernel, by decide +kernel⟩, List.mem_of_getElem? (i := 106) (by decide +kernel), List.mem_of_getElem? (i := 339) (by decide +kernel), List.mem_of_getElem? (i := 340) (by decide +kernel)⟩
theorem lw_p7 : lw_okq (⟨"EqualMethods$Machine", "isSpentBy", "(I)Z"⟩, 9) := ⟨⟨by decide +kernel, by decide +kernel⟩, List.mem_of_getElem? (i := 106) (by decide +kernel), List.mem_of_getElem? (i := 343) (by decide +kernel), List.mem_of_getElem? (i := 344) (by decide +kernel)⟩
theorem lw_p8 : lw_okq (⟨"EqualMethods$Machine", "stop", "(III)V"⟩, 9) := ⟨⟨by decide +kernel, by decide +kernel⟩, List.mem_of_getElem? (i := 106) (by decide +kernel), List.mem_of_getElem? (i := 347) (by decide +kernel), List.mem_of_getElem? (i := 348) (by decide +kernel)⟩
theorem lw_p9 : lw_okq (⟨"EqualMethods$Machine", "perform", "(I)V"⟩, 9) := ⟨⟨by decide +kernel, by decide +kernel⟩, List.mem_of_getElem? (i := 106) (by decide +kernel), List.mem_of_getElem? (i := 351) (by decide +kernel), List.mem_of_getElem? (i := 352) (by decide +kernel)⟩
theorem lw_p10 : lw_okq (⟨"EqualMethods$Machine", "get", "(I)I"⟩, 9) := ⟨⟨by decide +kernel, by decide +kernel⟩, List.mem_of_getElem? (i := 106) (by decide +kernel), List.mem_of_getElem? (i := 355) (by decide +kernel), List.mem_of_getElem? (i := 356) (by decide +kernel)⟩
theorem lw_p11 : lw_okq (⟨"EqualMethods$Machine", "ask", "(IIII)V"⟩, 9) := ⟨⟨by decide +kernel, by decide +kernel⟩, List.mem_of_getElem? (i := 106) (by decide +kernel), List.mem_of_getElem? (i := 363) (by decide +kernel), List.mem_of_getElem? (i := 364) (by decide +kernel)⟩
theorem lw_p12 : lw_okq (⟨"EqualMethods$Machine", "answer", "(IIII)V"⟩, 9) := ⟨⟨by decide +kernel, by decide +kernel⟩, List.mem_of_getElem? (i := 106) (by decide +kernel), List.mem_of_getElem? (i := 368) (by decide +kernel), List.mem_of_getElem? (i := 369) (by decide +kernel)⟩
theorem lw_p13 : lw_okq (⟨"EqualMethods$Machine", "calculate", "(IIII)V"⟩, 9) := ⟨⟨by decide +kernel, by decide +kernel⟩, List.mem_of_getElem? (i := 106) (by decide +kernel), List.mem_of_getElem? (i := 376) (by decide +kernel), List.mem_of_getElem? (i := 377) (by decide +kernel)⟩
theorem lw_p14 : lw_okq (⟨"EqualMethods$Ports", "name", "(II)V"⟩, 3) := ⟨⟨by decide +kernel, by decide +kernel⟩, List.mem_of_getElem? (i := 54) (by decide +kernel), List.mem_of_getElem? (i := 399) (by decide +kernel), List.mem_of_getElem? (i := 400) (by decide +kernel)⟩
theorem lw_p15 : lw_okq (⟨"EqualMethods", "isPair", "(II)Z"⟩, 17) := ⟨⟨by decide +kernel, by decide +kernel⟩, List.mem_of_getElem? (i := 13) (by decide +kernel), List.mem_of_getElem? (i := 411) (by decide +kernel), List.mem_of_getElem? (i := 412) (by decide +kernel)⟩
def lw_privs_1 : List (MethodName × Nat) := [(⟨"EqualMethods", "buildOf", "(I)LEqualMethods$Build;"⟩, 17), (⟨"EqualMethods", "isMethod", "(II)Z"⟩, 17), (⟨"EqualMethods", "fits", "(III)Z"⟩, 17), (⟨"EqualMethods$Machine", "enter", "(III)V"⟩, 9), (⟨"EqualMethods$Machine", "giveBack", "(I)V"⟩, 9), (⟨"EqualMethods$Machine", "placeOfTop", "()I"⟩, 9), (⟨"EqualMethods$Machine", "put", "(II)V"⟩, 9), (⟨"EqualMethods$Machine", "isSpentBy", "(I)Z"⟩, 9), (⟨"EqualMethods$Machine", "stop", "(III)V"⟩, 9), (⟨"EqualMethods$Machine", "perform", "(I)V"⟩, 9), (⟨"EqualMethods$Machine", "get", "(I)I"⟩, 9), (⟨"EqualMethods$Machine", "ask", "(IIII)V"⟩, 9), (⟨"EqualMethods$Machine", "answer", "(IIII)V"⟩, 9), (⟨"EqualMethods$Machine", "calculate", "(IIII)V"⟩, 9), (⟨"EqualMethods$Ports", "name", "(II)V"⟩, 3), (⟨"EqualMethods", "isPair", "(II)Z"⟩, 17)]
theorem lw_r1 : ∀ q ∈ lw_privs_1, lw_okq q := List.forall_mem_cons.mpr ⟨lw_p0, List.forall_mem_cons.mpr ⟨lw_p1, List.forall_mem_cons.mpr ⟨lw_p2, List.forall_mem_cons.mpr ⟨lw_p3, List.forall_mem_cons.mpr ⟨lw_p4, List.forall_mem_cons.mpr ⟨lw_p5, List.forall_mem_cons.mpr ⟨lw_p6, List.forall_mem_cons.mpr ⟨lw_p7, List.forall_mem_cons.mpr ⟨lw_p8, List.forall_mem_cons.mpr ⟨lw_p9, List.forall_mem_cons.mpr ⟨lw_p10, List.forall_mem_cons.mpr ⟨lw_p11, List.forall_mem_cons.mpr ⟨lw_p12, List.forall_mem_cons.mpr ⟨lw_p13, List.forall_mem_cons.mpr ⟨lw_p14, List.forall_mem_cons.mpr ⟨lw_p15, fun _ h => absurd h List.not_mem_nil⟩⟩⟩⟩⟩⟩⟩⟩⟩⟩⟩⟩⟩⟩⟩⟩
theorem lw_p16 : lw_okq (⟨"EqualMethods", "held", "(II)I"⟩, 17) := ⟨⟨by decide +kernel, by decide +kernel⟩, List.mem_of_getElem? (i := 13) (by decide +kernel), List.mem_of_getElem? (i := 415) (by decide +kernel), List.mem_of_getElem? (i := 416) (by decide +kernel)⟩
theorem lw_p17 : lw_okq (⟨"EqualMethods", "runBoth", "(IIII)Z"⟩, 17) := ⟨⟨by decide +kernel, by decide +kernel⟩, List.mem_of_getElem? (i := 13) (by decide +kernel), List.mem_of_getElem? (i := 419) (by decide +kernel), List.mem_of_getElem? (i := 420) (by decide +kernel)⟩
theorem lw_p18 : lw_okq (⟨"EqualMethods", "runsAlike", "(LEqualMethods$Ports;)Z"⟩, 17) := ⟨⟨by decide +kernel, by decide +kernel⟩, List.mem_of_getElem? (i := 13) (by decide +kernel), List.mem_of_getElem? (i := 423) (by decide +kernel), List.mem_of_getElem? (i := 424) (by decide +kernel)⟩
theorem lw_p19 : lw_okq (⟨"EqualMethods$Ports", "alikeIn", "(ILEqualMethods$Trace;ILEqualMethods$Trace;II)Z"⟩, 3) := ⟨⟨by decide +kernel, by decide +kernel⟩, List.mem_of_getElem? (i := 54) (by decide +kernel), List.mem_of_getElem? (i := 435) (by decide +kernel), List.mem_of_getElem? (i := 436) (by decide +kernel)⟩
theorem lw_p20 : lw_okq (⟨"EqualMethods$Ports", "nextIn", "(ILEqualMethods$Trace;II)I"⟩, 3) := ⟨⟨by decide +kernel, by decide +kernel⟩, List.mem_of_getElem? (i := 54) (by decide +kernel), List.mem_of_getElem? (i := 439) (by decide +kernel), List.mem_of_getElem? (i := 440) (by decide +kernel)⟩
theorem lw_p21 : lw_okq (⟨"EqualMethods", "stillAlike", "(IZ)I"⟩, 17) := ⟨⟨by decide +kernel, by decide +kernel⟩, List.mem_of_getElem? (i := 13) (by decide +kernel), List.mem_of_getElem? (i := 463) (by decide +kernel), List.mem_of_getElem? (i := 464) (by decide +kernel)⟩
theorem lw_p22 : lw_okq (⟨"EqualMethods", "proveInputs", "(III)V"⟩, 17) := ⟨⟨by decide +kernel, by decide +kernel⟩, List.mem_of_getElem? (i := 13) (by decide +kernel), List.mem_of_getElem? (i := 505) (by decide +kernel), List.mem_of_getElem? (i := 506) (by decide +kernel)⟩
theorem lw_p23 : lw_okq (⟨"EqualMethods", "walksAnswer", "()I"⟩, 17) := ⟨⟨by decide +kernel, by decide +kernel⟩, List.mem_of_getElem? (i := 13) (by decide +kernel), List.mem_of_getElem? (i := 513) (by decide +kernel), List.mem_of_getElem? (i := 514) (by decide +kernel)⟩
theorem lw_p24 : lw_okq (⟨"EqualMethods", "callingsAlike", "(LEqualMethods$Trace;LEqualMethods$Trace;)Z"⟩, 17) := ⟨⟨by decide +kernel, by decide +kernel⟩, List.mem_of_getElem? (i := 13) (by decide +kernel), List.mem_of_getElem? (i := 517) (by decide +kernel), List.mem_of_getElem? (i := 518) (by decide +kernel)⟩
theorem lw_p25 : lw_okq (⟨"EqualMethodsModel", "isMethod", "(II)Z"⟩, 42) := ⟨⟨by decide +kernel, by decide +kernel⟩, List.mem_of_getElem? (i := 544) (by decide +kernel), List.mem_of_getElem? (i := 688) (by decide +kernel), List.mem_of_getElem? (i := 689) (by decide +kernel)⟩
theorem lw_p26 : lw_okq (⟨"EqualMethodsModel", "isRight", "(IIII)Z"⟩, 42) := ⟨⟨by decide +kernel, by decide +kernel⟩, List.mem_of_getElem? (i := 544) (by decide +kernel), List.mem_of_getElem? (i := 692) (by decide +kernel), List.mem_of_getElem? (i := 693) (by decide +kernel)⟩
theorem lw_p27 : lw_okq (⟨"EqualMethodsModel", "isNumber", "(I)Z"⟩, 42) := ⟨⟨by decide +kernel, by decide +kernel⟩, List.mem_of_getElem? (i := 544) (by decide +kernel), List.mem_of_getElem? (i := 699) (by decide +kernel), List.mem_of_getElem? (i := 700) (by decide +kernel)⟩
theorem lw_p28 : lw_okq (⟨"EqualMethodsModel", "play", "(IIIII)V"⟩, 42) := ⟨⟨by decide +kernel, by decide +kernel⟩, List.mem_of_getElem? (i := 544) (by decide +kernel), List.mem_of_getElem? (i := 711) (by decide +kernel), List.mem_of_getElem? (i := 712) (by decide +kernel)⟩
theorem lw_p29 : lw_okq (⟨"EqualMethodsModel", "enter", "(IIII)V"⟩, 42) := ⟨⟨by decide +kernel, by decide +kernel⟩, List.mem_of_getElem? (i := 544) (by decide +kernel), List.mem_of_getElem? (i := 715) (by decide +kernel), List.mem_of_getElem? (i := 716) (by decide +kernel)⟩
theorem lw_p30 : lw_okq (⟨"EqualMethodsModel", "returns", "(I)V"⟩, 42) := ⟨⟨by decide +kernel, by decide +kernel⟩, List.mem_of_getElem? (i := 544) (by decide +kernel), List.mem_of_getElem? (i := 719) (by decide +kernel), List.mem_of_getElem? (i := 720) (by decide +kernel)⟩
theorem lw_p31 : lw_okq (⟨"EqualMethodsModel", "act", "(III)V"⟩, 42) := ⟨⟨by decide +kernel, by decide +kernel⟩, List.mem_of_getElem? (i := 544) (by decide +kernel), List.mem_of_getElem? (i := 723) (by decide +kernel), List.mem_of_getElem? (i := 724) (by decide +kernel)⟩
def lw_privs_2 : List (MethodName × Nat) := [(⟨"EqualMethods", "held", "(II)I"⟩, 17), (⟨"EqualMethods", "runBoth", "(IIII)Z"⟩, 17), (⟨"EqualMethods", "runsAlike", "(LEqualMethods$Ports;)Z"⟩, 17), (⟨"EqualMethods$Ports", "alikeIn", "(ILEqualMethods$Trace;ILEqualMethods$Trace;II)Z"⟩, 3), (⟨"EqualMethods$Ports", "nextIn", "(ILEqualMethods$Trace;II)I"⟩, 3), (⟨"EqualMethods", "stillAlike", "(IZ)I"⟩, 17), (⟨"EqualMethods", "proveInputs", "(III)V"⟩, 17), (⟨"EqualMethods", "walksAnswer", "()I"⟩, 17), (⟨"EqualMethods", "callingsAlike", "(LEqualMethods$Trace;LEqualMethods$Trace;)Z"⟩, 17), (⟨"EqualMethodsModel", "isMethod", "(II)Z"⟩, 42), (⟨"EqualMethodsModel", "isRight", "(IIII)Z"⟩, 42), (⟨"EqualMethodsModel", "isNumber", "(I)Z"⟩, 42), (⟨"EqualMethodsModel", "play", "(IIIII)V"⟩, 42), (⟨"EqualMethodsModel", "enter", "(IIII)V"⟩, 42), (⟨"EqualMethodsModel", "returns", "(I)V"⟩, 42), (⟨"EqualMethodsModel", "act", "(III)V"⟩, 42)]
theorem lw_r2 : ∀ q ∈ lw_privs_2, lw_okq q := List.forall_mem_cons.mpr ⟨lw_p16, List.forall_mem_cons.mpr ⟨lw_p17, List.forall_mem_cons.mpr ⟨lw_p18, List.forall_mem_cons.mpr ⟨lw_p19, List.forall_mem_cons.mpr ⟨lw_p20, List.forall_mem_cons.mpr ⟨lw_p21, List.forall_mem_cons.mpr ⟨lw_p22, List.forall_mem_cons.mpr ⟨lw_p23, List.forall_mem_cons.mpr ⟨lw_p24, List.forall_mem_cons.mpr ⟨lw_p25, List.forall_mem_cons.mpr ⟨lw_p26, List.forall_mem_cons.mpr ⟨lw_p27, List.forall_mem_cons.mpr ⟨lw_p28, List.forall_mem_cons.mpr ⟨lw_p29, List.forall_mem_cons.mpr ⟨lw_p30, List.forall_mem_cons.mpr ⟨lw_p31, fun _ h => absurd h List.not_mem_nil⟩⟩⟩⟩⟩⟩⟩⟩⟩⟩⟩⟩⟩⟩⟩⟩
theorem lw_p32 : lw_okq (⟨"EqualMethodsModel", "tell", "(II)V"⟩, 42) := ⟨⟨by decide +kernel, by decide +kernel⟩, List.mem_of_getElem? (i := 544) (by decide +kernel), List.mem_of_getElem? (i := 727) (by decide +kernel), List.mem_of_getElem? (i := 728) (by decide +kernel)⟩
theorem lw_p33 : lw_okq (⟨"EqualMethodsModel", "calls", "(III)V"⟩, 42) := ⟨⟨by decide +kernel, by decide +kernel⟩, List.mem_of_getElem? (i := 544) (by decide +kernel), List.mem_of_getElem? (i := 731) (by decide +kernel), List.mem_of_getElem? (i := 732) (by decide +kernel)⟩
theorem lw_p34 : lw_okq (⟨"EqualMethodsModel", "throwsOut", "(II)V"⟩, 42) := ⟨⟨by decide +kernel, by decide +kernel⟩, List.mem_of_getElem? (i := 544) (by decide +kernel), List.mem_of_getElem? (i := 735) (by decide +kernel), List.mem_of_getElem? (i := 736) (by decide +kernel)⟩
theorem lw_p35 : lw_okq (⟨"EqualMethodsModel", "held", "(II)I"⟩, 42) := ⟨⟨by decide +kernel, by decide +kernel⟩, List.mem_of_getElem? (i := 544) (by decide +kernel), List.mem_of_getElem? (i := 762) (by decide +kernel), List.mem_of_getElem? (i := 763) (by decide +kernel)⟩
theorem lw_p36 : lw_okq (⟨"EqualMethodsModel", "areLike", "()Z"⟩, 42) := ⟨⟨by decide +kernel, by decide +kernel⟩, List.mem_of_getElem? (i := 544) (by decide +kernel), List.mem_of_getElem? (i := 766) (by decide +kernel), List.mem_of_getElem? (i := 767) (by decide +kernel)⟩
theorem lw_p37 : lw_okq (⟨"EqualMethodsModel", "isPair", "(II)Z"⟩, 42) := ⟨⟨by decide +kernel, by decide +kernel⟩, List.mem_of_getElem? (i := 544) (by decide +kernel), List.mem_of_getElem? (i := 770) (by decide +kernel), List.mem_of_getElem? (i := 771) (by decide +kernel)⟩
theorem lw_p38 : lw_okq (⟨"EqualMethodsModel", "areTellsLike", "(II)Z"⟩, 42) := ⟨⟨by decide +kernel, by decide +kernel⟩, List.mem_of_getElem? (i := 544) (by decide +kernel), List.mem_of_getElem? (i := 774) (by decide +kernel), List.mem_of_getElem? (i := 775) (by decide +kernel)⟩
theorem lw_p39 : lw_okq (⟨"EqualMethodsModel", "next", "(IIII)I"⟩, 42) := ⟨⟨by decide +kernel, by decide +kernel⟩, List.mem_of_getElem? (i := 544) (by decide +kernel), List.mem_of_getElem? (i := 778) (by decide +kernel), List.mem_of_getElem? (i := 779) (by decide +kernel)⟩
theorem lw_p40 : lw_okq (⟨"EqualMethodsModel", "portOf", "(I)I"⟩, 42) := ⟨⟨by decide +kernel, by decide +kernel⟩, List.mem_of_getElem? (i := 544) (by decide +kernel), List.mem_of_getElem? (i := 782) (by decide +kernel), List.mem_of_getElem? (i := 783) (by decide +kernel)⟩
theorem lw_p41 : lw_okq (⟨"EqualMethodsModel", "renames", "(I)Z"⟩, 42) := ⟨⟨by decide +kernel, by decide +kernel⟩, List.mem_of_getElem? (i := 544) (by decide +kernel), List.mem_of_getElem? (i := 798) (by decide +kernel), List.mem_of_getElem? (i := 799) (by decide +kernel)⟩
theorem lw_p42 : lw_okq (⟨"EqualMethodsModel", "proved", "(II)I"⟩, 42) := ⟨⟨by decide +kernel, by decide +kernel⟩, List.mem_of_getElem? (i := 544) (by decide +kernel), List.mem_of_getElem? (i := 814) (by decide +kernel), List.mem_of_getElem? (i := 815) (by decide +kernel)⟩
theorem lw_p43 : lw_okq (⟨"EqualMethodsModel", "walks", "(III)I"⟩, 42) := ⟨⟨by decide +kernel, by decide +kernel⟩, List.mem_of_getElem? (i := 544) (by decide +kernel), List.mem_of_getElem? (i := 818) (by decide +kernel), List.mem_of_getElem? (i := 819) (by decide +kernel)⟩
theorem lw_p44 : lw_okq (⟨"EqualMethodsModel", "tells", "(III)V"⟩, 42) := ⟨⟨by decide +kernel, by decide +kernel⟩, List.mem_of_getElem? (i := 544) (by decide +kernel), List.mem_of_getElem? (i := 822) (by decide +kernel), List.mem_of_getElem? (i := 823) (by decide +kernel)⟩
def lw_privs_3 : List (MethodName × Nat) := [(⟨"EqualMethodsModel", "tell", "(II)V"⟩, 42), (⟨"EqualMethodsModel", "calls", "(III)V"⟩, 42), (⟨"EqualMethodsModel", "throwsOut", "(II)V"⟩, 42), (⟨"EqualMethodsModel", "held", "(II)I"⟩, 42), (⟨"EqualMethodsModel", "areLike", "()Z"⟩, 42), (⟨"EqualMethodsModel", "isPair", "(II)Z"⟩, 42), (⟨"EqualMethodsModel", "areTellsLike", "(II)Z"⟩, 42), (⟨"EqualMethodsModel", "next", "(IIII)I"⟩, 42), (⟨"EqualMethodsModel", "portOf", "(I)I"⟩, 42), (⟨"EqualMethodsModel", "renames", "(I)Z"⟩, 42), (⟨"EqualMethodsModel", "proved", "(II)I"⟩, 42), (⟨"EqualMethodsModel", "walks", "(III)I"⟩, 42), (⟨"EqualMethodsModel", "tells", "(III)V"⟩, 42)]
theorem lw_r3 : ∀ q ∈ lw_privs_3, lw_okq q := List.forall_mem_cons.mpr ⟨lw_p32, List.forall_mem_cons.mpr ⟨lw_p33, List.forall_mem_cons.mpr ⟨lw_p34, List.forall_mem_cons.mpr ⟨lw_p35, List.forall_mem_cons.mpr ⟨lw_p36, List.forall_mem_cons.mpr ⟨lw_p37, List.forall_mem_cons.mpr ⟨lw_p38, List.forall_mem_cons.mpr ⟨lw_p39, List.forall_mem_cons.mpr ⟨lw_p40, List.forall_mem_cons.mpr ⟨lw_p41, List.forall_mem_cons.mpr ⟨lw_p42, List.forall_mem_cons.mpr ⟨lw_p43, List.forall_mem_cons.mpr ⟨lw_p44, fun _ h => absurd h List.not_mem_nil⟩⟩⟩⟩⟩⟩⟩⟩⟩⟩⟩⟩⟩
def lw_privs : List (MethodName × Nat) := lw_privs_1 ++ (lw_privs_2 ++ (lw_privs_3))
def lw_tbl : List Cond := k2_sels lw_privs ++ tables_1
theorem lw_privs_ok : ∀ q ∈ lw_privs, lw_okq q := by
  show ∀ q ∈ lw_privs_1 ++ (lw_privs_2 ++ (lw_privs_3)), lw_okq q
  exact List.forall_mem_append.mpr ⟨lw_r1, List.forall_mem_append.mpr ⟨lw_r2, lw_r3⟩⟩
end
section
/-! ===== BEGIN words of one list among another's, by their places ===== -/
theorem goodIn_r {big : List Cond} (ws : List Cond) (ps : List Nat) (hp : ws = ps.filterMap (fun i => big[i]?)) (h : ws.all goodWord = true) : GoodIn big ws := by
  intro w hw
  have h1 := List.all_eq_true.mp h w hw
  rw [hp] at hw
  obtain ⟨i, -, hi⟩ := List.mem_filterMap.mp hw
  have hm : w ∈ big := by first | exact List.mem_of_getElem? hi | exact List.getElem?_mem hi
  exact ⟨hm, good_of_word h1⟩
theorem goodIn_app {big a b : List Cond} (ha : GoodIn big a) (hb : GoodIn big b) : GoodIn big (a ++ b) := fun w h => (List.mem_append.mp h).elim (ha w) (hb w)
theorem goodIn_ca {big a b : List Cond} {c : Cond} (ha : GoodIn big (c :: a)) (hb : GoodIn big b) : GoodIn big (c :: (a ++ b)) := fun w h => (List.mem_cons.mp h).elim (fun e => ha w (List.mem_cons.mpr (Or.inl e))) (fun h => (List.mem_append.mp h).elim (fun h => ha w (List.mem_cons.mpr (Or.inr h))) (hb w))
theorem goodIn_sub {big ws : List Cond} (hm : ∀ w ∈ ws, w ∈ big) (h : ws.all goodWord = true) : GoodIn big ws := fun w hw => ⟨hm w hw, good_of_word (List.all_eq_true.mp h w hw)⟩
/-! ===== END ===== -/

/-! ===== BEGIN printed: names, fields, word lists, decode rows ===== -/
def RX0 : String := "EqualMethods$Build"
def TX0 : u_T := fun k => match k with
  | 0 => ("EqualMethods$Build", "methods", "I", false)
  | 1 => ("EqualMethods$Build", "sizes", "[I", true)
  | 2 => ("EqualMethods$Build", "ops", "[I", true)
  | 3 => ("EqualMethods$Build", "as", "[I", true)
  | 4 => ("EqualMethods$Build", "bs", "[I", true)
  | _ => ("EqualMethods$Build", "cs", "[I", true)
def tyX0 : Nat → FieldType := fun k => match k with
  | 0 => .int
  | 1 => .array .int
  | 2 => .array .int
  | 3 => .array .int
  | 4 => .array .int
  | _ => .array .int
abbrev wsX00 : List Cond := u_ws RX0 TX0 6
theorem nmX0 : ∀ a, a < 6 → ∀ b, b < 6 → a ≠ b → (TX0 a).2.1 ≠ (TX0 b).2.1 := by decide +kernel
theorem tyX0_ok : ∀ k, k < 6 → parseFieldDescriptor (TX0 k).2.2.1 = some (tyX0 k) := by decide +kernel
abbrev cX0_init : ByteArray := prog_2_method_1_code
def yX0_init : MethodName := ⟨RX0, "<init>", "()V"⟩
abbrev cX0_has : ByteArray := prog_2_method_2_code
def yX0_has : MethodName := ⟨RX0, "has", "(I)Z"⟩
abbrev cX0_addMethod : ByteArray := prog_2_method_3_code
def yX0_addMethod : MethodName := ⟨RX0, "addMethod", "()I"⟩
abbrev cX0_addOp : ByteArray := prog_2_method_4_code
def yX0_addOp : MethodName := ⟨RX0, "addOp", "(IIIII)I"⟩
abbrev cX0_removeOps : ByteArray := prog_2_method_5_code
def yX0_removeOps : MethodName := ⟨RX0, "removeOps", "(I)I"⟩
abbrev cX0_placeOf : ByteArray := prog_2_method_6_code
def yX0_placeOf : MethodName := ⟨RX0, "placeOf", "(II)I"⟩
def RX1 : String := "EqualMethods$Machine"
def TX1 : u_T := fun k => match k with
  | 0 => ("EqualMethods$Machine", "trace", "LEqualMethods$Trace;", true)
  | 1 => ("EqualMethods$Machine", "mask", "I", true)
  | 2 => ("EqualMethods$Machine", "registers", "[I", true)
  | 3 => ("EqualMethods$Machine", "lines", "[I", true)
  | 4 => ("EqualMethods$Machine", "methods", "[I", true)
  | 5 => ("EqualMethods$Machine", "answers", "[I", true)
  | 6 => ("EqualMethods$Machine", "walking", "Z", true)
  | 7 => ("EqualMethods$Machine", "build", "LEqualMethods$Build;", false)
  | _ => ("EqualMethods$Machine", "underWay", "I", false)
def tyX1 : Nat → FieldType := fun k => match k with
  | 0 => .object "EqualMethods$Trace"
  | 1 => .int
  | 2 => .array .int
  | 3 => .array .int
  | 4 => .array .int
  | 5 => .array .int
  | 6 => .boolean
  | 7 => .object "EqualMethods$Build"
  | _ => .int
abbrev wsX10 : List Cond := u_ws RX1 TX1 9
theorem nmX1 : ∀ a, a < 9 → ∀ b, b < 9 → a ≠ b → (TX1 a).2.1 ≠ (TX1 b).2.1 := by decide +kernel
theorem tyX1_ok : ∀ k, k < 9 → parseFieldDescriptor (TX1 k).2.2.1 = some (tyX1 k) := by decide +kernel
abbrev cX1_init : ByteArray := prog_3_method_1_code
def yX1_init : MethodName := ⟨RX1, "<init>", "(LEqualMethods$Build;IZ)V"⟩
abbrev cX1_turnTo : ByteArray := prog_3_method_2_code
def yX1_turnTo : MethodName := ⟨RX1, "turnTo", "(LEqualMethods$Build;)V"⟩
abbrev cX1_takeAnswers : ByteArray := prog_3_method_3_code
def yX1_takeAnswers : MethodName := ⟨RX1, "takeAnswers", "(II)V"⟩
abbrev cX1_go : ByteArray := prog_3_method_4_code
def yX1_go : MethodName := ⟨RX1, "go", "(III)V"⟩
abbrev cX1_placeOfTop : ByteArray := prog_3_method_5_code
def yX1_placeOfTop : MethodName := ⟨RX1, "placeOfTop", "()I"⟩
abbrev cX1_isSpentBy : ByteArray := prog_3_method_6_code
def yX1_isSpentBy : MethodName := ⟨RX1, "isSpentBy", "(I)Z"⟩
abbrev cX1_perform : ByteArray := prog_3_method_7_code
def yX1_perform : MethodName := ⟨RX1, "perform", "(I)V"⟩
abbrev cX1_calculate : ByteArray := prog_3_method_8_code
def yX1_calculate : MethodName := ⟨RX1, "calculate", "(IIII)V"⟩
abbrev cX1_result : ByteArray := prog_3_method_9_code
def yX1_result : MethodName := ⟨RX1, "result", "(III)I"⟩
abbrev cX1_ask : ByteArray := prog_3_method_10_code
def yX1_ask : MethodName := ⟨RX1, "ask", "(IIII)V"⟩
abbrev cX1_answer : ByteArray := prog_3_method_11_code
def yX1_answer : MethodName := ⟨RX1, "answer", "(IIII)V"⟩
abbrev cX1_enter : ByteArray := prog_3_method_12_code
def yX1_enter : MethodName := ⟨RX1, "enter", "(III)V"⟩
abbrev cX1_giveBack : ByteArray := prog_3_method_13_code
def yX1_giveBack : MethodName := ⟨RX1, "giveBack", "(I)V"⟩
abbrev cX1_stop : ByteArray := prog_3_method_14_code
def yX1_stop : MethodName := ⟨RX1, "stop", "(III)V"⟩
abbrev cX1_get : ByteArray := prog_3_method_15_code
def yX1_get : MethodName := ⟨RX1, "get", "(I)I"⟩
abbrev cX1_put : ByteArray := prog_3_method_16_code
def yX1_put : MethodName := ⟨RX1, "put", "(II)V"⟩
def RX2 : String := "EqualMethods$Pairs"
def TX2 : u_T := fun k => match k with
  | 0 => ("EqualMethods$Pairs", "size", "I", false)
  | 1 => ("EqualMethods$Pairs", "as", "[I", true)
  | _ => ("EqualMethods$Pairs", "bs", "[I", true)
def tyX2 : Nat → FieldType := fun k => match k with
  | 0 => .int
  | 1 => .array .int
  | _ => .array .int
abbrev wsX20 : List Cond := u_ws RX2 TX2 3
theorem nmX2 : ∀ a, a < 3 → ∀ b, b < 3 → a ≠ b → (TX2 a).2.1 ≠ (TX2 b).2.1 := by decide +kernel
theorem tyX2_ok : ∀ k, k < 3 → parseFieldDescriptor (TX2 k).2.2.1 = some (tyX2 k) := by decide +kernel
abbrev cX2_init : ByteArray := prog_4_method_1_code
def yX2_init : MethodName := ⟨RX2, "<init>", "()V"⟩
abbrev cX2_has : ByteArray := prog_4_method_2_code
def yX2_has : MethodName := ⟨RX2, "has", "(II)Z"⟩
abbrev cX2_add : ByteArray := prog_4_method_3_code
def yX2_add : MethodName := ⟨RX2, "add", "(II)I"⟩
def RX3 : String := "EqualMethods$Ports"
def TX3 : u_T := fun k => match k with
  | 0 => ("EqualMethods$Ports", "standsFor", "[I", true)
  | 1 => ("EqualMethods$Ports", "groups", "[I", true)
  | _ => ("EqualMethods$Ports", "standsIn", "[I", true)
def tyX3 : Nat → FieldType := fun k => match k with
  | 0 => .array .int
  | 1 => .array .int
  | _ => .array .int
abbrev wsX30 : List Cond := u_ws RX3 TX3 3
theorem nmX3 : ∀ a, a < 3 → ∀ b, b < 3 → a ≠ b → (TX3 a).2.1 ≠ (TX3 b).2.1 := by decide +kernel
theorem tyX3_ok : ∀ k, k < 3 → parseFieldDescriptor (TX3 k).2.2.1 = some (tyX3 k) := by decide +kernel
abbrev cX3_init : ByteArray := prog_5_method_1_code
def yX3_init : MethodName := ⟨RX3, "<init>", "()V"⟩
abbrev cX3_swapIn : ByteArray := prog_5_method_2_code
def yX3_swapIn : MethodName := ⟨RX3, "swapIn", "(II)I"⟩
abbrev cX3_takeNames : ByteArray := prog_5_method_3_code
def yX3_takeNames : MethodName := ⟨RX3, "takeNames", "(I)V"⟩
abbrev cX3_takeGroups : ByteArray := prog_5_method_4_code
def yX3_takeGroups : MethodName := ⟨RX3, "takeGroups", "(LEqualMethods$Ports;)V"⟩
abbrev cX3_name : ByteArray := prog_5_method_5_code
def yX3_name : MethodName := ⟨RX3, "name", "(II)V"⟩
abbrev cX3_alike : ByteArray := prog_5_method_6_code
def yX3_alike : MethodName := ⟨RX3, "alike", "(LEqualMethods$Trace;IILEqualMethods$Trace;II)Z"⟩
abbrev cX3_alikeIn : ByteArray := prog_5_method_7_code
def yX3_alikeIn : MethodName := ⟨RX3, "alikeIn", "(ILEqualMethods$Trace;ILEqualMethods$Trace;II)Z"⟩
abbrev cX3_nextIn : ByteArray := prog_5_method_8_code
def yX3_nextIn : MethodName := ⟨RX3, "nextIn", "(ILEqualMethods$Trace;II)I"⟩
def RX4 : String := "EqualMethods$Proof"
def TX4 : u_T := fun k => match k with
  | 0 => ("EqualMethods$Proof", "answer", "I", false)
  | _ => ("EqualMethods$Proof", "place", "[I", true)
def tyX4 : Nat → FieldType := fun k => match k with
  | 0 => .int
  | _ => .array .int
abbrev wsX40 : List Cond := u_ws RX4 TX4 2
theorem nmX4 : ∀ a, a < 2 → ∀ b, b < 2 → a ≠ b → (TX4 a).2.1 ≠ (TX4 b).2.1 := by decide +kernel
theorem tyX4_ok : ∀ k, k < 2 → parseFieldDescriptor (TX4 k).2.2.1 = some (tyX4 k) := by decide +kernel
abbrev cX4_init : ByteArray := prog_6_method_1_code
def yX4_init : MethodName := ⟨RX4, "<init>", "()V"⟩
abbrev cX4_begin : ByteArray := prog_6_method_2_code
def yX4_begin : MethodName := ⟨RX4, "begin", "(I)V"⟩
abbrev cX4_yieldsTo : ByteArray := prog_6_method_3_code
def yX4_yieldsTo : MethodName := ⟨RX4, "yieldsTo", "(I)Z"⟩
abbrev cX4_keep : ByteArray := prog_6_method_4_code
def yX4_keep : MethodName := ⟨RX4, "keep", "(IIIIII)V"⟩
def RX5 : String := "EqualMethods$Trace"
def TX5 : u_T := fun k => match k with
  | 0 => ("EqualMethods$Trace", "end", "I", false)
  | 1 => ("EqualMethods$Trace", "kind", "I", false)
  | 2 => ("EqualMethods$Trace", "number", "I", false)
  | 3 => ("EqualMethods$Trace", "ops", "I", false)
  | 4 => ("EqualMethods$Trace", "deepest", "I", false)
  | 5 => ("EqualMethods$Trace", "tells", "I", false)
  | 6 => ("EqualMethods$Trace", "tellPorts", "[I", true)
  | 7 => ("EqualMethods$Trace", "tellNumbers", "[I", true)
  | 8 => ("EqualMethods$Trace", "callings", "I", false)
  | 9 => ("EqualMethods$Trace", "called", "[I", true)
  | 10 => ("EqualMethods$Trace", "calledX", "[I", true)
  | 11 => ("EqualMethods$Trace", "calledY", "[I", true)
  | _ => ("EqualMethods$Trace", "tellsAhead", "[I", true)
def tyX5 : Nat → FieldType := fun k => match k with
  | 0 => .int
  | 1 => .int
  | 2 => .int
  | 3 => .int
  | 4 => .int
  | 5 => .int
  | 6 => .array .int
  | 7 => .array .int
  | 8 => .int
  | 9 => .array .int
  | 10 => .array .int
  | 11 => .array .int
  | _ => .array .int
abbrev wsX50 : List Cond := u_ws RX5 TX5 13
theorem nmX5 : ∀ a, a < 13 → ∀ b, b < 13 → a ≠ b → (TX5 a).2.1 ≠ (TX5 b).2.1 := by decide +kernel
theorem tyX5_ok : ∀ k, k < 13 → parseFieldDescriptor (TX5 k).2.2.1 = some (tyX5 k) := by decide +kernel
abbrev cX5_init : ByteArray := prog_7_method_1_code
def yX5_init : MethodName := ⟨RX5, "<init>", "()V"⟩
abbrev cX5_forget : ByteArray := prog_7_method_2_code
def yX5_forget : MethodName := ⟨RX5, "forget", "()V"⟩
abbrev cX5_finish : ByteArray := prog_7_method_3_code
def yX5_finish : MethodName := ⟨RX5, "finish", "(III)V"⟩
abbrev cX5_addTell : ByteArray := prog_7_method_4_code
def yX5_addTell : MethodName := ⟨RX5, "addTell", "(II)V"⟩
abbrev cX5_addCalling : ByteArray := prog_7_method_5_code
def yX5_addCalling : MethodName := ⟨RX5, "addCalling", "(III)V"⟩
abbrev cX5_endsLike : ByteArray := prog_7_method_6_code
def yX5_endsLike : MethodName := ⟨RX5, "endsLike", "(LEqualMethods$Trace;)Z"⟩
abbrev cX5_sameInputs : ByteArray := prog_7_method_7_code
def yX5_sameInputs : MethodName := ⟨RX5, "sameInputs", "(LEqualMethods$Trace;I)Z"⟩
def RX6 : String := "EqualMethods"
def TX6 : u_T := fun k => match k with
  | 0 => ("EqualMethods", "bits", "I", true)
  | 1 => ("EqualMethods", "mask", "I", true)
  | 2 => ("EqualMethods", "build0", "LEqualMethods$Build;", true)
  | 3 => ("EqualMethods", "build1", "LEqualMethods$Build;", true)
  | 4 => ("EqualMethods", "ports", "LEqualMethods$Ports;", true)
  | 5 => ("EqualMethods", "tried", "LEqualMethods$Ports;", true)
  | 6 => ("EqualMethods", "pairs", "LEqualMethods$Pairs;", true)
  | 7 => ("EqualMethods", "proof", "LEqualMethods$Proof;", true)
  | 8 => ("EqualMethods", "shown", "LEqualMethods$Machine;", true)
  | 9 => ("EqualMethods", "run0", "LEqualMethods$Machine;", true)
  | 10 => ("EqualMethods", "run1", "LEqualMethods$Machine;", true)
  | 11 => ("EqualMethods", "walk0", "LEqualMethods$Machine;", true)
  | 12 => ("EqualMethods", "walk1", "LEqualMethods$Machine;", true)
  | 13 => ("EqualMethods", "unlikeX", "I", false)
  | 14 => ("EqualMethods", "unlikeY", "I", false)
  | 15 => ("EqualMethods", "firstX", "I", false)
  | _ => ("EqualMethods", "firstY", "I", false)
def tyX6 : Nat → FieldType := fun k => match k with
  | 0 => .int
  | 1 => .int
  | 2 => .object "EqualMethods$Build"
  | 3 => .object "EqualMethods$Build"
  | 4 => .object "EqualMethods$Ports"
  | 5 => .object "EqualMethods$Ports"
  | 6 => .object "EqualMethods$Pairs"
  | 7 => .object "EqualMethods$Proof"
  | 8 => .object "EqualMethods$Machine"
  | 9 => .object "EqualMethods$Machine"
  | 10 => .object "EqualMethods$Machine"
  | 11 => .object "EqualMethods$Machine"
  | 12 => .object "EqualMethods$Machine"
  | 13 => .int
  | 14 => .int
  | 15 => .int
  | _ => .int
abbrev wsX60 : List Cond := u_ws RX6 TX6 17
theorem nmX6 : ∀ a, a < 17 → ∀ b, b < 17 → a ≠ b → (TX6 a).2.1 ≠ (TX6 b).2.1 := by decide +kernel
theorem tyX6_ok : ∀ k, k < 17 → parseFieldDescriptor (TX6 k).2.2.1 = some (tyX6 k) := by decide +kernel
abbrev cX6_init : ByteArray := prog_1_method_1_code
def yX6_init : MethodName := ⟨RX6, "<init>", "(I)V"⟩
abbrev cX6_method : ByteArray := prog_1_method_2_code
def yX6_method : MethodName := ⟨RX6, "method", "(I)I"⟩
abbrev cX6_op : ByteArray := prog_1_method_3_code
def yX6_op : MethodName := ⟨RX6, "op", "(IIIIII)I"⟩
abbrev cX6_clear : ByteArray := prog_1_method_4_code
def yX6_clear : MethodName := ⟨RX6, "clear", "(II)I"⟩
abbrev cX6_run : ByteArray := prog_1_method_5_code
def yX6_run : MethodName := ⟨RX6, "run", "(IIII)I"⟩
abbrev cX6_ran : ByteArray := prog_1_method_6_code
def yX6_ran : MethodName := ⟨RX6, "ran", "(I)I"⟩
abbrev cX6_told : ByteArray := prog_1_method_7_code
def yX6_told : MethodName := ⟨RX6, "told", "(II)I"⟩
abbrev cX6_rename : ByteArray := prog_1_method_8_code
def yX6_rename : MethodName := ⟨RX6, "rename", "(II)I"⟩
abbrev cX6_group : ByteArray := prog_1_method_9_code
def yX6_group : MethodName := ⟨RX6, "group", "(II)I"⟩
abbrev cX6_hold : ByteArray := prog_1_method_10_code
def yX6_hold : MethodName := ⟨RX6, "hold", "(II)I"⟩
abbrev cX6_first : ByteArray := prog_1_method_11_code
def yX6_first : MethodName := ⟨RX6, "first", "(I)I"⟩
abbrev cX6_match : ByteArray := prog_1_method_12_code
def yX6_match : MethodName := ⟨RX6, "match", "(I)I"⟩
abbrev cX6_find : ByteArray := prog_1_method_13_code
def yX6_find : MethodName := ⟨RX6, "find", "(II)I"⟩
abbrev cX6_assume : ByteArray := prog_1_method_14_code
def yX6_assume : MethodName := ⟨RX6, "assume", "(II)I"⟩
abbrev cX6_drop : ByteArray := prog_1_method_15_code
def yX6_drop : MethodName := ⟨RX6, "drop", "()I"⟩
abbrev cX6_prove : ByteArray := prog_1_method_16_code
def yX6_prove : MethodName := ⟨RX6, "prove", "()I"⟩
abbrev cX6_why : ByteArray := prog_1_method_17_code
def yX6_why : MethodName := ⟨RX6, "why", "(I)I"⟩
abbrev cX6_count : ByteArray := prog_1_method_18_code
def yX6_count : MethodName := ⟨RX6, "count", "(I)I"⟩
abbrev cX6_within : ByteArray := prog_1_method_19_code
def yX6_within : MethodName := ⟨RX6, "within", "(III)Z"⟩
abbrev cX6_buildOf : ByteArray := prog_1_method_20_code
def yX6_buildOf : MethodName := ⟨RX6, "buildOf", "(I)LEqualMethods$Build;"⟩
abbrev cX6_isMethod : ByteArray := prog_1_method_21_code
def yX6_isMethod : MethodName := ⟨RX6, "isMethod", "(II)Z"⟩
abbrev cX6_isPair : ByteArray := prog_1_method_22_code
def yX6_isPair : MethodName := ⟨RX6, "isPair", "(II)Z"⟩
abbrev cX6_fits : ByteArray := prog_1_method_23_code
def yX6_fits : MethodName := ⟨RX6, "fits", "(III)Z"⟩
abbrev cX6_runBoth : ByteArray := prog_1_method_24_code
def yX6_runBoth : MethodName := ⟨RX6, "runBoth", "(IIII)Z"⟩
abbrev cX6_held : ByteArray := prog_1_method_25_code
def yX6_held : MethodName := ⟨RX6, "held", "(II)I"⟩
abbrev cX6_runsAlike : ByteArray := prog_1_method_26_code
def yX6_runsAlike : MethodName := ⟨RX6, "runsAlike", "(LEqualMethods$Ports;)Z"⟩
abbrev cX6_stillAlike : ByteArray := prog_1_method_27_code
def yX6_stillAlike : MethodName := ⟨RX6, "stillAlike", "(IZ)I"⟩
abbrev cX6_proveInputs : ByteArray := prog_1_method_28_code
def yX6_proveInputs : MethodName := ⟨RX6, "proveInputs", "(III)V"⟩
abbrev cX6_walksAnswer : ByteArray := prog_1_method_29_code
def yX6_walksAnswer : MethodName := ⟨RX6, "walksAnswer", "()I"⟩
abbrev cX6_callingsAlike : ByteArray := prog_1_method_30_code
def yX6_callingsAlike : MethodName := ⟨RX6, "callingsAlike", "(LEqualMethods$Trace;LEqualMethods$Trace;)Z"⟩
def RX7 : String := "EqualMethodsModel"
def TX7 : u_T := fun k => match k with
  | 0 => ("EqualMethodsModel", "bits", "I", true)
  | 1 => ("EqualMethodsModel", "mask", "I", true)
  | 2 => ("EqualMethodsModel", "methods", "[I", true)
  | 3 => ("EqualMethodsModel", "sizes", "[I", true)
  | 4 => ("EqualMethodsModel", "ops", "[I", true)
  | 5 => ("EqualMethodsModel", "as", "[I", true)
  | 6 => ("EqualMethodsModel", "bs", "[I", true)
  | 7 => ("EqualMethodsModel", "cs", "[I", true)
  | 8 => ("EqualMethodsModel", "stands", "[I", true)
  | 9 => ("EqualMethodsModel", "groups", "[I", true)
  | 10 => ("EqualMethodsModel", "pairs", "I", false)
  | 11 => ("EqualMethodsModel", "pairA", "[I", true)
  | 12 => ("EqualMethodsModel", "pairB", "[I", true)
  | 13 => ("EqualMethodsModel", "frames", "I", false)
  | 14 => ("EqualMethodsModel", "frameMethod", "[I", true)
  | 15 => ("EqualMethodsModel", "frameLine", "[I", true)
  | 16 => ("EqualMethodsModel", "frameTarget", "[I", true)
  | 17 => ("EqualMethodsModel", "registers", "[I", true)
  | 18 => ("EqualMethodsModel", "slot", "I", false)
  | 19 => ("EqualMethodsModel", "isWalk", "Z", false)
  | 20 => ("EqualMethodsModel", "answer0", "I", false)
  | 21 => ("EqualMethodsModel", "answer1", "I", false)
  | 22 => ("EqualMethodsModel", "end", "[I", true)
  | 23 => ("EqualMethodsModel", "kind", "[I", true)
  | 24 => ("EqualMethodsModel", "number", "[I", true)
  | 25 => ("EqualMethodsModel", "begun", "[I", true)
  | 26 => ("EqualMethodsModel", "deepest", "[I", true)
  | 27 => ("EqualMethodsModel", "tells", "[I", true)
  | 28 => ("EqualMethodsModel", "tellPort", "[I", true)
  | 29 => ("EqualMethodsModel", "tellNumber", "[I", true)
  | 30 => ("EqualMethodsModel", "tellPart", "[I", true)
  | 31 => ("EqualMethodsModel", "callings", "[I", true)
  | 32 => ("EqualMethodsModel", "calledMethod", "[I", true)
  | 33 => ("EqualMethodsModel", "calledX", "[I", true)
  | 34 => ("EqualMethodsModel", "calledY", "[I", true)
  | 35 => ("EqualMethodsModel", "unlikeX", "I", false)
  | 36 => ("EqualMethodsModel", "unlikeY", "I", false)
  | 37 => ("EqualMethodsModel", "firstX", "I", false)
  | 38 => ("EqualMethodsModel", "firstY", "I", false)
  | 39 => ("EqualMethodsModel", "kept", "[I", true)
  | 40 => ("EqualMethodsModel", "why", "[I", true)
  | _ => ("EqualMethodsModel", "isWhy", "Z", false)
def tyX7 : Nat → FieldType := fun k => match k with
  | 0 => .int
  | 1 => .int
  | 2 => .array .int
  | 3 => .array .int
  | 4 => .array .int
  | 5 => .array .int
  | 6 => .array .int
  | 7 => .array .int
  | 8 => .array .int
  | 9 => .array .int
  | 10 => .int
  | 11 => .array .int
  | 12 => .array .int
  | 13 => .int
  | 14 => .array .int
  | 15 => .array .int
  | 16 => .array .int
  | 17 => .array .int
  | 18 => .int
  | 19 => .boolean
  | 20 => .int
  | 21 => .int
  | 22 => .array .int
  | 23 => .array .int
  | 24 => .array .int
  | 25 => .array .int
  | 26 => .array .int
  | 27 => .array .int
  | 28 => .array .int
  | 29 => .array .int
  | 30 => .array .int
  | 31 => .array .int
  | 32 => .array .int
  | 33 => .array .int
  | 34 => .array .int
  | 35 => .int
  | 36 => .int
  | 37 => .int
  | 38 => .int
  | 39 => .array .int
  | 40 => .array .int
  | _ => .boolean
abbrev wsX70 : List Cond := u_ws RX7 TX7 42
theorem nmX7 : ∀ a, a < 42 → ∀ b, b < 42 → a ≠ b → (TX7 a).2.1 ≠ (TX7 b).2.1 := by decide +kernel
theorem tyX7_ok : ∀ k, k < 42 → parseFieldDescriptor (TX7 k).2.2.1 = some (tyX7 k) := by decide +kernel
abbrev cX7_init : ByteArray := prog_9_method_1_code
def yX7_init : MethodName := ⟨RX7, "<init>", "(I)V"⟩
abbrev cX7_in : ByteArray := prog_9_method_3_code
def yX7_in : MethodName := ⟨RX7, "in", "(III)Z"⟩
abbrev cX7_isMethod : ByteArray := prog_9_method_4_code
def yX7_isMethod : MethodName := ⟨RX7, "isMethod", "(II)Z"⟩
abbrev cX7_isNumber : ByteArray := prog_9_method_5_code
def yX7_isNumber : MethodName := ⟨RX7, "isNumber", "(I)Z"⟩
abbrev cX7_method : ByteArray := prog_9_method_6_code
def yX7_method : MethodName := ⟨RX7, "method", "(I)I"⟩
abbrev cX7_isRegister : ByteArray := prog_9_method_7_code
def yX7_isRegister : MethodName := ⟨RX7, "isRegister", "(I)Z"⟩
abbrev cX7_isRight : ByteArray := prog_9_method_8_code
def yX7_isRight : MethodName := ⟨RX7, "isRight", "(IIII)Z"⟩
abbrev cX7_op : ByteArray := prog_9_method_9_code
def yX7_op : MethodName := ⟨RX7, "op", "(IIIIII)I"⟩
abbrev cX7_clear : ByteArray := prog_9_method_10_code
def yX7_clear : MethodName := ⟨RX7, "clear", "(II)I"⟩
abbrev cX7_enter : ByteArray := prog_9_method_11_code
def yX7_enter : MethodName := ⟨RX7, "enter", "(IIII)V"⟩
abbrev cX7_returns : ByteArray := prog_9_method_12_code
def yX7_returns : MethodName := ⟨RX7, "returns", "(I)V"⟩
abbrev cX7_throwsOut : ByteArray := prog_9_method_13_code
def yX7_throwsOut : MethodName := ⟨RX7, "throwsOut", "(II)V"⟩
abbrev cX7_reckoned : ByteArray := prog_9_method_14_code
def yX7_reckoned : MethodName := ⟨RX7, "reckoned", "(III)I"⟩
abbrev cX7_calls : ByteArray := prog_9_method_15_code
def yX7_calls : MethodName := ⟨RX7, "calls", "(III)V"⟩
abbrev cX7_tell : ByteArray := prog_9_method_16_code
def yX7_tell : MethodName := ⟨RX7, "tell", "(II)V"⟩
abbrev cX7_act : ByteArray := prog_9_method_17_code
def yX7_act : MethodName := ⟨RX7, "act", "(III)V"⟩
abbrev cX7_play : ByteArray := prog_9_method_18_code
def yX7_play : MethodName := ⟨RX7, "play", "(IIIII)V"⟩
abbrev cX7_run : ByteArray := prog_9_method_19_code
def yX7_run : MethodName := ⟨RX7, "run", "(IIII)I"⟩
abbrev cX7_ran : ByteArray := prog_9_method_20_code
def yX7_ran : MethodName := ⟨RX7, "ran", "(I)I"⟩
abbrev cX7_told : ByteArray := prog_9_method_21_code
def yX7_told : MethodName := ⟨RX7, "told", "(II)I"⟩
abbrev cX7_rename : ByteArray := prog_9_method_22_code
def yX7_rename : MethodName := ⟨RX7, "rename", "(II)I"⟩
abbrev cX7_group : ByteArray := prog_9_method_23_code
def yX7_group : MethodName := ⟨RX7, "group", "(II)I"⟩
abbrev cX7_portOf : ByteArray := prog_9_method_24_code
def yX7_portOf : MethodName := ⟨RX7, "portOf", "(I)I"⟩
abbrev cX7_next : ByteArray := prog_9_method_25_code
def yX7_next : MethodName := ⟨RX7, "next", "(IIII)I"⟩
abbrev cX7_areTellsLike : ByteArray := prog_9_method_26_code
def yX7_areTellsLike : MethodName := ⟨RX7, "areTellsLike", "(II)Z"⟩
abbrev cX7_isPair : ByteArray := prog_9_method_27_code
def yX7_isPair : MethodName := ⟨RX7, "isPair", "(II)Z"⟩
abbrev cX7_areLike : ByteArray := prog_9_method_28_code
def yX7_areLike : MethodName := ⟨RX7, "areLike", "()Z"⟩
abbrev cX7_held : ByteArray := prog_9_method_29_code
def yX7_held : MethodName := ⟨RX7, "held", "(II)I"⟩
abbrev cX7_hold : ByteArray := prog_9_method_30_code
def yX7_hold : MethodName := ⟨RX7, "hold", "(II)I"⟩
abbrev cX7_first : ByteArray := prog_9_method_31_code
def yX7_first : MethodName := ⟨RX7, "first", "(I)I"⟩
abbrev cX7_match : ByteArray := prog_9_method_32_code
def yX7_match : MethodName := ⟨RX7, "match", "(I)I"⟩
abbrev cX7_renames : ByteArray := prog_9_method_33_code
def yX7_renames : MethodName := ⟨RX7, "renames", "(I)Z"⟩
abbrev cX7_find : ByteArray := prog_9_method_34_code
def yX7_find : MethodName := ⟨RX7, "find", "(II)I"⟩
abbrev cX7_assume : ByteArray := prog_9_method_35_code
def yX7_assume : MethodName := ⟨RX7, "assume", "(II)I"⟩
abbrev cX7_drop : ByteArray := prog_9_method_36_code
def yX7_drop : MethodName := ⟨RX7, "drop", "()I"⟩
abbrev cX7_walks : ByteArray := prog_9_method_37_code
def yX7_walks : MethodName := ⟨RX7, "walks", "(III)I"⟩
abbrev cX7_tells : ByteArray := prog_9_method_38_code
def yX7_tells : MethodName := ⟨RX7, "tells", "(III)V"⟩
abbrev cX7_proved : ByteArray := prog_9_method_39_code
def yX7_proved : MethodName := ⟨RX7, "proved", "(II)I"⟩
abbrev cX7_prove : ByteArray := prog_9_method_40_code
def yX7_prove : MethodName := ⟨RX7, "prove", "()I"⟩
abbrev cX7_why : ByteArray := prog_9_method_41_code
def yX7_why : MethodName := ⟨RX7, "why", "(I)I"⟩
abbrev cX7_count : ByteArray := prog_9_method_42_code
def yX7_count : MethodName := ⟨RX7, "count", "(I)I"⟩
def RJ6 : String := "java/lang/Integer"
def TJ6 : u_T := fun k => match k with
  | _ => ("", "", "", false)
def tyJ6 : Nat → FieldType := fun k => match k with
  | _ => .int
abbrev wsJ60 : List Cond := u_ws RJ6 TJ6 0
theorem nmJ6 : ∀ a, a < 0 → ∀ b, b < 0 → a ≠ b → (TJ6 a).2.1 ≠ (TJ6 b).2.1 := by decide +kernel
theorem tyJ6_ok : ∀ k, k < 0 → parseFieldDescriptor (TJ6 k).2.2.1 = some (tyJ6 k) := by decide +kernel
abbrev cJ6_numberOfTrailingZeros_0f7a4 : ByteArray := prog_10_method_48_code
def yJ6_numberOfTrailingZeros_0f7a4 : MethodName := ⟨RJ6, "numberOfTrailingZeros", "(I)I"⟩
def RJ9 : String := "java/lang/Math"
def TJ9 : u_T := fun k => match k with
  | _ => ("", "", "", false)
def tyJ9 : Nat → FieldType := fun k => match k with
  | _ => .int
abbrev wsJ90 : List Cond := u_ws RJ9 TJ9 0
theorem nmJ9 : ∀ a, a < 0 → ∀ b, b < 0 → a ≠ b → (TJ9 a).2.1 ≠ (TJ9 b).2.1 := by decide +kernel
theorem tyJ9_ok : ∀ k, k < 0 → parseFieldDescriptor (TJ9 k).2.2.1 = some (tyJ9 k) := by decide +kernel
abbrev cJ9_max_7cf53 : ByteArray := prog_11_method_65_code
def yJ9_max_7cf53 : MethodName := ⟨RJ9, "max", "(II)I"⟩
def RJ10 : String := "java/lang/System"
def TJ10 : u_T := fun k => match k with
  | _ => ("", "", "", false)
def tyJ10 : Nat → FieldType := fun k => match k with
  | _ => .int
abbrev wsJ100 : List Cond := u_ws RJ10 TJ10 0
theorem nmJ10 : ∀ a, a < 0 → ∀ b, b < 0 → a ≠ b → (TJ10 a).2.1 ≠ (TJ10 b).2.1 := by decide +kernel
theorem tyJ10_ok : ∀ k, k < 0 → parseFieldDescriptor (TJ10 k).2.2.1 = some (tyJ10 k) := by decide +kernel
def RL : String := "EqualMethodsLaw"
abbrev cL_cell : ByteArray := method_2_code
def yL_cell : MethodName := ⟨RL, "cell", "([II)I"⟩
abbrev cL_law : ByteArray := code
def yL_law : MethodName := ⟨RL, "law", "([I)Z"⟩
def wsX0_init : List Cond := .code yX0_init cX0_init 1 none :: ([.methodLink RX0 3 objectInit, .instanceMethod objectInit, .code objectInit ⟨#[0xb1]⟩ 1 none, .fieldLink RX0 9 "EqualMethods$Build" "methods" "I", .arrayClass .int, .fieldLink RX0 15 "EqualMethods$Build" "sizes" "[I", .fieldLink RX0 19 "EqualMethods$Build" "ops" "[I", .fieldLink RX0 22 "EqualMethods$Build" "as" "[I", .fieldLink RX0 25 "EqualMethods$Build" "bs" "[I", .fieldLink RX0 28 "EqualMethods$Build" "cs" "[I"] ++ wsX00)
def wsX0_has : List Cond := .code yX0_has cX0_has 2 (some .boolean) :: ([.fieldLink RX0 9 "EqualMethods$Build" "methods" "I"] ++ wsX00)
def wsX0_addMethod : List Cond := .code yX0_addMethod cX0_addMethod 1 (some .int) :: ([.fieldLink RX0 9 "EqualMethods$Build" "methods" "I"] ++ wsX00)
def wsX0_placeOf : List Cond := .code yX0_placeOf cX0_placeOf 3 (some .int) :: ([])
def wsX0_addOp : List Cond := .code yX0_addOp cX0_addOp 7 (some .int) :: ([.fieldLink RX0 15 "EqualMethods$Build" "sizes" "[I", .fieldLink RX0 19 "EqualMethods$Build" "ops" "[I", .fieldLink RX0 22 "EqualMethods$Build" "as" "[I", .fieldLink RX0 25 "EqualMethods$Build" "bs" "[I", .fieldLink RX0 28 "EqualMethods$Build" "cs" "[I", .methodLink RX0 31 yX0_placeOf, .instanceMethod yX0_placeOf, .selects RX0 yX0_placeOf yX0_placeOf, .initialized RX0, .code yX0_placeOf cX0_placeOf 3 (some .int)] ++ wsX00)
def wsX0_removeOps : List Cond := .code yX0_removeOps cX0_removeOps 3 (some .int) :: ([.fieldLink RX0 15 "EqualMethods$Build" "sizes" "[I"] ++ wsX00)
def wsX5_init : List Cond := .code yX5_init cX5_init 1 none :: ([.methodLink RX5 3 objectInit, .instanceMethod objectInit, .code objectInit ⟨#[0xb1]⟩ 1 none, .fieldLink RX5 9 "EqualMethods$Trace" "end" "I", .fieldLink RX5 15 "EqualMethods$Trace" "kind" "I", .fieldLink RX5 18 "EqualMethods$Trace" "number" "I", .fieldLink RX5 21 "EqualMethods$Trace" "ops" "I", .fieldLink RX5 24 "EqualMethods$Trace" "deepest" "I", .fieldLink RX5 27 "EqualMethods$Trace" "tells" "I", .arrayClass .int, .fieldLink RX5 30 "EqualMethods$Trace" "tellPorts" "[I", .fieldLink RX5 34 "EqualMethods$Trace" "tellNumbers" "[I", .fieldLink RX5 37 "EqualMethods$Trace" "callings" "I", .fieldLink RX5 40 "EqualMethods$Trace" "called" "[I", .fieldLink RX5 43 "EqualMethods$Trace" "calledX" "[I", .fieldLink RX5 46 "EqualMethods$Trace" "calledY" "[I", .fieldLink RX5 49 "EqualMethods$Trace" "tellsAhead" "[I"] ++ wsX50)
def wsX1_init_r1 : List Cond := [Cond.methodLink RX1 3 objectInit, Cond.instanceMethod objectInit, Cond.code objectInit ⟨#[0xb1]⟩ 1 none, Cond.classLink RX1 9 RX5, Cond.instantiable RX5 13, Cond.initialized RX5, Cond.fieldLink RX1 12 "EqualMethods$Machine" "trace" "LEqualMethods$Trace;", Cond.arrayClass .int, Cond.fieldLink RX1 18 "EqualMethods$Machine" "registers" "[I", Cond.fieldLink RX1 22 "EqualMethods$Machine" "lines" "[I", Cond.fieldLink RX1 25 "EqualMethods$Machine" "methods" "[I", Cond.fieldLink RX1 28 "EqualMethods$Machine" "answers" "[I", Cond.fieldLink RX1 31 "EqualMethods$Machine" "underWay" "I", Cond.fieldLink RX1 35 "EqualMethods$Machine" "build" "LEqualMethods$Build;", Cond.fieldLink RX1 39 "EqualMethods$Machine" "mask" "I", Cond.fieldLink RX1 42 "EqualMethods$Machine" "walking" "Z", Cond.instanceMethod yX5_init, Cond.code yX5_init cX5_init 1 none, Cond.methodLink RX5 3 objectInit, Cond.fieldLink RX5 9 "EqualMethods$Trace" "end" "I", Cond.fieldLink RX5 15 "EqualMethods$Trace" "kind" "I", Cond.fieldLink RX5 18 "EqualMethods$Trace" "number" "I", Cond.fieldLink RX5 21 "EqualMethods$Trace" "ops" "I", Cond.fieldLink RX5 24 "EqualMethods$Trace" "deepest" "I"]
def wsX1_init_r2 : List Cond := [Cond.fieldLink RX5 27 "EqualMethods$Trace" "tells" "I", Cond.fieldLink RX5 30 "EqualMethods$Trace" "tellPorts" "[I", Cond.fieldLink RX5 34 "EqualMethods$Trace" "tellNumbers" "[I", Cond.fieldLink RX5 37 "EqualMethods$Trace" "callings" "I", Cond.fieldLink RX5 40 "EqualMethods$Trace" "called" "[I", Cond.fieldLink RX5 43 "EqualMethods$Trace" "calledX" "[I", Cond.fieldLink RX5 46 "EqualMethods$Trace" "calledY" "[I", Cond.fieldLink RX5 49 "EqualMethods$Trace" "tellsAhead" "[I"]
def wsX1_init : List Cond := .code yX1_init cX1_init 4 none :: ((wsX1_init_r1 ++ wsX1_init_r2) ++ wsX50 ++ wsX10)
def wsX1_turnTo : List Cond := .code yX1_turnTo cX1_turnTo 2 none :: ([.fieldLink RX1 35 "EqualMethods$Machine" "build" "LEqualMethods$Build;"] ++ wsX10)
def wsX1_takeAnswers : List Cond := .code yX1_takeAnswers cX1_takeAnswers 3 none :: ([.fieldLink RX1 28 "EqualMethods$Machine" "answers" "[I"] ++ wsX10)
def wsX5_finish : List Cond := .code yX5_finish cX5_finish 4 none :: ([.fieldLink RX5 9 "EqualMethods$Trace" "end" "I", .fieldLink RX5 15 "EqualMethods$Trace" "kind" "I", .fieldLink RX5 18 "EqualMethods$Trace" "number" "I"] ++ wsX50)
def wsX5_forget : List Cond := .code yX5_forget cX5_forget 1 none :: ([.fieldLink RX5 21 "EqualMethods$Trace" "ops" "I", .fieldLink RX5 24 "EqualMethods$Trace" "deepest" "I", .fieldLink RX5 27 "EqualMethods$Trace" "tells" "I", .fieldLink RX5 37 "EqualMethods$Trace" "callings" "I", .methodLink RX5 52 yX5_finish, .instanceMethod yX5_finish, .selects RX5 yX5_finish yX5_finish, .initialized RX5, .code yX5_finish cX5_finish 4 none, .fieldLink RX5 9 "EqualMethods$Trace" "end" "I", .fieldLink RX5 15 "EqualMethods$Trace" "kind" "I", .fieldLink RX5 18 "EqualMethods$Trace" "number" "I"] ++ wsX50)
def wsX1_enter : List Cond := .code yX1_enter cX1_enter 6 none :: ([.fieldLink RX1 31 "EqualMethods$Machine" "underWay" "I", .fieldLink RX1 18 "EqualMethods$Machine" "registers" "[I", .fieldLink RX1 22 "EqualMethods$Machine" "lines" "[I", .fieldLink RX1 25 "EqualMethods$Machine" "methods" "[I", .fieldLink RX1 12 "EqualMethods$Machine" "trace" "LEqualMethods$Trace;", .fieldLink RX1 131 "EqualMethods$Trace" "deepest" "I"] ++ wsX10 ++ wsX50)
def wsX1_placeOfTop : List Cond := .code yX1_placeOfTop cX1_placeOfTop 1 (some .int) :: ([.fieldLink RX1 35 "EqualMethods$Machine" "build" "LEqualMethods$Build;", .fieldLink RX1 25 "EqualMethods$Machine" "methods" "[I", .fieldLink RX1 31 "EqualMethods$Machine" "underWay" "I", .fieldLink RX1 22 "EqualMethods$Machine" "lines" "[I", .methodLink RX1 79 yX0_placeOf, .instanceMethod yX0_placeOf, .selects RX0 yX0_placeOf yX0_placeOf, .initialized RX0, .code yX0_placeOf cX0_placeOf 3 (some .int)] ++ wsX10)
def wsX1_put : List Cond := .code yX1_put cX1_put 3 none :: ([.fieldLink RX1 18 "EqualMethods$Machine" "registers" "[I", .fieldLink RX1 31 "EqualMethods$Machine" "underWay" "I", .fieldLink RX1 22 "EqualMethods$Machine" "lines" "[I"] ++ wsX10)
def wsX1_giveBack_r1 : List Cond := [Cond.fieldLink RX1 31 "EqualMethods$Machine" "underWay" "I", Cond.fieldLink RX1 12 "EqualMethods$Machine" "trace" "LEqualMethods$Trace;", Cond.fieldLink RX1 35 "EqualMethods$Machine" "build" "LEqualMethods$Build;", Cond.fieldLink RX1 88 "EqualMethods$Build" "as" "[I", Cond.methodLink RX1 134 yX5_finish, Cond.instanceMethod yX5_finish, Cond.selects RX5 yX5_finish yX5_finish, Cond.initialized RX5, Cond.code yX5_finish cX5_finish 4 none, Cond.fieldLink RX5 9 "EqualMethods$Trace" "end" "I", Cond.fieldLink RX5 15 "EqualMethods$Trace" "kind" "I", Cond.fieldLink RX5 18 "EqualMethods$Trace" "number" "I", Cond.methodLink RX1 65 yX1_placeOfTop, Cond.instanceMethod yX1_placeOfTop, Cond.selects RX1 yX1_placeOfTop yX1_placeOfTop, Cond.initialized RX1, Cond.code yX1_placeOfTop cX1_placeOfTop 1 (some .int), Cond.fieldLink RX1 25 "EqualMethods$Machine" "methods" "[I", Cond.fieldLink RX1 22 "EqualMethods$Machine" "lines" "[I", Cond.methodLink RX1 79 yX0_placeOf, Cond.instanceMethod yX0_placeOf, Cond.selects RX0 yX0_placeOf yX0_placeOf, Cond.initialized RX0, Cond.code yX0_placeOf cX0_placeOf 3 (some .int)]
def wsX1_giveBack_r2 : List Cond := [Cond.methodLink RX1 97 yX1_put, Cond.instanceMethod yX1_put, Cond.selects RX1 yX1_put yX1_put, Cond.code yX1_put cX1_put 3 none, Cond.fieldLink RX1 18 "EqualMethods$Machine" "registers" "[I"]
def wsX1_giveBack : List Cond := .code yX1_giveBack cX1_giveBack 2 none :: ((wsX1_giveBack_r1 ++ wsX1_giveBack_r2) ++ wsX10 ++ wsX00 ++ wsX50)
def wsX1_isSpentBy : List Cond := .code yX1_isSpentBy cX1_isSpentBy 2 (some .boolean) :: ([.fieldLink RX1 12 "EqualMethods$Machine" "trace" "LEqualMethods$Trace;", .fieldLink RX1 83 "EqualMethods$Trace" "ops" "I", .fieldLink RX1 85 "EqualMethods$Trace" "tells" "I"] ++ wsX10 ++ wsX50)
def wsX1_stop : List Cond := .code yX1_stop cX1_stop 4 none :: ([.fieldLink RX1 31 "EqualMethods$Machine" "underWay" "I", .fieldLink RX1 12 "EqualMethods$Machine" "trace" "LEqualMethods$Trace;", .methodLink RX1 134 yX5_finish, .instanceMethod yX5_finish, .selects RX5 yX5_finish yX5_finish, .initialized RX5, .code yX5_finish cX5_finish 4 none, .fieldLink RX5 9 "EqualMethods$Trace" "end" "I", .fieldLink RX5 15 "EqualMethods$Trace" "kind" "I", .fieldLink RX5 18 "EqualMethods$Trace" "number" "I"] ++ wsX10 ++ wsX50)
def wsX1_get : List Cond := .code yX1_get cX1_get 2 (some .int) :: ([.fieldLink RX1 18 "EqualMethods$Machine" "registers" "[I", .fieldLink RX1 31 "EqualMethods$Machine" "underWay" "I"] ++ wsX10)
def wsX5_addTell : List Cond := .code yX5_addTell cX5_addTell 3 none :: ([.fieldLink RX5 30 "EqualMethods$Trace" "tellPorts" "[I", .fieldLink RX5 27 "EqualMethods$Trace" "tells" "I", .fieldLink RX5 34 "EqualMethods$Trace" "tellNumbers" "[I"] ++ wsX50)
def wsX5_addCalling : List Cond := .code yX5_addCalling cX5_addCalling 4 none :: ([.fieldLink RX5 40 "EqualMethods$Trace" "called" "[I", .fieldLink RX5 37 "EqualMethods$Trace" "callings" "I", .fieldLink RX5 43 "EqualMethods$Trace" "calledX" "[I", .fieldLink RX5 46 "EqualMethods$Trace" "calledY" "[I", .fieldLink RX5 49 "EqualMethods$Trace" "tellsAhead" "[I", .fieldLink RX5 27 "EqualMethods$Trace" "tells" "I"] ++ wsX50)
def wsX1_answer_r1 : List Cond := [Cond.fieldLink RX1 12 "EqualMethods$Machine" "trace" "LEqualMethods$Trace;", Cond.fieldLink RX1 125 "EqualMethods$Trace" "callings" "I", Cond.fieldLink RX1 28 "EqualMethods$Machine" "answers" "[I", Cond.fieldLink RX1 39 "EqualMethods$Machine" "mask" "I", Cond.methodLink RX1 73 yX1_stop, Cond.instanceMethod yX1_stop, Cond.selects RX1 yX1_stop yX1_stop, Cond.initialized RX1, Cond.code yX1_stop cX1_stop 4 none, Cond.fieldLink RX1 31 "EqualMethods$Machine" "underWay" "I", Cond.methodLink RX1 134 yX5_finish, Cond.instanceMethod yX5_finish, Cond.selects RX5 yX5_finish yX5_finish, Cond.initialized RX5, Cond.code yX5_finish cX5_finish 4 none, Cond.fieldLink RX5 9 "EqualMethods$Trace" "end" "I", Cond.fieldLink RX5 15 "EqualMethods$Trace" "kind" "I", Cond.fieldLink RX5 18 "EqualMethods$Trace" "number" "I", Cond.methodLink RX1 128 yX5_addCalling, Cond.instanceMethod yX5_addCalling, Cond.selects RX5 yX5_addCalling yX5_addCalling, Cond.code yX5_addCalling cX5_addCalling 4 none, Cond.fieldLink RX5 40 "EqualMethods$Trace" "called" "[I", Cond.fieldLink RX5 37 "EqualMethods$Trace" "callings" "I"]
def wsX1_answer_r2 : List Cond := [Cond.fieldLink RX5 43 "EqualMethods$Trace" "calledX" "[I", Cond.fieldLink RX5 46 "EqualMethods$Trace" "calledY" "[I", Cond.fieldLink RX5 49 "EqualMethods$Trace" "tellsAhead" "[I", Cond.fieldLink RX5 27 "EqualMethods$Trace" "tells" "I", Cond.methodLink RX1 97 yX1_put, Cond.instanceMethod yX1_put, Cond.selects RX1 yX1_put yX1_put, Cond.code yX1_put cX1_put 3 none, Cond.fieldLink RX1 18 "EqualMethods$Machine" "registers" "[I", Cond.fieldLink RX1 22 "EqualMethods$Machine" "lines" "[I"]
def wsX1_answer : List Cond := .code yX1_answer cX1_answer 6 none :: ((wsX1_answer_r1 ++ wsX1_answer_r2) ++ wsX10 ++ wsX50)
def wsX1_ask_r1 : List Cond := [Cond.fieldLink RX1 35 "EqualMethods$Machine" "build" "LEqualMethods$Build;", Cond.fieldLink RX1 39 "EqualMethods$Machine" "mask" "I", Cond.fieldLink RX1 42 "EqualMethods$Machine" "walking" "Z", Cond.fieldLink RX1 31 "EqualMethods$Machine" "underWay" "I", Cond.methodLink RX1 119 yX0_has, Cond.instanceMethod yX0_has, Cond.selects RX0 yX0_has yX0_has, Cond.initialized RX0, Cond.code yX0_has cX0_has 2 (some .boolean), Cond.fieldLink RX0 9 "EqualMethods$Build" "methods" "I", Cond.methodLink RX1 73 yX1_stop, Cond.instanceMethod yX1_stop, Cond.selects RX1 yX1_stop yX1_stop, Cond.initialized RX1, Cond.code yX1_stop cX1_stop 4 none, Cond.fieldLink RX1 12 "EqualMethods$Machine" "trace" "LEqualMethods$Trace;", Cond.methodLink RX1 134 yX5_finish, Cond.instanceMethod yX5_finish, Cond.selects RX5 yX5_finish yX5_finish, Cond.initialized RX5, Cond.code yX5_finish cX5_finish 4 none, Cond.fieldLink RX5 9 "EqualMethods$Trace" "end" "I", Cond.fieldLink RX5 15 "EqualMethods$Trace" "kind" "I", Cond.fieldLink RX5 18 "EqualMethods$Trace" "number" "I"]
def wsX1_ask_r2 : List Cond := [Cond.methodLink RX1 122 yX1_answer, Cond.instanceMethod yX1_answer, Cond.selects RX1 yX1_answer yX1_answer, Cond.code yX1_answer cX1_answer 6 none, Cond.fieldLink RX1 125 "EqualMethods$Trace" "callings" "I", Cond.fieldLink RX1 28 "EqualMethods$Machine" "answers" "[I", Cond.methodLink RX1 128 yX5_addCalling, Cond.instanceMethod yX5_addCalling, Cond.selects RX5 yX5_addCalling yX5_addCalling, Cond.code yX5_addCalling cX5_addCalling 4 none, Cond.fieldLink RX5 40 "EqualMethods$Trace" "called" "[I", Cond.fieldLink RX5 37 "EqualMethods$Trace" "callings" "I", Cond.fieldLink RX5 43 "EqualMethods$Trace" "calledX" "[I", Cond.fieldLink RX5 46 "EqualMethods$Trace" "calledY" "[I", Cond.fieldLink RX5 49 "EqualMethods$Trace" "tellsAhead" "[I", Cond.fieldLink RX5 27 "EqualMethods$Trace" "tells" "I", Cond.methodLink RX1 97 yX1_put, Cond.instanceMethod yX1_put, Cond.selects RX1 yX1_put yX1_put, Cond.code yX1_put cX1_put 3 none, Cond.fieldLink RX1 18 "EqualMethods$Machine" "registers" "[I", Cond.fieldLink RX1 22 "EqualMethods$Machine" "lines" "[I", Cond.methodLink RX1 49 yX1_enter, Cond.instanceMethod yX1_enter]
def wsX1_ask_r3 : List Cond := [Cond.selects RX1 yX1_enter yX1_enter, Cond.code yX1_enter cX1_enter 6 none, Cond.fieldLink RX1 25 "EqualMethods$Machine" "methods" "[I", Cond.fieldLink RX1 131 "EqualMethods$Trace" "deepest" "I"]
def wsX1_ask : List Cond := .code yX1_ask cX1_ask 5 none :: ((wsX1_ask_r1 ++ (wsX1_ask_r2 ++ wsX1_ask_r3)) ++ wsX10 ++ wsX00 ++ wsX50)
def wsX1_result : List Cond := .code yX1_result cX1_result 3 (some .int) :: ([])
def wsX1_calculate_r1 : List Cond := [Cond.fieldLink RX1 39 "EqualMethods$Machine" "mask" "I", Cond.methodLink RX1 73 yX1_stop, Cond.instanceMethod yX1_stop, Cond.selects RX1 yX1_stop yX1_stop, Cond.initialized RX1, Cond.code yX1_stop cX1_stop 4 none, Cond.fieldLink RX1 31 "EqualMethods$Machine" "underWay" "I", Cond.fieldLink RX1 12 "EqualMethods$Machine" "trace" "LEqualMethods$Trace;", Cond.methodLink RX1 134 yX5_finish, Cond.instanceMethod yX5_finish, Cond.selects RX5 yX5_finish yX5_finish, Cond.initialized RX5, Cond.code yX5_finish cX5_finish 4 none, Cond.fieldLink RX5 9 "EqualMethods$Trace" "end" "I", Cond.fieldLink RX5 15 "EqualMethods$Trace" "kind" "I", Cond.fieldLink RX5 18 "EqualMethods$Trace" "number" "I", Cond.methodLink RX1 115 yX1_result, Cond.static yX1_result, Cond.code yX1_result cX1_result 3 (some .int), Cond.methodLink RX1 97 yX1_put, Cond.instanceMethod yX1_put, Cond.selects RX1 yX1_put yX1_put, Cond.code yX1_put cX1_put 3 none, Cond.fieldLink RX1 18 "EqualMethods$Machine" "registers" "[I"]
def wsX1_calculate_r2 : List Cond := [Cond.fieldLink RX1 22 "EqualMethods$Machine" "lines" "[I"]
def wsX1_calculate : List Cond := .code yX1_calculate cX1_calculate 5 none :: ((wsX1_calculate_r1 ++ wsX1_calculate_r2) ++ wsX10 ++ wsX50)
def wsX1_perform_r1 : List Cond := [Cond.fieldLink RX1 35 "EqualMethods$Machine" "build" "LEqualMethods$Build;", Cond.fieldLink RX1 88 "EqualMethods$Build" "as" "[I", Cond.fieldLink RX1 91 "EqualMethods$Build" "bs" "[I", Cond.fieldLink RX1 94 "EqualMethods$Build" "cs" "[I", Cond.fieldLink RX1 12 "EqualMethods$Machine" "trace" "LEqualMethods$Trace;", Cond.fieldLink RX1 83 "EqualMethods$Trace" "ops" "I", Cond.fieldLink RX1 62 "EqualMethods$Build" "ops" "[I", Cond.fieldLink RX1 22 "EqualMethods$Machine" "lines" "[I", Cond.fieldLink RX1 31 "EqualMethods$Machine" "underWay" "I", Cond.methodLink RX1 97 yX1_put, Cond.instanceMethod yX1_put, Cond.selects RX1 yX1_put yX1_put, Cond.initialized RX1, Cond.code yX1_put cX1_put 3 none, Cond.fieldLink RX1 18 "EqualMethods$Machine" "registers" "[I", Cond.methodLink RX1 101 yX1_get, Cond.instanceMethod yX1_get, Cond.selects RX1 yX1_get yX1_get, Cond.code yX1_get cX1_get 2 (some .int), Cond.methodLink RX1 105 yX5_addTell, Cond.instanceMethod yX5_addTell, Cond.selects RX5 yX5_addTell yX5_addTell, Cond.initialized RX5, Cond.code yX5_addTell cX5_addTell 3 none]
def wsX1_perform_r2 : List Cond := [Cond.fieldLink RX5 30 "EqualMethods$Trace" "tellPorts" "[I", Cond.fieldLink RX5 27 "EqualMethods$Trace" "tells" "I", Cond.fieldLink RX5 34 "EqualMethods$Trace" "tellNumbers" "[I", Cond.methodLink RX1 108 yX1_ask, Cond.instanceMethod yX1_ask, Cond.selects RX1 yX1_ask yX1_ask, Cond.code yX1_ask cX1_ask 5 none, Cond.fieldLink RX1 39 "EqualMethods$Machine" "mask" "I", Cond.fieldLink RX1 42 "EqualMethods$Machine" "walking" "Z", Cond.methodLink RX1 119 yX0_has, Cond.instanceMethod yX0_has, Cond.selects RX0 yX0_has yX0_has, Cond.initialized RX0, Cond.code yX0_has cX0_has 2 (some .boolean), Cond.fieldLink RX0 9 "EqualMethods$Build" "methods" "I", Cond.methodLink RX1 73 yX1_stop, Cond.instanceMethod yX1_stop, Cond.selects RX1 yX1_stop yX1_stop, Cond.code yX1_stop cX1_stop 4 none, Cond.methodLink RX1 134 yX5_finish, Cond.instanceMethod yX5_finish, Cond.selects RX5 yX5_finish yX5_finish, Cond.code yX5_finish cX5_finish 4 none, Cond.fieldLink RX5 9 "EqualMethods$Trace" "end" "I"]
def wsX1_perform_r3 : List Cond := [Cond.fieldLink RX5 15 "EqualMethods$Trace" "kind" "I", Cond.fieldLink RX5 18 "EqualMethods$Trace" "number" "I", Cond.methodLink RX1 122 yX1_answer, Cond.instanceMethod yX1_answer, Cond.selects RX1 yX1_answer yX1_answer, Cond.code yX1_answer cX1_answer 6 none, Cond.fieldLink RX1 125 "EqualMethods$Trace" "callings" "I", Cond.fieldLink RX1 28 "EqualMethods$Machine" "answers" "[I", Cond.methodLink RX1 128 yX5_addCalling, Cond.instanceMethod yX5_addCalling, Cond.selects RX5 yX5_addCalling yX5_addCalling, Cond.code yX5_addCalling cX5_addCalling 4 none, Cond.fieldLink RX5 40 "EqualMethods$Trace" "called" "[I", Cond.fieldLink RX5 37 "EqualMethods$Trace" "callings" "I", Cond.fieldLink RX5 43 "EqualMethods$Trace" "calledX" "[I", Cond.fieldLink RX5 46 "EqualMethods$Trace" "calledY" "[I", Cond.fieldLink RX5 49 "EqualMethods$Trace" "tellsAhead" "[I", Cond.methodLink RX1 49 yX1_enter, Cond.instanceMethod yX1_enter, Cond.selects RX1 yX1_enter yX1_enter, Cond.code yX1_enter cX1_enter 6 none, Cond.fieldLink RX1 25 "EqualMethods$Machine" "methods" "[I", Cond.fieldLink RX1 131 "EqualMethods$Trace" "deepest" "I", Cond.methodLink RX1 58 yX1_giveBack]
def wsX1_perform_r4 : List Cond := [Cond.instanceMethod yX1_giveBack, Cond.selects RX1 yX1_giveBack yX1_giveBack, Cond.code yX1_giveBack cX1_giveBack 2 none, Cond.methodLink RX1 65 yX1_placeOfTop, Cond.instanceMethod yX1_placeOfTop, Cond.selects RX1 yX1_placeOfTop yX1_placeOfTop, Cond.code yX1_placeOfTop cX1_placeOfTop 1 (some .int), Cond.methodLink RX1 79 yX0_placeOf, Cond.instanceMethod yX0_placeOf, Cond.selects RX0 yX0_placeOf yX0_placeOf, Cond.code yX0_placeOf cX0_placeOf 3 (some .int), Cond.methodLink RX1 112 yX1_calculate, Cond.instanceMethod yX1_calculate, Cond.selects RX1 yX1_calculate yX1_calculate, Cond.code yX1_calculate cX1_calculate 5 none, Cond.methodLink RX1 115 yX1_result, Cond.static yX1_result, Cond.code yX1_result cX1_result 3 (some .int)]
def wsX1_perform : List Cond := .code yX1_perform cX1_perform 5 none :: ((wsX1_perform_r1 ++ (wsX1_perform_r2 ++ (wsX1_perform_r3 ++ wsX1_perform_r4))) ++ wsX10 ++ wsX00 ++ wsX50)
def wsX1_go_r1 : List Cond := [Cond.fieldLink RX1 12 "EqualMethods$Machine" "trace" "LEqualMethods$Trace;", Cond.fieldLink RX1 31 "EqualMethods$Machine" "underWay" "I", Cond.fieldLink RX1 22 "EqualMethods$Machine" "lines" "[I", Cond.fieldLink RX1 35 "EqualMethods$Machine" "build" "LEqualMethods$Build;", Cond.fieldLink RX1 53 "EqualMethods$Build" "sizes" "[I", Cond.fieldLink RX1 25 "EqualMethods$Machine" "methods" "[I", Cond.fieldLink RX1 62 "EqualMethods$Build" "ops" "[I", Cond.methodLink RX1 46 yX5_forget, Cond.instanceMethod yX5_forget, Cond.selects RX5 yX5_forget yX5_forget, Cond.initialized RX5, Cond.code yX5_forget cX5_forget 1 none, Cond.fieldLink RX5 21 "EqualMethods$Trace" "ops" "I", Cond.fieldLink RX5 24 "EqualMethods$Trace" "deepest" "I", Cond.fieldLink RX5 27 "EqualMethods$Trace" "tells" "I", Cond.fieldLink RX5 37 "EqualMethods$Trace" "callings" "I", Cond.methodLink RX5 52 yX5_finish, Cond.instanceMethod yX5_finish, Cond.selects RX5 yX5_finish yX5_finish, Cond.code yX5_finish cX5_finish 4 none, Cond.fieldLink RX5 9 "EqualMethods$Trace" "end" "I", Cond.fieldLink RX5 15 "EqualMethods$Trace" "kind" "I", Cond.fieldLink RX5 18 "EqualMethods$Trace" "number" "I", Cond.methodLink RX1 49 yX1_enter]
def wsX1_go_r2 : List Cond := [Cond.instanceMethod yX1_enter, Cond.selects RX1 yX1_enter yX1_enter, Cond.initialized RX1, Cond.code yX1_enter cX1_enter 6 none, Cond.fieldLink RX1 18 "EqualMethods$Machine" "registers" "[I", Cond.fieldLink RX1 131 "EqualMethods$Trace" "deepest" "I", Cond.methodLink RX1 58 yX1_giveBack, Cond.instanceMethod yX1_giveBack, Cond.selects RX1 yX1_giveBack yX1_giveBack, Cond.code yX1_giveBack cX1_giveBack 2 none, Cond.fieldLink RX1 88 "EqualMethods$Build" "as" "[I", Cond.methodLink RX1 134 yX5_finish, Cond.methodLink RX1 65 yX1_placeOfTop, Cond.instanceMethod yX1_placeOfTop, Cond.selects RX1 yX1_placeOfTop yX1_placeOfTop, Cond.code yX1_placeOfTop cX1_placeOfTop 1 (some .int), Cond.methodLink RX1 79 yX0_placeOf, Cond.instanceMethod yX0_placeOf, Cond.selects RX0 yX0_placeOf yX0_placeOf, Cond.initialized RX0, Cond.code yX0_placeOf cX0_placeOf 3 (some .int), Cond.methodLink RX1 97 yX1_put, Cond.instanceMethod yX1_put, Cond.selects RX1 yX1_put yX1_put]
def wsX1_go_r3 : List Cond := [Cond.code yX1_put cX1_put 3 none, Cond.methodLink RX1 69 yX1_isSpentBy, Cond.instanceMethod yX1_isSpentBy, Cond.selects RX1 yX1_isSpentBy yX1_isSpentBy, Cond.code yX1_isSpentBy cX1_isSpentBy 2 (some .boolean), Cond.fieldLink RX1 83 "EqualMethods$Trace" "ops" "I", Cond.fieldLink RX1 85 "EqualMethods$Trace" "tells" "I", Cond.methodLink RX1 73 yX1_stop, Cond.instanceMethod yX1_stop, Cond.selects RX1 yX1_stop yX1_stop, Cond.code yX1_stop cX1_stop 4 none, Cond.methodLink RX1 76 yX1_perform, Cond.instanceMethod yX1_perform, Cond.selects RX1 yX1_perform yX1_perform, Cond.code yX1_perform cX1_perform 5 none, Cond.fieldLink RX1 91 "EqualMethods$Build" "bs" "[I", Cond.fieldLink RX1 94 "EqualMethods$Build" "cs" "[I", Cond.methodLink RX1 101 yX1_get, Cond.instanceMethod yX1_get, Cond.selects RX1 yX1_get yX1_get, Cond.code yX1_get cX1_get 2 (some .int), Cond.methodLink RX1 105 yX5_addTell, Cond.instanceMethod yX5_addTell, Cond.selects RX5 yX5_addTell yX5_addTell]
def wsX1_go_r4 : List Cond := [Cond.code yX5_addTell cX5_addTell 3 none, Cond.fieldLink RX5 30 "EqualMethods$Trace" "tellPorts" "[I", Cond.fieldLink RX5 34 "EqualMethods$Trace" "tellNumbers" "[I", Cond.methodLink RX1 108 yX1_ask, Cond.instanceMethod yX1_ask, Cond.selects RX1 yX1_ask yX1_ask, Cond.code yX1_ask cX1_ask 5 none, Cond.fieldLink RX1 39 "EqualMethods$Machine" "mask" "I", Cond.fieldLink RX1 42 "EqualMethods$Machine" "walking" "Z", Cond.methodLink RX1 119 yX0_has, Cond.instanceMethod yX0_has, Cond.selects RX0 yX0_has yX0_has, Cond.code yX0_has cX0_has 2 (some .boolean), Cond.fieldLink RX0 9 "EqualMethods$Build" "methods" "I", Cond.methodLink RX1 122 yX1_answer, Cond.instanceMethod yX1_answer, Cond.selects RX1 yX1_answer yX1_answer, Cond.code yX1_answer cX1_answer 6 none, Cond.fieldLink RX1 125 "EqualMethods$Trace" "callings" "I", Cond.fieldLink RX1 28 "EqualMethods$Machine" "answers" "[I", Cond.methodLink RX1 128 yX5_addCalling, Cond.instanceMethod yX5_addCalling, Cond.selects RX5 yX5_addCalling yX5_addCalling, Cond.code yX5_addCalling cX5_addCalling 4 none]
def wsX1_go_r5 : List Cond := [Cond.fieldLink RX5 40 "EqualMethods$Trace" "called" "[I", Cond.fieldLink RX5 43 "EqualMethods$Trace" "calledX" "[I", Cond.fieldLink RX5 46 "EqualMethods$Trace" "calledY" "[I", Cond.fieldLink RX5 49 "EqualMethods$Trace" "tellsAhead" "[I", Cond.methodLink RX1 112 yX1_calculate, Cond.instanceMethod yX1_calculate, Cond.selects RX1 yX1_calculate yX1_calculate, Cond.code yX1_calculate cX1_calculate 5 none, Cond.methodLink RX1 115 yX1_result, Cond.static yX1_result, Cond.code yX1_result cX1_result 3 (some .int)]
def wsX1_go : List Cond := .code yX1_go cX1_go 5 none :: ((wsX1_go_r1 ++ (wsX1_go_r2 ++ (wsX1_go_r3 ++ (wsX1_go_r4 ++ wsX1_go_r5)))) ++ wsX10 ++ wsX00 ++ wsX50)
def wsX2_init : List Cond := .code yX2_init cX2_init 1 none :: ([.methodLink RX2 3 objectInit, .instanceMethod objectInit, .code objectInit ⟨#[0xb1]⟩ 1 none, .fieldLink RX2 9 "EqualMethods$Pairs" "size" "I", .arrayClass .int, .fieldLink RX2 15 "EqualMethods$Pairs" "as" "[I", .fieldLink RX2 19 "EqualMethods$Pairs" "bs" "[I"] ++ wsX20)
def wsX2_has : List Cond := .code yX2_has cX2_has 4 (some .boolean) :: ([.fieldLink RX2 9 "EqualMethods$Pairs" "size" "I", .fieldLink RX2 15 "EqualMethods$Pairs" "as" "[I", .fieldLink RX2 19 "EqualMethods$Pairs" "bs" "[I"] ++ wsX20)
def wsX2_add : List Cond := .code yX2_add cX2_add 3 (some .int) :: ([.fieldLink RX2 15 "EqualMethods$Pairs" "as" "[I", .fieldLink RX2 9 "EqualMethods$Pairs" "size" "I", .fieldLink RX2 19 "EqualMethods$Pairs" "bs" "[I"] ++ wsX20)
def wsX3_init : List Cond := .code yX3_init cX3_init 1 none :: ([.methodLink RX3 3 objectInit, .instanceMethod objectInit, .code objectInit ⟨#[0xb1]⟩ 1 none, .arrayClass .int, .fieldLink RX3 9 "EqualMethods$Ports" "standsFor" "[I", .fieldLink RX3 15 "EqualMethods$Ports" "groups" "[I", .fieldLink RX3 18 "EqualMethods$Ports" "standsIn" "[I"] ++ wsX30)
def wsX3_name : List Cond := .code yX3_name cX3_name 3 none :: ([.fieldLink RX3 9 "EqualMethods$Ports" "standsFor" "[I", .fieldLink RX3 18 "EqualMethods$Ports" "standsIn" "[I"] ++ wsX30)
def wsX3_swapIn : List Cond := .code yX3_swapIn cX3_swapIn 4 (some .int) :: ([.fieldLink RX3 9 "EqualMethods$Ports" "standsFor" "[I", .fieldLink RX3 18 "EqualMethods$Ports" "standsIn" "[I", .methodLink RX3 21 yX3_name, .instanceMethod yX3_name, .selects RX3 yX3_name yX3_name, .initialized RX3, .code yX3_name cX3_name 3 none] ++ wsX30)
def wsX3_takeNames : List Cond := .code yX3_takeNames cX3_takeNames 2 none :: ([.methodLink RX3 21 yX3_name, .instanceMethod yX3_name, .selects RX3 yX3_name yX3_name, .initialized RX3, .code yX3_name cX3_name 3 none, .fieldLink RX3 9 "EqualMethods$Ports" "standsFor" "[I", .fieldLink RX3 18 "EqualMethods$Ports" "standsIn" "[I"] ++ wsX30)
def wsX3_takeGroups : List Cond := .code yX3_takeGroups cX3_takeGroups 2 none :: ([.fieldLink RX3 15 "EqualMethods$Ports" "groups" "[I", .methodLink RX3 25 arraycopyName, .native arraycopyName, .static arraycopyName, .initialized "java/lang/System"] ++ wsX30)
def wsX3_nextIn : List Cond := .code yX3_nextIn cX3_nextIn 6 (some .int) :: ([.fieldLink RX3 15 "EqualMethods$Ports" "groups" "[I", .fieldLink RX3 18 "EqualMethods$Ports" "standsIn" "[I", .fieldLink RX3 35 "EqualMethods$Trace" "tellPorts" "[I"] ++ wsX30 ++ wsX50)
def wsX3_alikeIn : List Cond := .code yX3_alikeIn cX3_alikeIn 11 (some .boolean) :: ([.fieldLink RX3 35 "EqualMethods$Trace" "tellPorts" "[I", .fieldLink RX3 15 "EqualMethods$Ports" "groups" "[I", .fieldLink RX3 18 "EqualMethods$Ports" "standsIn" "[I", .fieldLink RX3 44 "EqualMethods$Trace" "tellNumbers" "[I", .methodLink RX3 40 yX3_nextIn, .instanceMethod yX3_nextIn, .selects RX3 yX3_nextIn yX3_nextIn, .initialized RX3, .code yX3_nextIn cX3_nextIn 6 (some .int)] ++ wsX50 ++ wsX30)
def wsX3_alike : List Cond := .code yX3_alike cX3_alike 8 (some .boolean) :: ([.methodLink RX3 31 yX3_alikeIn, .instanceMethod yX3_alikeIn, .selects RX3 yX3_alikeIn yX3_alikeIn, .initialized RX3, .code yX3_alikeIn cX3_alikeIn 11 (some .boolean), .fieldLink RX3 35 "EqualMethods$Trace" "tellPorts" "[I", .fieldLink RX3 15 "EqualMethods$Ports" "groups" "[I", .fieldLink RX3 18 "EqualMethods$Ports" "standsIn" "[I", .fieldLink RX3 44 "EqualMethods$Trace" "tellNumbers" "[I", .methodLink RX3 40 yX3_nextIn, .instanceMethod yX3_nextIn, .selects RX3 yX3_nextIn yX3_nextIn, .code yX3_nextIn cX3_nextIn 6 (some .int)] ++ wsX50 ++ wsX30)
def wsX4_init : List Cond := .code yX4_init cX4_init 1 none :: ([.methodLink RX4 3 objectInit, .instanceMethod objectInit, .code objectInit ⟨#[0xb1]⟩ 1 none, .fieldLink RX4 9 "EqualMethods$Proof" "answer" "I", .arrayClass .int, .fieldLink RX4 15 "EqualMethods$Proof" "place" "[I"] ++ wsX40)
def wsX4_keep : List Cond := .code yX4_keep cX4_keep 7 none :: ([.fieldLink RX4 9 "EqualMethods$Proof" "answer" "I", .fieldLink RX4 15 "EqualMethods$Proof" "place" "[I"] ++ wsX40)
def wsX4_begin : List Cond := .code yX4_begin cX4_begin 2 none :: ([.methodLink RX4 19 yX4_keep, .instanceMethod yX4_keep, .selects RX4 yX4_keep yX4_keep, .initialized RX4, .code yX4_keep cX4_keep 7 none, .fieldLink RX4 9 "EqualMethods$Proof" "answer" "I", .fieldLink RX4 15 "EqualMethods$Proof" "place" "[I"] ++ wsX40)
def wsX4_yieldsTo : List Cond := .code yX4_yieldsTo cX4_yieldsTo 2 (some .boolean) :: ([.fieldLink RX4 9 "EqualMethods$Proof" "answer" "I"] ++ wsX40)
def wsX5_endsLike : List Cond := .code yX5_endsLike cX5_endsLike 2 (some .boolean) :: ([.fieldLink RX5 15 "EqualMethods$Trace" "kind" "I", .fieldLink RX5 18 "EqualMethods$Trace" "number" "I"] ++ wsX50)
def wsX5_sameInputs : List Cond := .code yX5_sameInputs cX5_sameInputs 3 (some .boolean) :: ([.fieldLink RX5 43 "EqualMethods$Trace" "calledX" "[I", .fieldLink RX5 46 "EqualMethods$Trace" "calledY" "[I"] ++ wsX50)
def wsX6_init_r1 : List Cond := [Cond.methodLink RX6 1 objectInit, Cond.instanceMethod objectInit, Cond.code objectInit ⟨#[0xb1]⟩ 1 none, Cond.classLink RX6 7 RX0, Cond.instantiable RX0 6, Cond.initialized RX0, Cond.fieldLink RX6 10 "EqualMethods" "build0" "LEqualMethods$Build;", Cond.fieldLink RX6 16 "EqualMethods" "build1" "LEqualMethods$Build;", Cond.classLink RX6 19 RX3, Cond.instantiable RX3 3, Cond.initialized RX3, Cond.fieldLink RX6 22 "EqualMethods" "ports" "LEqualMethods$Ports;", Cond.fieldLink RX6 26 "EqualMethods" "tried" "LEqualMethods$Ports;", Cond.classLink RX6 29 RX2, Cond.instantiable RX2 3, Cond.initialized RX2, Cond.fieldLink RX6 32 "EqualMethods" "pairs" "LEqualMethods$Pairs;", Cond.classLink RX6 36 RX4, Cond.instantiable RX4 2, Cond.initialized RX4, Cond.fieldLink RX6 39 "EqualMethods" "proof" "LEqualMethods$Proof;", Cond.fieldLink RX6 43 "EqualMethods" "unlikeX" "I", Cond.fieldLink RX6 47 "EqualMethods" "unlikeY" "I", Cond.fieldLink RX6 50 "EqualMethods" "firstX" "I"]
def wsX6_init_r2 : List Cond := [Cond.fieldLink RX6 53 "EqualMethods" "firstY" "I", Cond.fieldLink RX6 56 "EqualMethods" "bits" "I", Cond.fieldLink RX6 59 "EqualMethods" "mask" "I", Cond.classLink RX6 62 RX1, Cond.instantiable RX1 9, Cond.initialized RX1, Cond.fieldLink RX6 67 "EqualMethods" "shown" "LEqualMethods$Machine;", Cond.fieldLink RX6 71 "EqualMethods" "run0" "LEqualMethods$Machine;", Cond.fieldLink RX6 74 "EqualMethods" "run1" "LEqualMethods$Machine;", Cond.fieldLink RX6 77 "EqualMethods" "walk0" "LEqualMethods$Machine;", Cond.fieldLink RX6 80 "EqualMethods" "walk1" "LEqualMethods$Machine;", Cond.instanceMethod yX0_init, Cond.code yX0_init cX0_init 1 none, Cond.methodLink RX0 3 objectInit, Cond.fieldLink RX0 9 "EqualMethods$Build" "methods" "I", Cond.arrayClass .int, Cond.fieldLink RX0 15 "EqualMethods$Build" "sizes" "[I", Cond.fieldLink RX0 19 "EqualMethods$Build" "ops" "[I", Cond.fieldLink RX0 22 "EqualMethods$Build" "as" "[I", Cond.fieldLink RX0 25 "EqualMethods$Build" "bs" "[I", Cond.fieldLink RX0 28 "EqualMethods$Build" "cs" "[I", Cond.instanceMethod yX3_init, Cond.code yX3_init cX3_init 1 none, Cond.methodLink RX3 3 objectInit]
def wsX6_init_r3 : List Cond := [Cond.fieldLink RX3 9 "EqualMethods$Ports" "standsFor" "[I", Cond.fieldLink RX3 15 "EqualMethods$Ports" "groups" "[I", Cond.fieldLink RX3 18 "EqualMethods$Ports" "standsIn" "[I", Cond.instanceMethod yX2_init, Cond.code yX2_init cX2_init 1 none, Cond.methodLink RX2 3 objectInit, Cond.fieldLink RX2 9 "EqualMethods$Pairs" "size" "I", Cond.fieldLink RX2 15 "EqualMethods$Pairs" "as" "[I", Cond.fieldLink RX2 19 "EqualMethods$Pairs" "bs" "[I", Cond.instanceMethod yX4_init, Cond.code yX4_init cX4_init 1 none, Cond.methodLink RX4 3 objectInit, Cond.fieldLink RX4 9 "EqualMethods$Proof" "answer" "I", Cond.fieldLink RX4 15 "EqualMethods$Proof" "place" "[I", Cond.methodLink RX6 64 yX1_init, Cond.instanceMethod yX1_init, Cond.code yX1_init cX1_init 4 none, Cond.methodLink RX1 3 objectInit, Cond.classLink RX1 9 RX5, Cond.instantiable RX5 13, Cond.initialized RX5, Cond.fieldLink RX1 12 "EqualMethods$Machine" "trace" "LEqualMethods$Trace;", Cond.fieldLink RX1 18 "EqualMethods$Machine" "registers" "[I", Cond.fieldLink RX1 22 "EqualMethods$Machine" "lines" "[I"]
def wsX6_init_r4 : List Cond := [Cond.fieldLink RX1 25 "EqualMethods$Machine" "methods" "[I", Cond.fieldLink RX1 28 "EqualMethods$Machine" "answers" "[I", Cond.fieldLink RX1 31 "EqualMethods$Machine" "underWay" "I", Cond.fieldLink RX1 35 "EqualMethods$Machine" "build" "LEqualMethods$Build;", Cond.fieldLink RX1 39 "EqualMethods$Machine" "mask" "I", Cond.fieldLink RX1 42 "EqualMethods$Machine" "walking" "Z", Cond.instanceMethod yX5_init, Cond.code yX5_init cX5_init 1 none, Cond.methodLink RX5 3 objectInit, Cond.fieldLink RX5 9 "EqualMethods$Trace" "end" "I", Cond.fieldLink RX5 15 "EqualMethods$Trace" "kind" "I", Cond.fieldLink RX5 18 "EqualMethods$Trace" "number" "I", Cond.fieldLink RX5 21 "EqualMethods$Trace" "ops" "I", Cond.fieldLink RX5 24 "EqualMethods$Trace" "deepest" "I", Cond.fieldLink RX5 27 "EqualMethods$Trace" "tells" "I", Cond.fieldLink RX5 30 "EqualMethods$Trace" "tellPorts" "[I", Cond.fieldLink RX5 34 "EqualMethods$Trace" "tellNumbers" "[I", Cond.fieldLink RX5 37 "EqualMethods$Trace" "callings" "I", Cond.fieldLink RX5 40 "EqualMethods$Trace" "called" "[I", Cond.fieldLink RX5 43 "EqualMethods$Trace" "calledX" "[I", Cond.fieldLink RX5 46 "EqualMethods$Trace" "calledY" "[I", Cond.fieldLink RX5 49 "EqualMethods$Trace" "tellsAhead" "[I"]
def wsX6_init : List Cond := .code yX6_init cX6_init 2 none :: ((wsX6_init_r1 ++ (wsX6_init_r2 ++ (wsX6_init_r3 ++ wsX6_init_r4))) ++ wsX00 ++ wsX60 ++ wsX30 ++ wsX20 ++ wsX40 ++ wsX10 ++ wsX50)
def wsX6_within : List Cond := .code yX6_within cX6_within 3 (some .boolean) :: ([])
def wsX6_buildOf : List Cond := .code yX6_buildOf cX6_buildOf 2 (some (.object "EqualMethods$Build")) :: ([.fieldLink RX6 10 "EqualMethods" "build0" "LEqualMethods$Build;", .fieldLink RX6 16 "EqualMethods" "build1" "LEqualMethods$Build;"] ++ wsX60)
def wsX6_method : List Cond := .code yX6_method cX6_method 3 (some .int) :: ([.fieldLink RX6 91 "EqualMethods$Build" "methods" "I", .methodLink RX6 83 yX6_within, .static yX6_within, .initialized RX6, .code yX6_within cX6_within 3 (some .boolean), .methodLink RX6 87 yX6_buildOf, .instanceMethod yX6_buildOf, .selects RX6 yX6_buildOf yX6_buildOf, .code yX6_buildOf cX6_buildOf 2 (some (.object "EqualMethods$Build")), .fieldLink RX6 10 "EqualMethods" "build0" "LEqualMethods$Build;", .fieldLink RX6 16 "EqualMethods" "build1" "LEqualMethods$Build;", .methodLink RX6 94 yX0_addMethod, .instanceMethod yX0_addMethod, .selects RX0 yX0_addMethod yX0_addMethod, .initialized RX0, .code yX0_addMethod cX0_addMethod 1 (some .int), .fieldLink RX0 9 "EqualMethods$Build" "methods" "I"] ++ wsX00 ++ wsX60)
def wsX6_isMethod : List Cond := .code yX6_isMethod cX6_isMethod 3 (some .boolean) :: ([.methodLink RX6 83 yX6_within, .static yX6_within, .initialized RX6, .code yX6_within cX6_within 3 (some .boolean), .methodLink RX6 87 yX6_buildOf, .instanceMethod yX6_buildOf, .selects RX6 yX6_buildOf yX6_buildOf, .code yX6_buildOf cX6_buildOf 2 (some (.object "EqualMethods$Build")), .fieldLink RX6 10 "EqualMethods" "build0" "LEqualMethods$Build;", .fieldLink RX6 16 "EqualMethods" "build1" "LEqualMethods$Build;", .methodLink RX6 168 yX0_has, .instanceMethod yX0_has, .selects RX0 yX0_has yX0_has, .initialized RX0, .code yX0_has cX0_has 2 (some .boolean), .fieldLink RX0 9 "EqualMethods$Build" "methods" "I"] ++ wsX60 ++ wsX00)
def wsX6_fits : List Cond := .code yX6_fits cX6_fits 4 (some .boolean) :: ([.fieldLink RX6 217 "EqualMethods" "OPERANDS" "[I", .fieldLink RX6 59 "EqualMethods" "mask" "I", .methodLink RX6 83 yX6_within, .static yX6_within, .initialized RX6, .code yX6_within cX6_within 3 (some .boolean)] ++ wsX60)
def wsX6_op_r1 : List Cond := [Cond.fieldLink RX6 105 "EqualMethods$Build" "sizes" "[I", Cond.methodLink RX6 98 yX6_isMethod, Cond.instanceMethod yX6_isMethod, Cond.selects RX6 yX6_isMethod yX6_isMethod, Cond.initialized RX6, Cond.code yX6_isMethod cX6_isMethod 3 (some .boolean), Cond.methodLink RX6 83 yX6_within, Cond.static yX6_within, Cond.code yX6_within cX6_within 3 (some .boolean), Cond.methodLink RX6 87 yX6_buildOf, Cond.instanceMethod yX6_buildOf, Cond.selects RX6 yX6_buildOf yX6_buildOf, Cond.code yX6_buildOf cX6_buildOf 2 (some (.object "EqualMethods$Build")), Cond.fieldLink RX6 10 "EqualMethods" "build0" "LEqualMethods$Build;", Cond.fieldLink RX6 16 "EqualMethods" "build1" "LEqualMethods$Build;", Cond.methodLink RX6 168 yX0_has, Cond.instanceMethod yX0_has, Cond.selects RX0 yX0_has yX0_has, Cond.initialized RX0, Cond.code yX0_has cX0_has 2 (some .boolean), Cond.fieldLink RX0 9 "EqualMethods$Build" "methods" "I", Cond.methodLink RX6 102 yX6_fits, Cond.instanceMethod yX6_fits, Cond.selects RX6 yX6_fits yX6_fits]
def wsX6_op_r2 : List Cond := [Cond.code yX6_fits cX6_fits 4 (some .boolean), Cond.fieldLink RX6 217 "EqualMethods" "OPERANDS" "[I", Cond.fieldLink RX6 59 "EqualMethods" "mask" "I", Cond.methodLink RX6 109 yX0_addOp, Cond.instanceMethod yX0_addOp, Cond.selects RX0 yX0_addOp yX0_addOp, Cond.code yX0_addOp cX0_addOp 7 (some .int), Cond.fieldLink RX0 15 "EqualMethods$Build" "sizes" "[I", Cond.fieldLink RX0 19 "EqualMethods$Build" "ops" "[I", Cond.fieldLink RX0 22 "EqualMethods$Build" "as" "[I", Cond.fieldLink RX0 25 "EqualMethods$Build" "bs" "[I", Cond.fieldLink RX0 28 "EqualMethods$Build" "cs" "[I", Cond.methodLink RX0 31 yX0_placeOf, Cond.instanceMethod yX0_placeOf, Cond.selects RX0 yX0_placeOf yX0_placeOf, Cond.code yX0_placeOf cX0_placeOf 3 (some .int)]
def wsX6_op : List Cond := .code yX6_op cX6_op 8 (some .int) :: ((wsX6_op_r1 ++ wsX6_op_r2) ++ wsX00 ++ wsX60)
def wsX6_clear_r1 : List Cond := [Cond.methodLink RX6 98 yX6_isMethod, Cond.instanceMethod yX6_isMethod, Cond.selects RX6 yX6_isMethod yX6_isMethod, Cond.initialized RX6, Cond.code yX6_isMethod cX6_isMethod 3 (some .boolean), Cond.methodLink RX6 83 yX6_within, Cond.static yX6_within, Cond.code yX6_within cX6_within 3 (some .boolean), Cond.methodLink RX6 87 yX6_buildOf, Cond.instanceMethod yX6_buildOf, Cond.selects RX6 yX6_buildOf yX6_buildOf, Cond.code yX6_buildOf cX6_buildOf 2 (some (.object "EqualMethods$Build")), Cond.fieldLink RX6 10 "EqualMethods" "build0" "LEqualMethods$Build;", Cond.fieldLink RX6 16 "EqualMethods" "build1" "LEqualMethods$Build;", Cond.methodLink RX6 168 yX0_has, Cond.instanceMethod yX0_has, Cond.selects RX0 yX0_has yX0_has, Cond.initialized RX0, Cond.code yX0_has cX0_has 2 (some .boolean), Cond.fieldLink RX0 9 "EqualMethods$Build" "methods" "I", Cond.methodLink RX6 113 yX0_removeOps, Cond.instanceMethod yX0_removeOps, Cond.selects RX0 yX0_removeOps yX0_removeOps, Cond.code yX0_removeOps cX0_removeOps 3 (some .int)]
def wsX6_clear_r2 : List Cond := [Cond.fieldLink RX0 15 "EqualMethods$Build" "sizes" "[I"]
def wsX6_clear : List Cond := .code yX6_clear cX6_clear 3 (some .int) :: ((wsX6_clear_r1 ++ wsX6_clear_r2) ++ wsX60 ++ wsX00)
def wsX6_run_r1 : List Cond := [Cond.fieldLink RX6 59 "EqualMethods" "mask" "I", Cond.fieldLink RX6 67 "EqualMethods" "shown" "LEqualMethods$Machine;", Cond.fieldLink RX6 125 "EqualMethods$Machine" "trace" "LEqualMethods$Trace;", Cond.fieldLink RX6 129 "EqualMethods$Trace" "end" "I", Cond.methodLink RX6 98 yX6_isMethod, Cond.instanceMethod yX6_isMethod, Cond.selects RX6 yX6_isMethod yX6_isMethod, Cond.initialized RX6, Cond.code yX6_isMethod cX6_isMethod 3 (some .boolean), Cond.methodLink RX6 83 yX6_within, Cond.static yX6_within, Cond.code yX6_within cX6_within 3 (some .boolean), Cond.methodLink RX6 87 yX6_buildOf, Cond.instanceMethod yX6_buildOf, Cond.selects RX6 yX6_buildOf yX6_buildOf, Cond.code yX6_buildOf cX6_buildOf 2 (some (.object "EqualMethods$Build")), Cond.fieldLink RX6 10 "EqualMethods" "build0" "LEqualMethods$Build;", Cond.fieldLink RX6 16 "EqualMethods" "build1" "LEqualMethods$Build;", Cond.methodLink RX6 168 yX0_has, Cond.instanceMethod yX0_has, Cond.selects RX0 yX0_has yX0_has, Cond.initialized RX0, Cond.code yX0_has cX0_has 2 (some .boolean), Cond.fieldLink RX0 9 "EqualMethods$Build" "methods" "I"]
def wsX6_run_r2 : List Cond := [Cond.methodLink RX6 117 yX1_turnTo, Cond.instanceMethod yX1_turnTo, Cond.selects RX1 yX1_turnTo yX1_turnTo, Cond.initialized RX1, Cond.code yX1_turnTo cX1_turnTo 2 none, Cond.fieldLink RX1 35 "EqualMethods$Machine" "build" "LEqualMethods$Build;", Cond.methodLink RX6 121 yX1_go, Cond.instanceMethod yX1_go, Cond.selects RX1 yX1_go yX1_go, Cond.code yX1_go cX1_go 5 none, Cond.fieldLink RX1 12 "EqualMethods$Machine" "trace" "LEqualMethods$Trace;", Cond.fieldLink RX1 31 "EqualMethods$Machine" "underWay" "I", Cond.fieldLink RX1 22 "EqualMethods$Machine" "lines" "[I", Cond.fieldLink RX1 53 "EqualMethods$Build" "sizes" "[I", Cond.fieldLink RX1 25 "EqualMethods$Machine" "methods" "[I", Cond.fieldLink RX1 62 "EqualMethods$Build" "ops" "[I", Cond.methodLink RX1 46 yX5_forget, Cond.instanceMethod yX5_forget, Cond.selects RX5 yX5_forget yX5_forget, Cond.initialized RX5, Cond.code yX5_forget cX5_forget 1 none, Cond.fieldLink RX5 21 "EqualMethods$Trace" "ops" "I", Cond.fieldLink RX5 24 "EqualMethods$Trace" "deepest" "I", Cond.fieldLink RX5 27 "EqualMethods$Trace" "tells" "I"]
def wsX6_run_r3 : List Cond := [Cond.fieldLink RX5 37 "EqualMethods$Trace" "callings" "I", Cond.methodLink RX5 52 yX5_finish, Cond.instanceMethod yX5_finish, Cond.selects RX5 yX5_finish yX5_finish, Cond.code yX5_finish cX5_finish 4 none, Cond.fieldLink RX5 9 "EqualMethods$Trace" "end" "I", Cond.fieldLink RX5 15 "EqualMethods$Trace" "kind" "I", Cond.fieldLink RX5 18 "EqualMethods$Trace" "number" "I", Cond.methodLink RX1 49 yX1_enter, Cond.instanceMethod yX1_enter, Cond.selects RX1 yX1_enter yX1_enter, Cond.code yX1_enter cX1_enter 6 none, Cond.fieldLink RX1 18 "EqualMethods$Machine" "registers" "[I", Cond.fieldLink RX1 131 "EqualMethods$Trace" "deepest" "I", Cond.methodLink RX1 58 yX1_giveBack, Cond.instanceMethod yX1_giveBack, Cond.selects RX1 yX1_giveBack yX1_giveBack, Cond.code yX1_giveBack cX1_giveBack 2 none, Cond.fieldLink RX1 88 "EqualMethods$Build" "as" "[I", Cond.methodLink RX1 134 yX5_finish, Cond.methodLink RX1 65 yX1_placeOfTop, Cond.instanceMethod yX1_placeOfTop, Cond.selects RX1 yX1_placeOfTop yX1_placeOfTop, Cond.code yX1_placeOfTop cX1_placeOfTop 1 (some .int)]
def wsX6_run_r4 : List Cond := [Cond.methodLink RX1 79 yX0_placeOf, Cond.instanceMethod yX0_placeOf, Cond.selects RX0 yX0_placeOf yX0_placeOf, Cond.code yX0_placeOf cX0_placeOf 3 (some .int), Cond.methodLink RX1 97 yX1_put, Cond.instanceMethod yX1_put, Cond.selects RX1 yX1_put yX1_put, Cond.code yX1_put cX1_put 3 none, Cond.methodLink RX1 69 yX1_isSpentBy, Cond.instanceMethod yX1_isSpentBy, Cond.selects RX1 yX1_isSpentBy yX1_isSpentBy, Cond.code yX1_isSpentBy cX1_isSpentBy 2 (some .boolean), Cond.fieldLink RX1 83 "EqualMethods$Trace" "ops" "I", Cond.fieldLink RX1 85 "EqualMethods$Trace" "tells" "I", Cond.methodLink RX1 73 yX1_stop, Cond.instanceMethod yX1_stop, Cond.selects RX1 yX1_stop yX1_stop, Cond.code yX1_stop cX1_stop 4 none, Cond.methodLink RX1 76 yX1_perform, Cond.instanceMethod yX1_perform, Cond.selects RX1 yX1_perform yX1_perform, Cond.code yX1_perform cX1_perform 5 none, Cond.fieldLink RX1 91 "EqualMethods$Build" "bs" "[I", Cond.fieldLink RX1 94 "EqualMethods$Build" "cs" "[I"]
def wsX6_run_r5 : List Cond := [Cond.methodLink RX1 101 yX1_get, Cond.instanceMethod yX1_get, Cond.selects RX1 yX1_get yX1_get, Cond.code yX1_get cX1_get 2 (some .int), Cond.methodLink RX1 105 yX5_addTell, Cond.instanceMethod yX5_addTell, Cond.selects RX5 yX5_addTell yX5_addTell, Cond.code yX5_addTell cX5_addTell 3 none, Cond.fieldLink RX5 30 "EqualMethods$Trace" "tellPorts" "[I", Cond.fieldLink RX5 34 "EqualMethods$Trace" "tellNumbers" "[I", Cond.methodLink RX1 108 yX1_ask, Cond.instanceMethod yX1_ask, Cond.selects RX1 yX1_ask yX1_ask, Cond.code yX1_ask cX1_ask 5 none, Cond.fieldLink RX1 39 "EqualMethods$Machine" "mask" "I", Cond.fieldLink RX1 42 "EqualMethods$Machine" "walking" "Z", Cond.methodLink RX1 119 yX0_has, Cond.methodLink RX1 122 yX1_answer, Cond.instanceMethod yX1_answer, Cond.selects RX1 yX1_answer yX1_answer, Cond.code yX1_answer cX1_answer 6 none, Cond.fieldLink RX1 125 "EqualMethods$Trace" "callings" "I", Cond.fieldLink RX1 28 "EqualMethods$Machine" "answers" "[I", Cond.methodLink RX1 128 yX5_addCalling]
def wsX6_run_r6 : List Cond := [Cond.instanceMethod yX5_addCalling, Cond.selects RX5 yX5_addCalling yX5_addCalling, Cond.code yX5_addCalling cX5_addCalling 4 none, Cond.fieldLink RX5 40 "EqualMethods$Trace" "called" "[I", Cond.fieldLink RX5 43 "EqualMethods$Trace" "calledX" "[I", Cond.fieldLink RX5 46 "EqualMethods$Trace" "calledY" "[I", Cond.fieldLink RX5 49 "EqualMethods$Trace" "tellsAhead" "[I", Cond.methodLink RX1 112 yX1_calculate, Cond.instanceMethod yX1_calculate, Cond.selects RX1 yX1_calculate yX1_calculate, Cond.code yX1_calculate cX1_calculate 5 none, Cond.methodLink RX1 115 yX1_result, Cond.static yX1_result, Cond.code yX1_result cX1_result 3 (some .int)]
def wsX6_run : List Cond := .code yX6_run cX6_run 5 (some .int) :: ((wsX6_run_r1 ++ (wsX6_run_r2 ++ (wsX6_run_r3 ++ (wsX6_run_r4 ++ (wsX6_run_r5 ++ wsX6_run_r6))))) ++ wsX60 ++ wsX10 ++ wsX50 ++ wsX00)
def wsX6_ran : List Cond := .code yX6_ran cX6_ran 3 (some .int) :: ([.fieldLink RX6 67 "EqualMethods" "shown" "LEqualMethods$Machine;", .fieldLink RX6 125 "EqualMethods$Machine" "trace" "LEqualMethods$Trace;", .fieldLink RX6 134 "EqualMethods$Trace" "number" "I", .fieldLink RX6 137 "EqualMethods$Trace" "kind" "I", .fieldLink RX6 140 "EqualMethods$Trace" "ops" "I", .fieldLink RX6 143 "EqualMethods$Trace" "tells" "I", .fieldLink RX6 146 "EqualMethods$Trace" "deepest" "I"] ++ wsX60 ++ wsX10 ++ wsX50)
def wsX6_told : List Cond := .code yX6_told cX6_told 4 (some .int) :: ([.fieldLink RX6 67 "EqualMethods" "shown" "LEqualMethods$Machine;", .fieldLink RX6 125 "EqualMethods$Machine" "trace" "LEqualMethods$Trace;", .fieldLink RX6 143 "EqualMethods$Trace" "tells" "I", .fieldLink RX6 149 "EqualMethods$Trace" "tellPorts" "[I", .fieldLink RX6 152 "EqualMethods$Trace" "tellNumbers" "[I", .methodLink RX6 83 yX6_within, .static yX6_within, .initialized RX6, .code yX6_within cX6_within 3 (some .boolean)] ++ wsX60 ++ wsX10 ++ wsX50)
def wsX6_rename : List Cond := .code yX6_rename cX6_rename 3 (some .int) :: ([.fieldLink RX6 22 "EqualMethods" "ports" "LEqualMethods$Ports;", .methodLink RX6 83 yX6_within, .static yX6_within, .initialized RX6, .code yX6_within cX6_within 3 (some .boolean), .methodLink RX6 155 yX3_swapIn, .instanceMethod yX3_swapIn, .selects RX3 yX3_swapIn yX3_swapIn, .initialized RX3, .code yX3_swapIn cX3_swapIn 4 (some .int), .fieldLink RX3 9 "EqualMethods$Ports" "standsFor" "[I", .fieldLink RX3 18 "EqualMethods$Ports" "standsIn" "[I", .methodLink RX3 21 yX3_name, .instanceMethod yX3_name, .selects RX3 yX3_name yX3_name, .code yX3_name cX3_name 3 none] ++ wsX60 ++ wsX30)
def wsX6_group : List Cond := .code yX6_group cX6_group 4 (some .int) :: ([.fieldLink RX6 22 "EqualMethods" "ports" "LEqualMethods$Ports;", .fieldLink RX6 159 "EqualMethods$Ports" "groups" "[I", .methodLink RX6 83 yX6_within, .static yX6_within, .initialized RX6, .code yX6_within cX6_within 3 (some .boolean)] ++ wsX60 ++ wsX30)
def wsX6_isPair : List Cond := .code yX6_isPair cX6_isPair 3 (some .boolean) :: ([.fieldLink RX6 10 "EqualMethods" "build0" "LEqualMethods$Build;", .fieldLink RX6 16 "EqualMethods" "build1" "LEqualMethods$Build;", .methodLink RX6 168 yX0_has, .instanceMethod yX0_has, .selects RX0 yX0_has yX0_has, .initialized RX0, .code yX0_has cX0_has 2 (some .boolean), .fieldLink RX0 9 "EqualMethods$Build" "methods" "I"] ++ wsX60 ++ wsX00)
def wsX6_runBoth_r1 : List Cond := [Cond.fieldLink RX6 71 "EqualMethods" "run0" "LEqualMethods$Machine;", Cond.fieldLink RX6 74 "EqualMethods" "run1" "LEqualMethods$Machine;", Cond.fieldLink RX6 125 "EqualMethods$Machine" "trace" "LEqualMethods$Trace;", Cond.fieldLink RX6 129 "EqualMethods$Trace" "end" "I", Cond.methodLink RX6 121 yX1_go, Cond.instanceMethod yX1_go, Cond.selects RX1 yX1_go yX1_go, Cond.initialized RX1, Cond.code yX1_go cX1_go 5 none, Cond.fieldLink RX1 12 "EqualMethods$Machine" "trace" "LEqualMethods$Trace;", Cond.fieldLink RX1 31 "EqualMethods$Machine" "underWay" "I", Cond.fieldLink RX1 22 "EqualMethods$Machine" "lines" "[I", Cond.fieldLink RX1 35 "EqualMethods$Machine" "build" "LEqualMethods$Build;", Cond.fieldLink RX1 53 "EqualMethods$Build" "sizes" "[I", Cond.fieldLink RX1 25 "EqualMethods$Machine" "methods" "[I", Cond.fieldLink RX1 62 "EqualMethods$Build" "ops" "[I", Cond.methodLink RX1 46 yX5_forget, Cond.instanceMethod yX5_forget, Cond.selects RX5 yX5_forget yX5_forget, Cond.initialized RX5, Cond.code yX5_forget cX5_forget 1 none, Cond.fieldLink RX5 21 "EqualMethods$Trace" "ops" "I", Cond.fieldLink RX5 24 "EqualMethods$Trace" "deepest" "I", Cond.fieldLink RX5 27 "EqualMethods$Trace" "tells" "I"]
def wsX6_runBoth_r2 : List Cond := [Cond.fieldLink RX5 37 "EqualMethods$Trace" "callings" "I", Cond.methodLink RX5 52 yX5_finish, Cond.instanceMethod yX5_finish, Cond.selects RX5 yX5_finish yX5_finish, Cond.code yX5_finish cX5_finish 4 none, Cond.fieldLink RX5 9 "EqualMethods$Trace" "end" "I", Cond.fieldLink RX5 15 "EqualMethods$Trace" "kind" "I", Cond.fieldLink RX5 18 "EqualMethods$Trace" "number" "I", Cond.methodLink RX1 49 yX1_enter, Cond.instanceMethod yX1_enter, Cond.selects RX1 yX1_enter yX1_enter, Cond.code yX1_enter cX1_enter 6 none, Cond.fieldLink RX1 18 "EqualMethods$Machine" "registers" "[I", Cond.fieldLink RX1 131 "EqualMethods$Trace" "deepest" "I", Cond.methodLink RX1 58 yX1_giveBack, Cond.instanceMethod yX1_giveBack, Cond.selects RX1 yX1_giveBack yX1_giveBack, Cond.code yX1_giveBack cX1_giveBack 2 none, Cond.fieldLink RX1 88 "EqualMethods$Build" "as" "[I", Cond.methodLink RX1 134 yX5_finish, Cond.methodLink RX1 65 yX1_placeOfTop, Cond.instanceMethod yX1_placeOfTop, Cond.selects RX1 yX1_placeOfTop yX1_placeOfTop, Cond.code yX1_placeOfTop cX1_placeOfTop 1 (some .int)]
def wsX6_runBoth_r3 : List Cond := [Cond.methodLink RX1 79 yX0_placeOf, Cond.instanceMethod yX0_placeOf, Cond.selects RX0 yX0_placeOf yX0_placeOf, Cond.initialized RX0, Cond.code yX0_placeOf cX0_placeOf 3 (some .int), Cond.methodLink RX1 97 yX1_put, Cond.instanceMethod yX1_put, Cond.selects RX1 yX1_put yX1_put, Cond.code yX1_put cX1_put 3 none, Cond.methodLink RX1 69 yX1_isSpentBy, Cond.instanceMethod yX1_isSpentBy, Cond.selects RX1 yX1_isSpentBy yX1_isSpentBy, Cond.code yX1_isSpentBy cX1_isSpentBy 2 (some .boolean), Cond.fieldLink RX1 83 "EqualMethods$Trace" "ops" "I", Cond.fieldLink RX1 85 "EqualMethods$Trace" "tells" "I", Cond.methodLink RX1 73 yX1_stop, Cond.instanceMethod yX1_stop, Cond.selects RX1 yX1_stop yX1_stop, Cond.code yX1_stop cX1_stop 4 none, Cond.methodLink RX1 76 yX1_perform, Cond.instanceMethod yX1_perform, Cond.selects RX1 yX1_perform yX1_perform, Cond.code yX1_perform cX1_perform 5 none, Cond.fieldLink RX1 91 "EqualMethods$Build" "bs" "[I"]
def wsX6_runBoth_r4 : List Cond := [Cond.fieldLink RX1 94 "EqualMethods$Build" "cs" "[I", Cond.methodLink RX1 101 yX1_get, Cond.instanceMethod yX1_get, Cond.selects RX1 yX1_get yX1_get, Cond.code yX1_get cX1_get 2 (some .int), Cond.methodLink RX1 105 yX5_addTell, Cond.instanceMethod yX5_addTell, Cond.selects RX5 yX5_addTell yX5_addTell, Cond.code yX5_addTell cX5_addTell 3 none, Cond.fieldLink RX5 30 "EqualMethods$Trace" "tellPorts" "[I", Cond.fieldLink RX5 34 "EqualMethods$Trace" "tellNumbers" "[I", Cond.methodLink RX1 108 yX1_ask, Cond.instanceMethod yX1_ask, Cond.selects RX1 yX1_ask yX1_ask, Cond.code yX1_ask cX1_ask 5 none, Cond.fieldLink RX1 39 "EqualMethods$Machine" "mask" "I", Cond.fieldLink RX1 42 "EqualMethods$Machine" "walking" "Z", Cond.methodLink RX1 119 yX0_has, Cond.instanceMethod yX0_has, Cond.selects RX0 yX0_has yX0_has, Cond.code yX0_has cX0_has 2 (some .boolean), Cond.fieldLink RX0 9 "EqualMethods$Build" "methods" "I", Cond.methodLink RX1 122 yX1_answer, Cond.instanceMethod yX1_answer]
def wsX6_runBoth_r5 : List Cond := [Cond.selects RX1 yX1_answer yX1_answer, Cond.code yX1_answer cX1_answer 6 none, Cond.fieldLink RX1 125 "EqualMethods$Trace" "callings" "I", Cond.fieldLink RX1 28 "EqualMethods$Machine" "answers" "[I", Cond.methodLink RX1 128 yX5_addCalling, Cond.instanceMethod yX5_addCalling, Cond.selects RX5 yX5_addCalling yX5_addCalling, Cond.code yX5_addCalling cX5_addCalling 4 none, Cond.fieldLink RX5 40 "EqualMethods$Trace" "called" "[I", Cond.fieldLink RX5 43 "EqualMethods$Trace" "calledX" "[I", Cond.fieldLink RX5 46 "EqualMethods$Trace" "calledY" "[I", Cond.fieldLink RX5 49 "EqualMethods$Trace" "tellsAhead" "[I", Cond.methodLink RX1 112 yX1_calculate, Cond.instanceMethod yX1_calculate, Cond.selects RX1 yX1_calculate yX1_calculate, Cond.code yX1_calculate cX1_calculate 5 none, Cond.methodLink RX1 115 yX1_result, Cond.static yX1_result, Cond.code yX1_result cX1_result 3 (some .int)]
def wsX6_runBoth : List Cond := .code yX6_runBoth cX6_runBoth 5 (some .boolean) :: ((wsX6_runBoth_r1 ++ (wsX6_runBoth_r2 ++ (wsX6_runBoth_r3 ++ (wsX6_runBoth_r4 ++ wsX6_runBoth_r5)))) ++ wsX60 ++ wsX10 ++ wsX50 ++ wsX00)
def wsX6_runsAlike_r1 : List Cond := [Cond.fieldLink RX6 71 "EqualMethods" "run0" "LEqualMethods$Machine;", Cond.fieldLink RX6 125 "EqualMethods$Machine" "trace" "LEqualMethods$Trace;", Cond.fieldLink RX6 74 "EqualMethods" "run1" "LEqualMethods$Machine;", Cond.fieldLink RX6 143 "EqualMethods$Trace" "tells" "I", Cond.methodLink RX6 224 yX5_endsLike, Cond.instanceMethod yX5_endsLike, Cond.selects RX5 yX5_endsLike yX5_endsLike, Cond.initialized RX5, Cond.code yX5_endsLike cX5_endsLike 2 (some .boolean), Cond.fieldLink RX5 15 "EqualMethods$Trace" "kind" "I", Cond.fieldLink RX5 18 "EqualMethods$Trace" "number" "I", Cond.methodLink RX6 228 yX3_alike, Cond.instanceMethod yX3_alike, Cond.selects RX3 yX3_alike yX3_alike, Cond.initialized RX3, Cond.code yX3_alike cX3_alike 8 (some .boolean), Cond.methodLink RX3 31 yX3_alikeIn, Cond.instanceMethod yX3_alikeIn, Cond.selects RX3 yX3_alikeIn yX3_alikeIn, Cond.code yX3_alikeIn cX3_alikeIn 11 (some .boolean), Cond.fieldLink RX3 35 "EqualMethods$Trace" "tellPorts" "[I", Cond.fieldLink RX3 15 "EqualMethods$Ports" "groups" "[I", Cond.fieldLink RX3 18 "EqualMethods$Ports" "standsIn" "[I", Cond.fieldLink RX3 44 "EqualMethods$Trace" "tellNumbers" "[I"]
def wsX6_runsAlike_r2 : List Cond := [Cond.methodLink RX3 40 yX3_nextIn, Cond.instanceMethod yX3_nextIn, Cond.selects RX3 yX3_nextIn yX3_nextIn, Cond.code yX3_nextIn cX3_nextIn 6 (some .int)]
def wsX6_runsAlike : List Cond := .code yX6_runsAlike cX6_runsAlike 4 (some .boolean) :: ((wsX6_runsAlike_r1 ++ wsX6_runsAlike_r2) ++ wsX60 ++ wsX10 ++ wsX50 ++ wsX30)
def wsX6_held_r1 : List Cond := [Cond.fieldLink RX6 59 "EqualMethods" "mask" "I", Cond.fieldLink RX6 22 "EqualMethods" "ports" "LEqualMethods$Ports;", Cond.fieldLink RX6 43 "EqualMethods" "unlikeX" "I", Cond.fieldLink RX6 47 "EqualMethods" "unlikeY" "I", Cond.methodLink RX6 177 yX6_runBoth, Cond.instanceMethod yX6_runBoth, Cond.selects RX6 yX6_runBoth yX6_runBoth, Cond.initialized RX6, Cond.code yX6_runBoth cX6_runBoth 5 (some .boolean), Cond.fieldLink RX6 71 "EqualMethods" "run0" "LEqualMethods$Machine;", Cond.fieldLink RX6 74 "EqualMethods" "run1" "LEqualMethods$Machine;", Cond.fieldLink RX6 125 "EqualMethods$Machine" "trace" "LEqualMethods$Trace;", Cond.fieldLink RX6 129 "EqualMethods$Trace" "end" "I", Cond.methodLink RX6 121 yX1_go, Cond.instanceMethod yX1_go, Cond.selects RX1 yX1_go yX1_go, Cond.initialized RX1, Cond.code yX1_go cX1_go 5 none, Cond.fieldLink RX1 12 "EqualMethods$Machine" "trace" "LEqualMethods$Trace;", Cond.fieldLink RX1 31 "EqualMethods$Machine" "underWay" "I", Cond.fieldLink RX1 22 "EqualMethods$Machine" "lines" "[I", Cond.fieldLink RX1 35 "EqualMethods$Machine" "build" "LEqualMethods$Build;", Cond.fieldLink RX1 53 "EqualMethods$Build" "sizes" "[I", Cond.fieldLink RX1 25 "EqualMethods$Machine" "methods" "[I"]
def wsX6_held_r2 : List Cond := [Cond.fieldLink RX1 62 "EqualMethods$Build" "ops" "[I", Cond.methodLink RX1 46 yX5_forget, Cond.instanceMethod yX5_forget, Cond.selects RX5 yX5_forget yX5_forget, Cond.initialized RX5, Cond.code yX5_forget cX5_forget 1 none, Cond.fieldLink RX5 21 "EqualMethods$Trace" "ops" "I", Cond.fieldLink RX5 24 "EqualMethods$Trace" "deepest" "I", Cond.fieldLink RX5 27 "EqualMethods$Trace" "tells" "I", Cond.fieldLink RX5 37 "EqualMethods$Trace" "callings" "I", Cond.methodLink RX5 52 yX5_finish, Cond.instanceMethod yX5_finish, Cond.selects RX5 yX5_finish yX5_finish, Cond.code yX5_finish cX5_finish 4 none, Cond.fieldLink RX5 9 "EqualMethods$Trace" "end" "I", Cond.fieldLink RX5 15 "EqualMethods$Trace" "kind" "I", Cond.fieldLink RX5 18 "EqualMethods$Trace" "number" "I", Cond.methodLink RX1 49 yX1_enter, Cond.instanceMethod yX1_enter, Cond.selects RX1 yX1_enter yX1_enter, Cond.code yX1_enter cX1_enter 6 none, Cond.fieldLink RX1 18 "EqualMethods$Machine" "registers" "[I", Cond.fieldLink RX1 131 "EqualMethods$Trace" "deepest" "I", Cond.methodLink RX1 58 yX1_giveBack]
def wsX6_held_r3 : List Cond := [Cond.instanceMethod yX1_giveBack, Cond.selects RX1 yX1_giveBack yX1_giveBack, Cond.code yX1_giveBack cX1_giveBack 2 none, Cond.fieldLink RX1 88 "EqualMethods$Build" "as" "[I", Cond.methodLink RX1 134 yX5_finish, Cond.methodLink RX1 65 yX1_placeOfTop, Cond.instanceMethod yX1_placeOfTop, Cond.selects RX1 yX1_placeOfTop yX1_placeOfTop, Cond.code yX1_placeOfTop cX1_placeOfTop 1 (some .int), Cond.methodLink RX1 79 yX0_placeOf, Cond.instanceMethod yX0_placeOf, Cond.selects RX0 yX0_placeOf yX0_placeOf, Cond.initialized RX0, Cond.code yX0_placeOf cX0_placeOf 3 (some .int), Cond.methodLink RX1 97 yX1_put, Cond.instanceMethod yX1_put, Cond.selects RX1 yX1_put yX1_put, Cond.code yX1_put cX1_put 3 none, Cond.methodLink RX1 69 yX1_isSpentBy, Cond.instanceMethod yX1_isSpentBy, Cond.selects RX1 yX1_isSpentBy yX1_isSpentBy, Cond.code yX1_isSpentBy cX1_isSpentBy 2 (some .boolean), Cond.fieldLink RX1 83 "EqualMethods$Trace" "ops" "I", Cond.fieldLink RX1 85 "EqualMethods$Trace" "tells" "I"]
def wsX6_held_r4 : List Cond := [Cond.methodLink RX1 73 yX1_stop, Cond.instanceMethod yX1_stop, Cond.selects RX1 yX1_stop yX1_stop, Cond.code yX1_stop cX1_stop 4 none, Cond.methodLink RX1 76 yX1_perform, Cond.instanceMethod yX1_perform, Cond.selects RX1 yX1_perform yX1_perform, Cond.code yX1_perform cX1_perform 5 none, Cond.fieldLink RX1 91 "EqualMethods$Build" "bs" "[I", Cond.fieldLink RX1 94 "EqualMethods$Build" "cs" "[I", Cond.methodLink RX1 101 yX1_get, Cond.instanceMethod yX1_get, Cond.selects RX1 yX1_get yX1_get, Cond.code yX1_get cX1_get 2 (some .int), Cond.methodLink RX1 105 yX5_addTell, Cond.instanceMethod yX5_addTell, Cond.selects RX5 yX5_addTell yX5_addTell, Cond.code yX5_addTell cX5_addTell 3 none, Cond.fieldLink RX5 30 "EqualMethods$Trace" "tellPorts" "[I", Cond.fieldLink RX5 34 "EqualMethods$Trace" "tellNumbers" "[I", Cond.methodLink RX1 108 yX1_ask, Cond.instanceMethod yX1_ask, Cond.selects RX1 yX1_ask yX1_ask, Cond.code yX1_ask cX1_ask 5 none]
def wsX6_held_r5 : List Cond := [Cond.fieldLink RX1 39 "EqualMethods$Machine" "mask" "I", Cond.fieldLink RX1 42 "EqualMethods$Machine" "walking" "Z", Cond.methodLink RX1 119 yX0_has, Cond.instanceMethod yX0_has, Cond.selects RX0 yX0_has yX0_has, Cond.code yX0_has cX0_has 2 (some .boolean), Cond.fieldLink RX0 9 "EqualMethods$Build" "methods" "I", Cond.methodLink RX1 122 yX1_answer, Cond.instanceMethod yX1_answer, Cond.selects RX1 yX1_answer yX1_answer, Cond.code yX1_answer cX1_answer 6 none, Cond.fieldLink RX1 125 "EqualMethods$Trace" "callings" "I", Cond.fieldLink RX1 28 "EqualMethods$Machine" "answers" "[I", Cond.methodLink RX1 128 yX5_addCalling, Cond.instanceMethod yX5_addCalling, Cond.selects RX5 yX5_addCalling yX5_addCalling, Cond.code yX5_addCalling cX5_addCalling 4 none, Cond.fieldLink RX5 40 "EqualMethods$Trace" "called" "[I", Cond.fieldLink RX5 43 "EqualMethods$Trace" "calledX" "[I", Cond.fieldLink RX5 46 "EqualMethods$Trace" "calledY" "[I", Cond.fieldLink RX5 49 "EqualMethods$Trace" "tellsAhead" "[I", Cond.methodLink RX1 112 yX1_calculate, Cond.instanceMethod yX1_calculate, Cond.selects RX1 yX1_calculate yX1_calculate]
def wsX6_held_r6 : List Cond := [Cond.code yX1_calculate cX1_calculate 5 none, Cond.methodLink RX1 115 yX1_result, Cond.static yX1_result, Cond.code yX1_result cX1_result 3 (some .int), Cond.methodLink RX6 220 yX6_runsAlike, Cond.instanceMethod yX6_runsAlike, Cond.selects RX6 yX6_runsAlike yX6_runsAlike, Cond.code yX6_runsAlike cX6_runsAlike 4 (some .boolean), Cond.fieldLink RX6 143 "EqualMethods$Trace" "tells" "I", Cond.methodLink RX6 224 yX5_endsLike, Cond.instanceMethod yX5_endsLike, Cond.selects RX5 yX5_endsLike yX5_endsLike, Cond.code yX5_endsLike cX5_endsLike 2 (some .boolean), Cond.methodLink RX6 228 yX3_alike, Cond.instanceMethod yX3_alike, Cond.selects RX3 yX3_alike yX3_alike, Cond.initialized RX3, Cond.code yX3_alike cX3_alike 8 (some .boolean), Cond.methodLink RX3 31 yX3_alikeIn, Cond.instanceMethod yX3_alikeIn, Cond.selects RX3 yX3_alikeIn yX3_alikeIn, Cond.code yX3_alikeIn cX3_alikeIn 11 (some .boolean), Cond.fieldLink RX3 35 "EqualMethods$Trace" "tellPorts" "[I", Cond.fieldLink RX3 15 "EqualMethods$Ports" "groups" "[I"]
def wsX6_held_r7 : List Cond := [Cond.fieldLink RX3 18 "EqualMethods$Ports" "standsIn" "[I", Cond.fieldLink RX3 44 "EqualMethods$Trace" "tellNumbers" "[I", Cond.methodLink RX3 40 yX3_nextIn, Cond.instanceMethod yX3_nextIn, Cond.selects RX3 yX3_nextIn yX3_nextIn, Cond.code yX3_nextIn cX3_nextIn 6 (some .int)]
def wsX6_held : List Cond := .code yX6_held cX6_held 6 (some .int) :: ((wsX6_held_r1 ++ (wsX6_held_r2 ++ (wsX6_held_r3 ++ (wsX6_held_r4 ++ (wsX6_held_r5 ++ (wsX6_held_r6 ++ wsX6_held_r7)))))) ++ wsX60 ++ wsX10 ++ wsX50 ++ wsX00 ++ wsX30)
def wsX6_hold_r1 : List Cond := [Cond.fieldLink RX6 43 "EqualMethods" "unlikeX" "I", Cond.fieldLink RX6 50 "EqualMethods" "firstX" "I", Cond.fieldLink RX6 47 "EqualMethods" "unlikeY" "I", Cond.fieldLink RX6 53 "EqualMethods" "firstY" "I", Cond.methodLink RX6 162 yX6_isPair, Cond.instanceMethod yX6_isPair, Cond.selects RX6 yX6_isPair yX6_isPair, Cond.initialized RX6, Cond.code yX6_isPair cX6_isPair 3 (some .boolean), Cond.fieldLink RX6 10 "EqualMethods" "build0" "LEqualMethods$Build;", Cond.fieldLink RX6 16 "EqualMethods" "build1" "LEqualMethods$Build;", Cond.methodLink RX6 168 yX0_has, Cond.instanceMethod yX0_has, Cond.selects RX0 yX0_has yX0_has, Cond.initialized RX0, Cond.code yX0_has cX0_has 2 (some .boolean), Cond.fieldLink RX0 9 "EqualMethods$Build" "methods" "I", Cond.methodLink RX6 165 yX6_held, Cond.instanceMethod yX6_held, Cond.selects RX6 yX6_held yX6_held, Cond.code yX6_held cX6_held 6 (some .int), Cond.fieldLink RX6 59 "EqualMethods" "mask" "I", Cond.fieldLink RX6 22 "EqualMethods" "ports" "LEqualMethods$Ports;", Cond.methodLink RX6 177 yX6_runBoth]
def wsX6_hold_r2 : List Cond := [Cond.instanceMethod yX6_runBoth, Cond.selects RX6 yX6_runBoth yX6_runBoth, Cond.code yX6_runBoth cX6_runBoth 5 (some .boolean), Cond.fieldLink RX6 71 "EqualMethods" "run0" "LEqualMethods$Machine;", Cond.fieldLink RX6 74 "EqualMethods" "run1" "LEqualMethods$Machine;", Cond.fieldLink RX6 125 "EqualMethods$Machine" "trace" "LEqualMethods$Trace;", Cond.fieldLink RX6 129 "EqualMethods$Trace" "end" "I", Cond.methodLink RX6 121 yX1_go, Cond.instanceMethod yX1_go, Cond.selects RX1 yX1_go yX1_go, Cond.initialized RX1, Cond.code yX1_go cX1_go 5 none, Cond.fieldLink RX1 12 "EqualMethods$Machine" "trace" "LEqualMethods$Trace;", Cond.fieldLink RX1 31 "EqualMethods$Machine" "underWay" "I", Cond.fieldLink RX1 22 "EqualMethods$Machine" "lines" "[I", Cond.fieldLink RX1 35 "EqualMethods$Machine" "build" "LEqualMethods$Build;", Cond.fieldLink RX1 53 "EqualMethods$Build" "sizes" "[I", Cond.fieldLink RX1 25 "EqualMethods$Machine" "methods" "[I", Cond.fieldLink RX1 62 "EqualMethods$Build" "ops" "[I", Cond.methodLink RX1 46 yX5_forget, Cond.instanceMethod yX5_forget, Cond.selects RX5 yX5_forget yX5_forget, Cond.initialized RX5, Cond.code yX5_forget cX5_forget 1 none]
def wsX6_hold_r3 : List Cond := [Cond.fieldLink RX5 21 "EqualMethods$Trace" "ops" "I", Cond.fieldLink RX5 24 "EqualMethods$Trace" "deepest" "I", Cond.fieldLink RX5 27 "EqualMethods$Trace" "tells" "I", Cond.fieldLink RX5 37 "EqualMethods$Trace" "callings" "I", Cond.methodLink RX5 52 yX5_finish, Cond.instanceMethod yX5_finish, Cond.selects RX5 yX5_finish yX5_finish, Cond.code yX5_finish cX5_finish 4 none, Cond.fieldLink RX5 9 "EqualMethods$Trace" "end" "I", Cond.fieldLink RX5 15 "EqualMethods$Trace" "kind" "I", Cond.fieldLink RX5 18 "EqualMethods$Trace" "number" "I", Cond.methodLink RX1 49 yX1_enter, Cond.instanceMethod yX1_enter, Cond.selects RX1 yX1_enter yX1_enter, Cond.code yX1_enter cX1_enter 6 none, Cond.fieldLink RX1 18 "EqualMethods$Machine" "registers" "[I", Cond.fieldLink RX1 131 "EqualMethods$Trace" "deepest" "I", Cond.methodLink RX1 58 yX1_giveBack, Cond.instanceMethod yX1_giveBack, Cond.selects RX1 yX1_giveBack yX1_giveBack, Cond.code yX1_giveBack cX1_giveBack 2 none, Cond.fieldLink RX1 88 "EqualMethods$Build" "as" "[I", Cond.methodLink RX1 134 yX5_finish, Cond.methodLink RX1 65 yX1_placeOfTop]
def wsX6_hold_r4 : List Cond := [Cond.instanceMethod yX1_placeOfTop, Cond.selects RX1 yX1_placeOfTop yX1_placeOfTop, Cond.code yX1_placeOfTop cX1_placeOfTop 1 (some .int), Cond.methodLink RX1 79 yX0_placeOf, Cond.instanceMethod yX0_placeOf, Cond.selects RX0 yX0_placeOf yX0_placeOf, Cond.code yX0_placeOf cX0_placeOf 3 (some .int), Cond.methodLink RX1 97 yX1_put, Cond.instanceMethod yX1_put, Cond.selects RX1 yX1_put yX1_put, Cond.code yX1_put cX1_put 3 none, Cond.methodLink RX1 69 yX1_isSpentBy, Cond.instanceMethod yX1_isSpentBy, Cond.selects RX1 yX1_isSpentBy yX1_isSpentBy, Cond.code yX1_isSpentBy cX1_isSpentBy 2 (some .boolean), Cond.fieldLink RX1 83 "EqualMethods$Trace" "ops" "I", Cond.fieldLink RX1 85 "EqualMethods$Trace" "tells" "I", Cond.methodLink RX1 73 yX1_stop, Cond.instanceMethod yX1_stop, Cond.selects RX1 yX1_stop yX1_stop, Cond.code yX1_stop cX1_stop 4 none, Cond.methodLink RX1 76 yX1_perform, Cond.instanceMethod yX1_perform, Cond.selects RX1 yX1_perform yX1_perform]
def wsX6_hold_r5 : List Cond := [Cond.code yX1_perform cX1_perform 5 none, Cond.fieldLink RX1 91 "EqualMethods$Build" "bs" "[I", Cond.fieldLink RX1 94 "EqualMethods$Build" "cs" "[I", Cond.methodLink RX1 101 yX1_get, Cond.instanceMethod yX1_get, Cond.selects RX1 yX1_get yX1_get, Cond.code yX1_get cX1_get 2 (some .int), Cond.methodLink RX1 105 yX5_addTell, Cond.instanceMethod yX5_addTell, Cond.selects RX5 yX5_addTell yX5_addTell, Cond.code yX5_addTell cX5_addTell 3 none, Cond.fieldLink RX5 30 "EqualMethods$Trace" "tellPorts" "[I", Cond.fieldLink RX5 34 "EqualMethods$Trace" "tellNumbers" "[I", Cond.methodLink RX1 108 yX1_ask, Cond.instanceMethod yX1_ask, Cond.selects RX1 yX1_ask yX1_ask, Cond.code yX1_ask cX1_ask 5 none, Cond.fieldLink RX1 39 "EqualMethods$Machine" "mask" "I", Cond.fieldLink RX1 42 "EqualMethods$Machine" "walking" "Z", Cond.methodLink RX1 119 yX0_has, Cond.methodLink RX1 122 yX1_answer, Cond.instanceMethod yX1_answer, Cond.selects RX1 yX1_answer yX1_answer, Cond.code yX1_answer cX1_answer 6 none]
def wsX6_hold_r6 : List Cond := [Cond.fieldLink RX1 125 "EqualMethods$Trace" "callings" "I", Cond.fieldLink RX1 28 "EqualMethods$Machine" "answers" "[I", Cond.methodLink RX1 128 yX5_addCalling, Cond.instanceMethod yX5_addCalling, Cond.selects RX5 yX5_addCalling yX5_addCalling, Cond.code yX5_addCalling cX5_addCalling 4 none, Cond.fieldLink RX5 40 "EqualMethods$Trace" "called" "[I", Cond.fieldLink RX5 43 "EqualMethods$Trace" "calledX" "[I", Cond.fieldLink RX5 46 "EqualMethods$Trace" "calledY" "[I", Cond.fieldLink RX5 49 "EqualMethods$Trace" "tellsAhead" "[I", Cond.methodLink RX1 112 yX1_calculate, Cond.instanceMethod yX1_calculate, Cond.selects RX1 yX1_calculate yX1_calculate, Cond.code yX1_calculate cX1_calculate 5 none, Cond.methodLink RX1 115 yX1_result, Cond.static yX1_result, Cond.code yX1_result cX1_result 3 (some .int), Cond.methodLink RX6 220 yX6_runsAlike, Cond.instanceMethod yX6_runsAlike, Cond.selects RX6 yX6_runsAlike yX6_runsAlike, Cond.code yX6_runsAlike cX6_runsAlike 4 (some .boolean), Cond.fieldLink RX6 143 "EqualMethods$Trace" "tells" "I", Cond.methodLink RX6 224 yX5_endsLike, Cond.instanceMethod yX5_endsLike]
def wsX6_hold_r7 : List Cond := [Cond.selects RX5 yX5_endsLike yX5_endsLike, Cond.code yX5_endsLike cX5_endsLike 2 (some .boolean), Cond.methodLink RX6 228 yX3_alike, Cond.instanceMethod yX3_alike, Cond.selects RX3 yX3_alike yX3_alike, Cond.initialized RX3, Cond.code yX3_alike cX3_alike 8 (some .boolean), Cond.methodLink RX3 31 yX3_alikeIn, Cond.instanceMethod yX3_alikeIn, Cond.selects RX3 yX3_alikeIn yX3_alikeIn, Cond.code yX3_alikeIn cX3_alikeIn 11 (some .boolean), Cond.fieldLink RX3 35 "EqualMethods$Trace" "tellPorts" "[I", Cond.fieldLink RX3 15 "EqualMethods$Ports" "groups" "[I", Cond.fieldLink RX3 18 "EqualMethods$Ports" "standsIn" "[I", Cond.fieldLink RX3 44 "EqualMethods$Trace" "tellNumbers" "[I", Cond.methodLink RX3 40 yX3_nextIn, Cond.instanceMethod yX3_nextIn, Cond.selects RX3 yX3_nextIn yX3_nextIn, Cond.code yX3_nextIn cX3_nextIn 6 (some .int)]
def wsX6_hold : List Cond := .code yX6_hold cX6_hold 4 (some .int) :: ((wsX6_hold_r1 ++ (wsX6_hold_r2 ++ (wsX6_hold_r3 ++ (wsX6_hold_r4 ++ (wsX6_hold_r5 ++ (wsX6_hold_r6 ++ wsX6_hold_r7)))))) ++ wsX60 ++ wsX00 ++ wsX10 ++ wsX50 ++ wsX30)
def wsX6_first : List Cond := .code yX6_first cX6_first 2 (some .int) :: ([.fieldLink RX6 50 "EqualMethods" "firstX" "I", .fieldLink RX6 53 "EqualMethods" "firstY" "I"] ++ wsX60)
def wsX6_match_r1 : List Cond := [Cond.fieldLink RX6 10 "EqualMethods" "build0" "LEqualMethods$Build;", Cond.fieldLink RX6 16 "EqualMethods" "build1" "LEqualMethods$Build;", Cond.fieldLink RX6 91 "EqualMethods$Build" "methods" "I", Cond.methodLink RX6 168 yX0_has, Cond.instanceMethod yX0_has, Cond.selects RX0 yX0_has yX0_has, Cond.initialized RX0, Cond.code yX0_has cX0_has 2 (some .boolean), Cond.fieldLink RX0 9 "EqualMethods$Build" "methods" "I", Cond.methodLink RX6 165 yX6_held, Cond.instanceMethod yX6_held, Cond.selects RX6 yX6_held yX6_held, Cond.initialized RX6, Cond.code yX6_held cX6_held 6 (some .int), Cond.fieldLink RX6 59 "EqualMethods" "mask" "I", Cond.fieldLink RX6 22 "EqualMethods" "ports" "LEqualMethods$Ports;", Cond.fieldLink RX6 43 "EqualMethods" "unlikeX" "I", Cond.fieldLink RX6 47 "EqualMethods" "unlikeY" "I", Cond.methodLink RX6 177 yX6_runBoth, Cond.instanceMethod yX6_runBoth, Cond.selects RX6 yX6_runBoth yX6_runBoth, Cond.code yX6_runBoth cX6_runBoth 5 (some .boolean), Cond.fieldLink RX6 71 "EqualMethods" "run0" "LEqualMethods$Machine;", Cond.fieldLink RX6 74 "EqualMethods" "run1" "LEqualMethods$Machine;"]
def wsX6_match_r2 : List Cond := [Cond.fieldLink RX6 125 "EqualMethods$Machine" "trace" "LEqualMethods$Trace;", Cond.fieldLink RX6 129 "EqualMethods$Trace" "end" "I", Cond.methodLink RX6 121 yX1_go, Cond.instanceMethod yX1_go, Cond.selects RX1 yX1_go yX1_go, Cond.initialized RX1, Cond.code yX1_go cX1_go 5 none, Cond.fieldLink RX1 12 "EqualMethods$Machine" "trace" "LEqualMethods$Trace;", Cond.fieldLink RX1 31 "EqualMethods$Machine" "underWay" "I", Cond.fieldLink RX1 22 "EqualMethods$Machine" "lines" "[I", Cond.fieldLink RX1 35 "EqualMethods$Machine" "build" "LEqualMethods$Build;", Cond.fieldLink RX1 53 "EqualMethods$Build" "sizes" "[I", Cond.fieldLink RX1 25 "EqualMethods$Machine" "methods" "[I", Cond.fieldLink RX1 62 "EqualMethods$Build" "ops" "[I", Cond.methodLink RX1 46 yX5_forget, Cond.instanceMethod yX5_forget, Cond.selects RX5 yX5_forget yX5_forget, Cond.initialized RX5, Cond.code yX5_forget cX5_forget 1 none, Cond.fieldLink RX5 21 "EqualMethods$Trace" "ops" "I", Cond.fieldLink RX5 24 "EqualMethods$Trace" "deepest" "I", Cond.fieldLink RX5 27 "EqualMethods$Trace" "tells" "I", Cond.fieldLink RX5 37 "EqualMethods$Trace" "callings" "I", Cond.methodLink RX5 52 yX5_finish]
def wsX6_match_r3 : List Cond := [Cond.instanceMethod yX5_finish, Cond.selects RX5 yX5_finish yX5_finish, Cond.code yX5_finish cX5_finish 4 none, Cond.fieldLink RX5 9 "EqualMethods$Trace" "end" "I", Cond.fieldLink RX5 15 "EqualMethods$Trace" "kind" "I", Cond.fieldLink RX5 18 "EqualMethods$Trace" "number" "I", Cond.methodLink RX1 49 yX1_enter, Cond.instanceMethod yX1_enter, Cond.selects RX1 yX1_enter yX1_enter, Cond.code yX1_enter cX1_enter 6 none, Cond.fieldLink RX1 18 "EqualMethods$Machine" "registers" "[I", Cond.fieldLink RX1 131 "EqualMethods$Trace" "deepest" "I", Cond.methodLink RX1 58 yX1_giveBack, Cond.instanceMethod yX1_giveBack, Cond.selects RX1 yX1_giveBack yX1_giveBack, Cond.code yX1_giveBack cX1_giveBack 2 none, Cond.fieldLink RX1 88 "EqualMethods$Build" "as" "[I", Cond.methodLink RX1 134 yX5_finish, Cond.methodLink RX1 65 yX1_placeOfTop, Cond.instanceMethod yX1_placeOfTop, Cond.selects RX1 yX1_placeOfTop yX1_placeOfTop, Cond.code yX1_placeOfTop cX1_placeOfTop 1 (some .int), Cond.methodLink RX1 79 yX0_placeOf, Cond.instanceMethod yX0_placeOf]
def wsX6_match_r4 : List Cond := [Cond.selects RX0 yX0_placeOf yX0_placeOf, Cond.code yX0_placeOf cX0_placeOf 3 (some .int), Cond.methodLink RX1 97 yX1_put, Cond.instanceMethod yX1_put, Cond.selects RX1 yX1_put yX1_put, Cond.code yX1_put cX1_put 3 none, Cond.methodLink RX1 69 yX1_isSpentBy, Cond.instanceMethod yX1_isSpentBy, Cond.selects RX1 yX1_isSpentBy yX1_isSpentBy, Cond.code yX1_isSpentBy cX1_isSpentBy 2 (some .boolean), Cond.fieldLink RX1 83 "EqualMethods$Trace" "ops" "I", Cond.fieldLink RX1 85 "EqualMethods$Trace" "tells" "I", Cond.methodLink RX1 73 yX1_stop, Cond.instanceMethod yX1_stop, Cond.selects RX1 yX1_stop yX1_stop, Cond.code yX1_stop cX1_stop 4 none, Cond.methodLink RX1 76 yX1_perform, Cond.instanceMethod yX1_perform, Cond.selects RX1 yX1_perform yX1_perform, Cond.code yX1_perform cX1_perform 5 none, Cond.fieldLink RX1 91 "EqualMethods$Build" "bs" "[I", Cond.fieldLink RX1 94 "EqualMethods$Build" "cs" "[I", Cond.methodLink RX1 101 yX1_get, Cond.instanceMethod yX1_get]
def wsX6_match_r5 : List Cond := [Cond.selects RX1 yX1_get yX1_get, Cond.code yX1_get cX1_get 2 (some .int), Cond.methodLink RX1 105 yX5_addTell, Cond.instanceMethod yX5_addTell, Cond.selects RX5 yX5_addTell yX5_addTell, Cond.code yX5_addTell cX5_addTell 3 none, Cond.fieldLink RX5 30 "EqualMethods$Trace" "tellPorts" "[I", Cond.fieldLink RX5 34 "EqualMethods$Trace" "tellNumbers" "[I", Cond.methodLink RX1 108 yX1_ask, Cond.instanceMethod yX1_ask, Cond.selects RX1 yX1_ask yX1_ask, Cond.code yX1_ask cX1_ask 5 none, Cond.fieldLink RX1 39 "EqualMethods$Machine" "mask" "I", Cond.fieldLink RX1 42 "EqualMethods$Machine" "walking" "Z", Cond.methodLink RX1 119 yX0_has, Cond.methodLink RX1 122 yX1_answer, Cond.instanceMethod yX1_answer, Cond.selects RX1 yX1_answer yX1_answer, Cond.code yX1_answer cX1_answer 6 none, Cond.fieldLink RX1 125 "EqualMethods$Trace" "callings" "I", Cond.fieldLink RX1 28 "EqualMethods$Machine" "answers" "[I", Cond.methodLink RX1 128 yX5_addCalling, Cond.instanceMethod yX5_addCalling, Cond.selects RX5 yX5_addCalling yX5_addCalling]
def wsX6_match_r6 : List Cond := [Cond.code yX5_addCalling cX5_addCalling 4 none, Cond.fieldLink RX5 40 "EqualMethods$Trace" "called" "[I", Cond.fieldLink RX5 43 "EqualMethods$Trace" "calledX" "[I", Cond.fieldLink RX5 46 "EqualMethods$Trace" "calledY" "[I", Cond.fieldLink RX5 49 "EqualMethods$Trace" "tellsAhead" "[I", Cond.methodLink RX1 112 yX1_calculate, Cond.instanceMethod yX1_calculate, Cond.selects RX1 yX1_calculate yX1_calculate, Cond.code yX1_calculate cX1_calculate 5 none, Cond.methodLink RX1 115 yX1_result, Cond.static yX1_result, Cond.code yX1_result cX1_result 3 (some .int), Cond.methodLink RX6 220 yX6_runsAlike, Cond.instanceMethod yX6_runsAlike, Cond.selects RX6 yX6_runsAlike yX6_runsAlike, Cond.code yX6_runsAlike cX6_runsAlike 4 (some .boolean), Cond.fieldLink RX6 143 "EqualMethods$Trace" "tells" "I", Cond.methodLink RX6 224 yX5_endsLike, Cond.instanceMethod yX5_endsLike, Cond.selects RX5 yX5_endsLike yX5_endsLike, Cond.code yX5_endsLike cX5_endsLike 2 (some .boolean), Cond.methodLink RX6 228 yX3_alike, Cond.instanceMethod yX3_alike, Cond.selects RX3 yX3_alike yX3_alike]
def wsX6_match_r7 : List Cond := [Cond.initialized RX3, Cond.code yX3_alike cX3_alike 8 (some .boolean), Cond.methodLink RX3 31 yX3_alikeIn, Cond.instanceMethod yX3_alikeIn, Cond.selects RX3 yX3_alikeIn yX3_alikeIn, Cond.code yX3_alikeIn cX3_alikeIn 11 (some .boolean), Cond.fieldLink RX3 35 "EqualMethods$Trace" "tellPorts" "[I", Cond.fieldLink RX3 15 "EqualMethods$Ports" "groups" "[I", Cond.fieldLink RX3 18 "EqualMethods$Ports" "standsIn" "[I", Cond.fieldLink RX3 44 "EqualMethods$Trace" "tellNumbers" "[I", Cond.methodLink RX3 40 yX3_nextIn, Cond.instanceMethod yX3_nextIn, Cond.selects RX3 yX3_nextIn yX3_nextIn, Cond.code yX3_nextIn cX3_nextIn 6 (some .int)]
def wsX6_match : List Cond := .code yX6_match cX6_match 3 (some .int) :: ((wsX6_match_r1 ++ (wsX6_match_r2 ++ (wsX6_match_r3 ++ (wsX6_match_r4 ++ (wsX6_match_r5 ++ (wsX6_match_r6 ++ wsX6_match_r7)))))) ++ wsX60 ++ wsX00 ++ wsX10 ++ wsX50 ++ wsX30)
def wsX6_stillAlike_r1 : List Cond := [Cond.fieldLink RX6 185 "EqualMethods" "RENAMINGS" "[I", Cond.fieldLink RX6 26 "EqualMethods" "tried" "LEqualMethods$Ports;", Cond.methodLink RX6 232 yX3_takeNames, Cond.instanceMethod yX3_takeNames, Cond.selects RX3 yX3_takeNames yX3_takeNames, Cond.initialized RX3, Cond.code yX3_takeNames cX3_takeNames 2 none, Cond.methodLink RX3 21 yX3_name, Cond.instanceMethod yX3_name, Cond.selects RX3 yX3_name yX3_name, Cond.code yX3_name cX3_name 3 none, Cond.fieldLink RX3 9 "EqualMethods$Ports" "standsFor" "[I", Cond.fieldLink RX3 18 "EqualMethods$Ports" "standsIn" "[I", Cond.methodLink RX6 220 yX6_runsAlike, Cond.instanceMethod yX6_runsAlike, Cond.selects RX6 yX6_runsAlike yX6_runsAlike, Cond.initialized RX6, Cond.code yX6_runsAlike cX6_runsAlike 4 (some .boolean), Cond.fieldLink RX6 71 "EqualMethods" "run0" "LEqualMethods$Machine;", Cond.fieldLink RX6 125 "EqualMethods$Machine" "trace" "LEqualMethods$Trace;", Cond.fieldLink RX6 74 "EqualMethods" "run1" "LEqualMethods$Machine;", Cond.fieldLink RX6 143 "EqualMethods$Trace" "tells" "I", Cond.methodLink RX6 224 yX5_endsLike, Cond.instanceMethod yX5_endsLike]
def wsX6_stillAlike_r2 : List Cond := [Cond.selects RX5 yX5_endsLike yX5_endsLike, Cond.initialized RX5, Cond.code yX5_endsLike cX5_endsLike 2 (some .boolean), Cond.fieldLink RX5 15 "EqualMethods$Trace" "kind" "I", Cond.fieldLink RX5 18 "EqualMethods$Trace" "number" "I", Cond.methodLink RX6 228 yX3_alike, Cond.instanceMethod yX3_alike, Cond.selects RX3 yX3_alike yX3_alike, Cond.code yX3_alike cX3_alike 8 (some .boolean), Cond.methodLink RX3 31 yX3_alikeIn, Cond.instanceMethod yX3_alikeIn, Cond.selects RX3 yX3_alikeIn yX3_alikeIn, Cond.code yX3_alikeIn cX3_alikeIn 11 (some .boolean), Cond.fieldLink RX3 35 "EqualMethods$Trace" "tellPorts" "[I", Cond.fieldLink RX3 15 "EqualMethods$Ports" "groups" "[I", Cond.fieldLink RX3 44 "EqualMethods$Trace" "tellNumbers" "[I", Cond.methodLink RX3 40 yX3_nextIn, Cond.instanceMethod yX3_nextIn, Cond.selects RX3 yX3_nextIn yX3_nextIn, Cond.code yX3_nextIn cX3_nextIn 6 (some .int)]
def wsX6_stillAlike : List Cond := .code yX6_stillAlike cX6_stillAlike 5 (some .int) :: ((wsX6_stillAlike_r1 ++ wsX6_stillAlike_r2) ++ wsX60 ++ wsX30 ++ wsX10 ++ wsX50)
def wsJ6_numberOfTrailingZeros_0f7a4 : List Cond := .code yJ6_numberOfTrailingZeros_0f7a4 cJ6_numberOfTrailingZeros_0f7a4 2 (some .int) :: ([.constant RJ6 264 (65536)])
def wsX6_find_r1 : List Cond := [Cond.fieldLink RX6 26 "EqualMethods" "tried" "LEqualMethods$Ports;", Cond.fieldLink RX6 22 "EqualMethods" "ports" "LEqualMethods$Ports;", Cond.constant RX6 176 (16777215), Cond.fieldLink RX6 59 "EqualMethods" "mask" "I", Cond.fieldLink RX6 185 "EqualMethods" "RENAMINGS" "[I", Cond.methodLink RX6 162 yX6_isPair, Cond.instanceMethod yX6_isPair, Cond.selects RX6 yX6_isPair yX6_isPair, Cond.initialized RX6, Cond.code yX6_isPair cX6_isPair 3 (some .boolean), Cond.fieldLink RX6 10 "EqualMethods" "build0" "LEqualMethods$Build;", Cond.fieldLink RX6 16 "EqualMethods" "build1" "LEqualMethods$Build;", Cond.methodLink RX6 168 yX0_has, Cond.instanceMethod yX0_has, Cond.selects RX0 yX0_has yX0_has, Cond.initialized RX0, Cond.code yX0_has cX0_has 2 (some .boolean), Cond.fieldLink RX0 9 "EqualMethods$Build" "methods" "I", Cond.methodLink RX6 172 yX3_takeGroups, Cond.instanceMethod yX3_takeGroups, Cond.selects RX3 yX3_takeGroups yX3_takeGroups, Cond.initialized RX3, Cond.code yX3_takeGroups cX3_takeGroups 2 none, Cond.fieldLink RX3 15 "EqualMethods$Ports" "groups" "[I"]
def wsX6_find_r2 : List Cond := [Cond.methodLink RX3 25 arraycopyName, Cond.native arraycopyName, Cond.static arraycopyName, Cond.initialized "java/lang/System", Cond.methodLink RX6 177 yX6_runBoth, Cond.instanceMethod yX6_runBoth, Cond.selects RX6 yX6_runBoth yX6_runBoth, Cond.code yX6_runBoth cX6_runBoth 5 (some .boolean), Cond.fieldLink RX6 71 "EqualMethods" "run0" "LEqualMethods$Machine;", Cond.fieldLink RX6 74 "EqualMethods" "run1" "LEqualMethods$Machine;", Cond.fieldLink RX6 125 "EqualMethods$Machine" "trace" "LEqualMethods$Trace;", Cond.fieldLink RX6 129 "EqualMethods$Trace" "end" "I", Cond.methodLink RX6 121 yX1_go, Cond.instanceMethod yX1_go, Cond.selects RX1 yX1_go yX1_go, Cond.initialized RX1, Cond.code yX1_go cX1_go 5 none, Cond.fieldLink RX1 12 "EqualMethods$Machine" "trace" "LEqualMethods$Trace;", Cond.fieldLink RX1 31 "EqualMethods$Machine" "underWay" "I", Cond.fieldLink RX1 22 "EqualMethods$Machine" "lines" "[I", Cond.fieldLink RX1 35 "EqualMethods$Machine" "build" "LEqualMethods$Build;", Cond.fieldLink RX1 53 "EqualMethods$Build" "sizes" "[I", Cond.fieldLink RX1 25 "EqualMethods$Machine" "methods" "[I", Cond.fieldLink RX1 62 "EqualMethods$Build" "ops" "[I"]
def wsX6_find_r3 : List Cond := [Cond.methodLink RX1 46 yX5_forget, Cond.instanceMethod yX5_forget, Cond.selects RX5 yX5_forget yX5_forget, Cond.initialized RX5, Cond.code yX5_forget cX5_forget 1 none, Cond.fieldLink RX5 21 "EqualMethods$Trace" "ops" "I", Cond.fieldLink RX5 24 "EqualMethods$Trace" "deepest" "I", Cond.fieldLink RX5 27 "EqualMethods$Trace" "tells" "I", Cond.fieldLink RX5 37 "EqualMethods$Trace" "callings" "I", Cond.methodLink RX5 52 yX5_finish, Cond.instanceMethod yX5_finish, Cond.selects RX5 yX5_finish yX5_finish, Cond.code yX5_finish cX5_finish 4 none, Cond.fieldLink RX5 9 "EqualMethods$Trace" "end" "I", Cond.fieldLink RX5 15 "EqualMethods$Trace" "kind" "I", Cond.fieldLink RX5 18 "EqualMethods$Trace" "number" "I", Cond.methodLink RX1 49 yX1_enter, Cond.instanceMethod yX1_enter, Cond.selects RX1 yX1_enter yX1_enter, Cond.code yX1_enter cX1_enter 6 none, Cond.fieldLink RX1 18 "EqualMethods$Machine" "registers" "[I", Cond.fieldLink RX1 131 "EqualMethods$Trace" "deepest" "I", Cond.methodLink RX1 58 yX1_giveBack, Cond.instanceMethod yX1_giveBack]
def wsX6_find_r4 : List Cond := [Cond.selects RX1 yX1_giveBack yX1_giveBack, Cond.code yX1_giveBack cX1_giveBack 2 none, Cond.fieldLink RX1 88 "EqualMethods$Build" "as" "[I", Cond.methodLink RX1 134 yX5_finish, Cond.methodLink RX1 65 yX1_placeOfTop, Cond.instanceMethod yX1_placeOfTop, Cond.selects RX1 yX1_placeOfTop yX1_placeOfTop, Cond.code yX1_placeOfTop cX1_placeOfTop 1 (some .int), Cond.methodLink RX1 79 yX0_placeOf, Cond.instanceMethod yX0_placeOf, Cond.selects RX0 yX0_placeOf yX0_placeOf, Cond.code yX0_placeOf cX0_placeOf 3 (some .int), Cond.methodLink RX1 97 yX1_put, Cond.instanceMethod yX1_put, Cond.selects RX1 yX1_put yX1_put, Cond.code yX1_put cX1_put 3 none, Cond.methodLink RX1 69 yX1_isSpentBy, Cond.instanceMethod yX1_isSpentBy, Cond.selects RX1 yX1_isSpentBy yX1_isSpentBy, Cond.code yX1_isSpentBy cX1_isSpentBy 2 (some .boolean), Cond.fieldLink RX1 83 "EqualMethods$Trace" "ops" "I", Cond.fieldLink RX1 85 "EqualMethods$Trace" "tells" "I", Cond.methodLink RX1 73 yX1_stop, Cond.instanceMethod yX1_stop]
def wsX6_find_r5 : List Cond := [Cond.selects RX1 yX1_stop yX1_stop, Cond.code yX1_stop cX1_stop 4 none, Cond.methodLink RX1 76 yX1_perform, Cond.instanceMethod yX1_perform, Cond.selects RX1 yX1_perform yX1_perform, Cond.code yX1_perform cX1_perform 5 none, Cond.fieldLink RX1 91 "EqualMethods$Build" "bs" "[I", Cond.fieldLink RX1 94 "EqualMethods$Build" "cs" "[I", Cond.methodLink RX1 101 yX1_get, Cond.instanceMethod yX1_get, Cond.selects RX1 yX1_get yX1_get, Cond.code yX1_get cX1_get 2 (some .int), Cond.methodLink RX1 105 yX5_addTell, Cond.instanceMethod yX5_addTell, Cond.selects RX5 yX5_addTell yX5_addTell, Cond.code yX5_addTell cX5_addTell 3 none, Cond.fieldLink RX5 30 "EqualMethods$Trace" "tellPorts" "[I", Cond.fieldLink RX5 34 "EqualMethods$Trace" "tellNumbers" "[I", Cond.methodLink RX1 108 yX1_ask, Cond.instanceMethod yX1_ask, Cond.selects RX1 yX1_ask yX1_ask, Cond.code yX1_ask cX1_ask 5 none, Cond.fieldLink RX1 39 "EqualMethods$Machine" "mask" "I", Cond.fieldLink RX1 42 "EqualMethods$Machine" "walking" "Z"]
def wsX6_find_r6 : List Cond := [Cond.methodLink RX1 119 yX0_has, Cond.methodLink RX1 122 yX1_answer, Cond.instanceMethod yX1_answer, Cond.selects RX1 yX1_answer yX1_answer, Cond.code yX1_answer cX1_answer 6 none, Cond.fieldLink RX1 125 "EqualMethods$Trace" "callings" "I", Cond.fieldLink RX1 28 "EqualMethods$Machine" "answers" "[I", Cond.methodLink RX1 128 yX5_addCalling, Cond.instanceMethod yX5_addCalling, Cond.selects RX5 yX5_addCalling yX5_addCalling, Cond.code yX5_addCalling cX5_addCalling 4 none, Cond.fieldLink RX5 40 "EqualMethods$Trace" "called" "[I", Cond.fieldLink RX5 43 "EqualMethods$Trace" "calledX" "[I", Cond.fieldLink RX5 46 "EqualMethods$Trace" "calledY" "[I", Cond.fieldLink RX5 49 "EqualMethods$Trace" "tellsAhead" "[I", Cond.methodLink RX1 112 yX1_calculate, Cond.instanceMethod yX1_calculate, Cond.selects RX1 yX1_calculate yX1_calculate, Cond.code yX1_calculate cX1_calculate 5 none, Cond.methodLink RX1 115 yX1_result, Cond.static yX1_result, Cond.code yX1_result cX1_result 3 (some .int), Cond.methodLink RX6 181 yX6_stillAlike, Cond.instanceMethod yX6_stillAlike]
def wsX6_find_r7 : List Cond := [Cond.selects RX6 yX6_stillAlike yX6_stillAlike, Cond.code yX6_stillAlike cX6_stillAlike 5 (some .int), Cond.methodLink RX6 232 yX3_takeNames, Cond.instanceMethod yX3_takeNames, Cond.selects RX3 yX3_takeNames yX3_takeNames, Cond.code yX3_takeNames cX3_takeNames 2 none, Cond.methodLink RX3 21 yX3_name, Cond.instanceMethod yX3_name, Cond.selects RX3 yX3_name yX3_name, Cond.code yX3_name cX3_name 3 none, Cond.fieldLink RX3 9 "EqualMethods$Ports" "standsFor" "[I", Cond.fieldLink RX3 18 "EqualMethods$Ports" "standsIn" "[I", Cond.methodLink RX6 220 yX6_runsAlike, Cond.instanceMethod yX6_runsAlike, Cond.selects RX6 yX6_runsAlike yX6_runsAlike, Cond.code yX6_runsAlike cX6_runsAlike 4 (some .boolean), Cond.fieldLink RX6 143 "EqualMethods$Trace" "tells" "I", Cond.methodLink RX6 224 yX5_endsLike, Cond.instanceMethod yX5_endsLike, Cond.selects RX5 yX5_endsLike yX5_endsLike, Cond.code yX5_endsLike cX5_endsLike 2 (some .boolean), Cond.methodLink RX6 228 yX3_alike, Cond.instanceMethod yX3_alike, Cond.selects RX3 yX3_alike yX3_alike]
def wsX6_find_r8 : List Cond := [Cond.code yX3_alike cX3_alike 8 (some .boolean), Cond.methodLink RX3 31 yX3_alikeIn, Cond.instanceMethod yX3_alikeIn, Cond.selects RX3 yX3_alikeIn yX3_alikeIn, Cond.code yX3_alikeIn cX3_alikeIn 11 (some .boolean), Cond.fieldLink RX3 35 "EqualMethods$Trace" "tellPorts" "[I", Cond.fieldLink RX3 44 "EqualMethods$Trace" "tellNumbers" "[I", Cond.methodLink RX3 40 yX3_nextIn, Cond.instanceMethod yX3_nextIn, Cond.selects RX3 yX3_nextIn yX3_nextIn, Cond.code yX3_nextIn cX3_nextIn 6 (some .int), Cond.methodLink RX6 188 yJ6_numberOfTrailingZeros_0f7a4, Cond.static yJ6_numberOfTrailingZeros_0f7a4, Cond.initialized RJ6, Cond.code yJ6_numberOfTrailingZeros_0f7a4 cJ6_numberOfTrailingZeros_0f7a4 2 (some .int), Cond.constant RJ6 264 (65536)]
def wsX6_find : List Cond := .code yX6_find cX6_find 6 (some .int) :: ((wsX6_find_r1 ++ (wsX6_find_r2 ++ (wsX6_find_r3 ++ (wsX6_find_r4 ++ (wsX6_find_r5 ++ (wsX6_find_r6 ++ (wsX6_find_r7 ++ wsX6_find_r8))))))) ++ wsX60 ++ wsX00 ++ wsX30 ++ wsX10 ++ wsX50)
def wsX6_assume_r1 : List Cond := [Cond.fieldLink RX6 32 "EqualMethods" "pairs" "LEqualMethods$Pairs;", Cond.fieldLink RX6 195 "EqualMethods$Pairs" "size" "I", Cond.methodLink RX6 162 yX6_isPair, Cond.instanceMethod yX6_isPair, Cond.selects RX6 yX6_isPair yX6_isPair, Cond.initialized RX6, Cond.code yX6_isPair cX6_isPair 3 (some .boolean), Cond.fieldLink RX6 10 "EqualMethods" "build0" "LEqualMethods$Build;", Cond.fieldLink RX6 16 "EqualMethods" "build1" "LEqualMethods$Build;", Cond.methodLink RX6 168 yX0_has, Cond.instanceMethod yX0_has, Cond.selects RX0 yX0_has yX0_has, Cond.initialized RX0, Cond.code yX0_has cX0_has 2 (some .boolean), Cond.fieldLink RX0 9 "EqualMethods$Build" "methods" "I", Cond.methodLink RX6 193 yX2_has, Cond.instanceMethod yX2_has, Cond.selects RX2 yX2_has yX2_has, Cond.initialized RX2, Cond.code yX2_has cX2_has 4 (some .boolean), Cond.fieldLink RX2 9 "EqualMethods$Pairs" "size" "I", Cond.fieldLink RX2 15 "EqualMethods$Pairs" "as" "[I", Cond.fieldLink RX2 19 "EqualMethods$Pairs" "bs" "[I", Cond.methodLink RX6 198 yX2_add]
def wsX6_assume_r2 : List Cond := [Cond.instanceMethod yX2_add, Cond.selects RX2 yX2_add yX2_add, Cond.code yX2_add cX2_add 3 (some .int)]
def wsX6_assume : List Cond := .code yX6_assume cX6_assume 3 (some .int) :: ((wsX6_assume_r1 ++ wsX6_assume_r2) ++ wsX60 ++ wsX20 ++ wsX00)
def wsX6_drop : List Cond := .code yX6_drop cX6_drop 2 (some .int) :: ([.fieldLink RX6 32 "EqualMethods" "pairs" "LEqualMethods$Pairs;", .fieldLink RX6 195 "EqualMethods$Pairs" "size" "I"] ++ wsX60 ++ wsX20)
def wsX6_callingsAlike_r1 : List Cond := [Cond.fieldLink RX6 255 "EqualMethods$Trace" "callings" "I", Cond.fieldLink RX6 267 "EqualMethods$Trace" "tellsAhead" "[I", Cond.fieldLink RX6 32 "EqualMethods" "pairs" "LEqualMethods$Pairs;", Cond.fieldLink RX6 274 "EqualMethods$Trace" "called" "[I", Cond.fieldLink RX6 22 "EqualMethods" "ports" "LEqualMethods$Ports;", Cond.fieldLink RX6 143 "EqualMethods$Trace" "tells" "I", Cond.methodLink RX6 270 yX5_sameInputs, Cond.instanceMethod yX5_sameInputs, Cond.selects RX5 yX5_sameInputs yX5_sameInputs, Cond.initialized RX5, Cond.code yX5_sameInputs cX5_sameInputs 3 (some .boolean), Cond.fieldLink RX5 43 "EqualMethods$Trace" "calledX" "[I", Cond.fieldLink RX5 46 "EqualMethods$Trace" "calledY" "[I", Cond.methodLink RX6 193 yX2_has, Cond.instanceMethod yX2_has, Cond.selects RX2 yX2_has yX2_has, Cond.initialized RX2, Cond.code yX2_has cX2_has 4 (some .boolean), Cond.fieldLink RX2 9 "EqualMethods$Pairs" "size" "I", Cond.fieldLink RX2 15 "EqualMethods$Pairs" "as" "[I", Cond.fieldLink RX2 19 "EqualMethods$Pairs" "bs" "[I", Cond.methodLink RX6 228 yX3_alike, Cond.instanceMethod yX3_alike, Cond.selects RX3 yX3_alike yX3_alike]
def wsX6_callingsAlike_r2 : List Cond := [Cond.initialized RX3, Cond.code yX3_alike cX3_alike 8 (some .boolean), Cond.methodLink RX3 31 yX3_alikeIn, Cond.instanceMethod yX3_alikeIn, Cond.selects RX3 yX3_alikeIn yX3_alikeIn, Cond.code yX3_alikeIn cX3_alikeIn 11 (some .boolean), Cond.fieldLink RX3 35 "EqualMethods$Trace" "tellPorts" "[I", Cond.fieldLink RX3 15 "EqualMethods$Ports" "groups" "[I", Cond.fieldLink RX3 18 "EqualMethods$Ports" "standsIn" "[I", Cond.fieldLink RX3 44 "EqualMethods$Trace" "tellNumbers" "[I", Cond.methodLink RX3 40 yX3_nextIn, Cond.instanceMethod yX3_nextIn, Cond.selects RX3 yX3_nextIn yX3_nextIn, Cond.code yX3_nextIn cX3_nextIn 6 (some .int)]
def wsX6_callingsAlike : List Cond := .code yX6_callingsAlike cX6_callingsAlike 8 (some .boolean) :: ((wsX6_callingsAlike_r1 ++ wsX6_callingsAlike_r2) ++ wsX50 ++ wsX60 ++ wsX20 ++ wsX30)
def wsX6_walksAnswer_r1 : List Cond := [Cond.fieldLink RX6 77 "EqualMethods" "walk0" "LEqualMethods$Machine;", Cond.fieldLink RX6 125 "EqualMethods$Machine" "trace" "LEqualMethods$Trace;", Cond.fieldLink RX6 80 "EqualMethods" "walk1" "LEqualMethods$Machine;", Cond.fieldLink RX6 129 "EqualMethods$Trace" "end" "I", Cond.methodLink RX6 224 yX5_endsLike, Cond.instanceMethod yX5_endsLike, Cond.selects RX5 yX5_endsLike yX5_endsLike, Cond.initialized RX5, Cond.code yX5_endsLike cX5_endsLike 2 (some .boolean), Cond.fieldLink RX5 15 "EqualMethods$Trace" "kind" "I", Cond.fieldLink RX5 18 "EqualMethods$Trace" "number" "I", Cond.methodLink RX6 263 yX6_callingsAlike, Cond.instanceMethod yX6_callingsAlike, Cond.selects RX6 yX6_callingsAlike yX6_callingsAlike, Cond.initialized RX6, Cond.code yX6_callingsAlike cX6_callingsAlike 8 (some .boolean), Cond.fieldLink RX6 255 "EqualMethods$Trace" "callings" "I", Cond.fieldLink RX6 267 "EqualMethods$Trace" "tellsAhead" "[I", Cond.fieldLink RX6 32 "EqualMethods" "pairs" "LEqualMethods$Pairs;", Cond.fieldLink RX6 274 "EqualMethods$Trace" "called" "[I", Cond.fieldLink RX6 22 "EqualMethods" "ports" "LEqualMethods$Ports;", Cond.fieldLink RX6 143 "EqualMethods$Trace" "tells" "I", Cond.methodLink RX6 270 yX5_sameInputs, Cond.instanceMethod yX5_sameInputs]
def wsX6_walksAnswer_r2 : List Cond := [Cond.selects RX5 yX5_sameInputs yX5_sameInputs, Cond.code yX5_sameInputs cX5_sameInputs 3 (some .boolean), Cond.fieldLink RX5 43 "EqualMethods$Trace" "calledX" "[I", Cond.fieldLink RX5 46 "EqualMethods$Trace" "calledY" "[I", Cond.methodLink RX6 193 yX2_has, Cond.instanceMethod yX2_has, Cond.selects RX2 yX2_has yX2_has, Cond.initialized RX2, Cond.code yX2_has cX2_has 4 (some .boolean), Cond.fieldLink RX2 9 "EqualMethods$Pairs" "size" "I", Cond.fieldLink RX2 15 "EqualMethods$Pairs" "as" "[I", Cond.fieldLink RX2 19 "EqualMethods$Pairs" "bs" "[I", Cond.methodLink RX6 228 yX3_alike, Cond.instanceMethod yX3_alike, Cond.selects RX3 yX3_alike yX3_alike, Cond.initialized RX3, Cond.code yX3_alike cX3_alike 8 (some .boolean), Cond.methodLink RX3 31 yX3_alikeIn, Cond.instanceMethod yX3_alikeIn, Cond.selects RX3 yX3_alikeIn yX3_alikeIn, Cond.code yX3_alikeIn cX3_alikeIn 11 (some .boolean), Cond.fieldLink RX3 35 "EqualMethods$Trace" "tellPorts" "[I", Cond.fieldLink RX3 15 "EqualMethods$Ports" "groups" "[I", Cond.fieldLink RX3 18 "EqualMethods$Ports" "standsIn" "[I"]
def wsX6_walksAnswer_r3 : List Cond := [Cond.fieldLink RX3 44 "EqualMethods$Trace" "tellNumbers" "[I", Cond.methodLink RX3 40 yX3_nextIn, Cond.instanceMethod yX3_nextIn, Cond.selects RX3 yX3_nextIn yX3_nextIn, Cond.code yX3_nextIn cX3_nextIn 6 (some .int)]
def wsX6_walksAnswer : List Cond := .code yX6_walksAnswer cX6_walksAnswer 3 (some .int) :: ((wsX6_walksAnswer_r1 ++ (wsX6_walksAnswer_r2 ++ wsX6_walksAnswer_r3)) ++ wsX60 ++ wsX10 ++ wsX50 ++ wsX20 ++ wsX30)
def wsX6_proveInputs_r1 : List Cond := [Cond.fieldLink RX6 59 "EqualMethods" "mask" "I", Cond.fieldLink RX6 77 "EqualMethods" "walk0" "LEqualMethods$Machine;", Cond.fieldLink RX6 80 "EqualMethods" "walk1" "LEqualMethods$Machine;", Cond.fieldLink RX6 32 "EqualMethods" "pairs" "LEqualMethods$Pairs;", Cond.fieldLink RX6 239 "EqualMethods$Pairs" "as" "[I", Cond.fieldLink RX6 242 "EqualMethods$Pairs" "bs" "[I", Cond.fieldLink RX6 39 "EqualMethods" "proof" "LEqualMethods$Proof;", Cond.fieldLink RX6 125 "EqualMethods$Machine" "trace" "LEqualMethods$Trace;", Cond.fieldLink RX6 255 "EqualMethods$Trace" "callings" "I", Cond.methodLink RX6 258 Lib.Math.max.name, Cond.static Lib.Math.max.name, Cond.initialized "java/lang/Math", Cond.code Lib.Math.max.name Lib.Math.max.code 2 (some .int), Cond.methodLink RX6 235 yX1_takeAnswers, Cond.instanceMethod yX1_takeAnswers, Cond.selects RX1 yX1_takeAnswers yX1_takeAnswers, Cond.initialized RX1, Cond.code yX1_takeAnswers cX1_takeAnswers 3 none, Cond.fieldLink RX1 28 "EqualMethods$Machine" "answers" "[I", Cond.methodLink RX6 121 yX1_go, Cond.instanceMethod yX1_go, Cond.selects RX1 yX1_go yX1_go, Cond.code yX1_go cX1_go 5 none, Cond.fieldLink RX1 12 "EqualMethods$Machine" "trace" "LEqualMethods$Trace;"]
def wsX6_proveInputs_r2 : List Cond := [Cond.fieldLink RX1 31 "EqualMethods$Machine" "underWay" "I", Cond.fieldLink RX1 22 "EqualMethods$Machine" "lines" "[I", Cond.fieldLink RX1 35 "EqualMethods$Machine" "build" "LEqualMethods$Build;", Cond.fieldLink RX1 53 "EqualMethods$Build" "sizes" "[I", Cond.fieldLink RX1 25 "EqualMethods$Machine" "methods" "[I", Cond.fieldLink RX1 62 "EqualMethods$Build" "ops" "[I", Cond.methodLink RX1 46 yX5_forget, Cond.instanceMethod yX5_forget, Cond.selects RX5 yX5_forget yX5_forget, Cond.initialized RX5, Cond.code yX5_forget cX5_forget 1 none, Cond.fieldLink RX5 21 "EqualMethods$Trace" "ops" "I", Cond.fieldLink RX5 24 "EqualMethods$Trace" "deepest" "I", Cond.fieldLink RX5 27 "EqualMethods$Trace" "tells" "I", Cond.fieldLink RX5 37 "EqualMethods$Trace" "callings" "I", Cond.methodLink RX5 52 yX5_finish, Cond.instanceMethod yX5_finish, Cond.selects RX5 yX5_finish yX5_finish, Cond.code yX5_finish cX5_finish 4 none, Cond.fieldLink RX5 9 "EqualMethods$Trace" "end" "I", Cond.fieldLink RX5 15 "EqualMethods$Trace" "kind" "I", Cond.fieldLink RX5 18 "EqualMethods$Trace" "number" "I", Cond.methodLink RX1 49 yX1_enter, Cond.instanceMethod yX1_enter]
def wsX6_proveInputs_r3 : List Cond := [Cond.selects RX1 yX1_enter yX1_enter, Cond.code yX1_enter cX1_enter 6 none, Cond.fieldLink RX1 18 "EqualMethods$Machine" "registers" "[I", Cond.fieldLink RX1 131 "EqualMethods$Trace" "deepest" "I", Cond.methodLink RX1 58 yX1_giveBack, Cond.instanceMethod yX1_giveBack, Cond.selects RX1 yX1_giveBack yX1_giveBack, Cond.code yX1_giveBack cX1_giveBack 2 none, Cond.fieldLink RX1 88 "EqualMethods$Build" "as" "[I", Cond.methodLink RX1 134 yX5_finish, Cond.methodLink RX1 65 yX1_placeOfTop, Cond.instanceMethod yX1_placeOfTop, Cond.selects RX1 yX1_placeOfTop yX1_placeOfTop, Cond.code yX1_placeOfTop cX1_placeOfTop 1 (some .int), Cond.methodLink RX1 79 yX0_placeOf, Cond.instanceMethod yX0_placeOf, Cond.selects RX0 yX0_placeOf yX0_placeOf, Cond.initialized RX0, Cond.code yX0_placeOf cX0_placeOf 3 (some .int), Cond.methodLink RX1 97 yX1_put, Cond.instanceMethod yX1_put, Cond.selects RX1 yX1_put yX1_put, Cond.code yX1_put cX1_put 3 none, Cond.methodLink RX1 69 yX1_isSpentBy]
def wsX6_proveInputs_r4 : List Cond := [Cond.instanceMethod yX1_isSpentBy, Cond.selects RX1 yX1_isSpentBy yX1_isSpentBy, Cond.code yX1_isSpentBy cX1_isSpentBy 2 (some .boolean), Cond.fieldLink RX1 83 "EqualMethods$Trace" "ops" "I", Cond.fieldLink RX1 85 "EqualMethods$Trace" "tells" "I", Cond.methodLink RX1 73 yX1_stop, Cond.instanceMethod yX1_stop, Cond.selects RX1 yX1_stop yX1_stop, Cond.code yX1_stop cX1_stop 4 none, Cond.methodLink RX1 76 yX1_perform, Cond.instanceMethod yX1_perform, Cond.selects RX1 yX1_perform yX1_perform, Cond.code yX1_perform cX1_perform 5 none, Cond.fieldLink RX1 91 "EqualMethods$Build" "bs" "[I", Cond.fieldLink RX1 94 "EqualMethods$Build" "cs" "[I", Cond.methodLink RX1 101 yX1_get, Cond.instanceMethod yX1_get, Cond.selects RX1 yX1_get yX1_get, Cond.code yX1_get cX1_get 2 (some .int), Cond.methodLink RX1 105 yX5_addTell, Cond.instanceMethod yX5_addTell, Cond.selects RX5 yX5_addTell yX5_addTell, Cond.code yX5_addTell cX5_addTell 3 none, Cond.fieldLink RX5 30 "EqualMethods$Trace" "tellPorts" "[I"]
def wsX6_proveInputs_r5 : List Cond := [Cond.fieldLink RX5 34 "EqualMethods$Trace" "tellNumbers" "[I", Cond.methodLink RX1 108 yX1_ask, Cond.instanceMethod yX1_ask, Cond.selects RX1 yX1_ask yX1_ask, Cond.code yX1_ask cX1_ask 5 none, Cond.fieldLink RX1 39 "EqualMethods$Machine" "mask" "I", Cond.fieldLink RX1 42 "EqualMethods$Machine" "walking" "Z", Cond.methodLink RX1 119 yX0_has, Cond.instanceMethod yX0_has, Cond.selects RX0 yX0_has yX0_has, Cond.code yX0_has cX0_has 2 (some .boolean), Cond.fieldLink RX0 9 "EqualMethods$Build" "methods" "I", Cond.methodLink RX1 122 yX1_answer, Cond.instanceMethod yX1_answer, Cond.selects RX1 yX1_answer yX1_answer, Cond.code yX1_answer cX1_answer 6 none, Cond.fieldLink RX1 125 "EqualMethods$Trace" "callings" "I", Cond.methodLink RX1 128 yX5_addCalling, Cond.instanceMethod yX5_addCalling, Cond.selects RX5 yX5_addCalling yX5_addCalling, Cond.code yX5_addCalling cX5_addCalling 4 none, Cond.fieldLink RX5 40 "EqualMethods$Trace" "called" "[I", Cond.fieldLink RX5 43 "EqualMethods$Trace" "calledX" "[I", Cond.fieldLink RX5 46 "EqualMethods$Trace" "calledY" "[I"]
def wsX6_proveInputs_r6 : List Cond := [Cond.fieldLink RX5 49 "EqualMethods$Trace" "tellsAhead" "[I", Cond.methodLink RX1 112 yX1_calculate, Cond.instanceMethod yX1_calculate, Cond.selects RX1 yX1_calculate yX1_calculate, Cond.code yX1_calculate cX1_calculate 5 none, Cond.methodLink RX1 115 yX1_result, Cond.static yX1_result, Cond.code yX1_result cX1_result 3 (some .int), Cond.methodLink RX6 245 yX6_walksAnswer, Cond.instanceMethod yX6_walksAnswer, Cond.selects RX6 yX6_walksAnswer yX6_walksAnswer, Cond.initialized RX6, Cond.code yX6_walksAnswer cX6_walksAnswer 3 (some .int), Cond.fieldLink RX6 129 "EqualMethods$Trace" "end" "I", Cond.methodLink RX6 224 yX5_endsLike, Cond.instanceMethod yX5_endsLike, Cond.selects RX5 yX5_endsLike yX5_endsLike, Cond.code yX5_endsLike cX5_endsLike 2 (some .boolean), Cond.methodLink RX6 263 yX6_callingsAlike, Cond.instanceMethod yX6_callingsAlike, Cond.selects RX6 yX6_callingsAlike yX6_callingsAlike, Cond.code yX6_callingsAlike cX6_callingsAlike 8 (some .boolean), Cond.fieldLink RX6 267 "EqualMethods$Trace" "tellsAhead" "[I", Cond.fieldLink RX6 274 "EqualMethods$Trace" "called" "[I"]
def wsX6_proveInputs_r7 : List Cond := [Cond.fieldLink RX6 22 "EqualMethods" "ports" "LEqualMethods$Ports;", Cond.fieldLink RX6 143 "EqualMethods$Trace" "tells" "I", Cond.methodLink RX6 270 yX5_sameInputs, Cond.instanceMethod yX5_sameInputs, Cond.selects RX5 yX5_sameInputs yX5_sameInputs, Cond.code yX5_sameInputs cX5_sameInputs 3 (some .boolean), Cond.methodLink RX6 193 yX2_has, Cond.instanceMethod yX2_has, Cond.selects RX2 yX2_has yX2_has, Cond.initialized RX2, Cond.code yX2_has cX2_has 4 (some .boolean), Cond.fieldLink RX2 9 "EqualMethods$Pairs" "size" "I", Cond.fieldLink RX2 15 "EqualMethods$Pairs" "as" "[I", Cond.fieldLink RX2 19 "EqualMethods$Pairs" "bs" "[I", Cond.methodLink RX6 228 yX3_alike, Cond.instanceMethod yX3_alike, Cond.selects RX3 yX3_alike yX3_alike, Cond.initialized RX3, Cond.code yX3_alike cX3_alike 8 (some .boolean), Cond.methodLink RX3 31 yX3_alikeIn, Cond.instanceMethod yX3_alikeIn, Cond.selects RX3 yX3_alikeIn yX3_alikeIn, Cond.code yX3_alikeIn cX3_alikeIn 11 (some .boolean), Cond.fieldLink RX3 35 "EqualMethods$Trace" "tellPorts" "[I"]
def wsX6_proveInputs_r8 : List Cond := [Cond.fieldLink RX3 15 "EqualMethods$Ports" "groups" "[I", Cond.fieldLink RX3 18 "EqualMethods$Ports" "standsIn" "[I", Cond.fieldLink RX3 44 "EqualMethods$Trace" "tellNumbers" "[I", Cond.methodLink RX3 40 yX3_nextIn, Cond.instanceMethod yX3_nextIn, Cond.selects RX3 yX3_nextIn yX3_nextIn, Cond.code yX3_nextIn cX3_nextIn 6 (some .int), Cond.methodLink RX6 248 yX4_yieldsTo, Cond.instanceMethod yX4_yieldsTo, Cond.selects RX4 yX4_yieldsTo yX4_yieldsTo, Cond.initialized RX4, Cond.code yX4_yieldsTo cX4_yieldsTo 2 (some .boolean), Cond.fieldLink RX4 9 "EqualMethods$Proof" "answer" "I", Cond.methodLink RX6 251 yX4_keep, Cond.instanceMethod yX4_keep, Cond.selects RX4 yX4_keep yX4_keep, Cond.code yX4_keep cX4_keep 7 none, Cond.fieldLink RX4 15 "EqualMethods$Proof" "place" "[I"]
def wsX6_proveInputs : List Cond := .code yX6_proveInputs cX6_proveInputs 8 none :: ((wsX6_proveInputs_r1 ++ (wsX6_proveInputs_r2 ++ (wsX6_proveInputs_r3 ++ (wsX6_proveInputs_r4 ++ (wsX6_proveInputs_r5 ++ (wsX6_proveInputs_r6 ++ (wsX6_proveInputs_r7 ++ wsX6_proveInputs_r8))))))) ++ wsX60 ++ wsX20 ++ wsX10 ++ wsX50 ++ wsX00 ++ wsX30 ++ wsX40)
def wsX6_prove_r1 : List Cond := [Cond.fieldLink RX6 39 "EqualMethods" "proof" "LEqualMethods$Proof;", Cond.fieldLink RX6 32 "EqualMethods" "pairs" "LEqualMethods$Pairs;", Cond.fieldLink RX6 195 "EqualMethods$Pairs" "size" "I", Cond.fieldLink RX6 59 "EqualMethods" "mask" "I", Cond.fieldLink RX6 205 "EqualMethods$Proof" "answer" "I", Cond.methodLink RX6 201 yX4_begin, Cond.instanceMethod yX4_begin, Cond.selects RX4 yX4_begin yX4_begin, Cond.initialized RX4, Cond.code yX4_begin cX4_begin 2 none, Cond.methodLink RX4 19 yX4_keep, Cond.instanceMethod yX4_keep, Cond.selects RX4 yX4_keep yX4_keep, Cond.code yX4_keep cX4_keep 7 none, Cond.fieldLink RX4 9 "EqualMethods$Proof" "answer" "I", Cond.fieldLink RX4 15 "EqualMethods$Proof" "place" "[I", Cond.methodLink RX6 208 yX6_proveInputs, Cond.instanceMethod yX6_proveInputs, Cond.selects RX6 yX6_proveInputs yX6_proveInputs, Cond.initialized RX6, Cond.code yX6_proveInputs cX6_proveInputs 8 none, Cond.fieldLink RX6 77 "EqualMethods" "walk0" "LEqualMethods$Machine;", Cond.fieldLink RX6 80 "EqualMethods" "walk1" "LEqualMethods$Machine;", Cond.fieldLink RX6 239 "EqualMethods$Pairs" "as" "[I"]
def wsX6_prove_r2 : List Cond := [Cond.fieldLink RX6 242 "EqualMethods$Pairs" "bs" "[I", Cond.fieldLink RX6 125 "EqualMethods$Machine" "trace" "LEqualMethods$Trace;", Cond.fieldLink RX6 255 "EqualMethods$Trace" "callings" "I", Cond.methodLink RX6 258 Lib.Math.max.name, Cond.static Lib.Math.max.name, Cond.initialized "java/lang/Math", Cond.code Lib.Math.max.name Lib.Math.max.code 2 (some .int), Cond.methodLink RX6 235 yX1_takeAnswers, Cond.instanceMethod yX1_takeAnswers, Cond.selects RX1 yX1_takeAnswers yX1_takeAnswers, Cond.initialized RX1, Cond.code yX1_takeAnswers cX1_takeAnswers 3 none, Cond.fieldLink RX1 28 "EqualMethods$Machine" "answers" "[I", Cond.methodLink RX6 121 yX1_go, Cond.instanceMethod yX1_go, Cond.selects RX1 yX1_go yX1_go, Cond.code yX1_go cX1_go 5 none, Cond.fieldLink RX1 12 "EqualMethods$Machine" "trace" "LEqualMethods$Trace;", Cond.fieldLink RX1 31 "EqualMethods$Machine" "underWay" "I", Cond.fieldLink RX1 22 "EqualMethods$Machine" "lines" "[I", Cond.fieldLink RX1 35 "EqualMethods$Machine" "build" "LEqualMethods$Build;", Cond.fieldLink RX1 53 "EqualMethods$Build" "sizes" "[I", Cond.fieldLink RX1 25 "EqualMethods$Machine" "methods" "[I", Cond.fieldLink RX1 62 "EqualMethods$Build" "ops" "[I"]
def wsX6_prove_r3 : List Cond := [Cond.methodLink RX1 46 yX5_forget, Cond.instanceMethod yX5_forget, Cond.selects RX5 yX5_forget yX5_forget, Cond.initialized RX5, Cond.code yX5_forget cX5_forget 1 none, Cond.fieldLink RX5 21 "EqualMethods$Trace" "ops" "I", Cond.fieldLink RX5 24 "EqualMethods$Trace" "deepest" "I", Cond.fieldLink RX5 27 "EqualMethods$Trace" "tells" "I", Cond.fieldLink RX5 37 "EqualMethods$Trace" "callings" "I", Cond.methodLink RX5 52 yX5_finish, Cond.instanceMethod yX5_finish, Cond.selects RX5 yX5_finish yX5_finish, Cond.code yX5_finish cX5_finish 4 none, Cond.fieldLink RX5 9 "EqualMethods$Trace" "end" "I", Cond.fieldLink RX5 15 "EqualMethods$Trace" "kind" "I", Cond.fieldLink RX5 18 "EqualMethods$Trace" "number" "I", Cond.methodLink RX1 49 yX1_enter, Cond.instanceMethod yX1_enter, Cond.selects RX1 yX1_enter yX1_enter, Cond.code yX1_enter cX1_enter 6 none, Cond.fieldLink RX1 18 "EqualMethods$Machine" "registers" "[I", Cond.fieldLink RX1 131 "EqualMethods$Trace" "deepest" "I", Cond.methodLink RX1 58 yX1_giveBack, Cond.instanceMethod yX1_giveBack]
def wsX6_prove_r4 : List Cond := [Cond.selects RX1 yX1_giveBack yX1_giveBack, Cond.code yX1_giveBack cX1_giveBack 2 none, Cond.fieldLink RX1 88 "EqualMethods$Build" "as" "[I", Cond.methodLink RX1 134 yX5_finish, Cond.methodLink RX1 65 yX1_placeOfTop, Cond.instanceMethod yX1_placeOfTop, Cond.selects RX1 yX1_placeOfTop yX1_placeOfTop, Cond.code yX1_placeOfTop cX1_placeOfTop 1 (some .int), Cond.methodLink RX1 79 yX0_placeOf, Cond.instanceMethod yX0_placeOf, Cond.selects RX0 yX0_placeOf yX0_placeOf, Cond.initialized RX0, Cond.code yX0_placeOf cX0_placeOf 3 (some .int), Cond.methodLink RX1 97 yX1_put, Cond.instanceMethod yX1_put, Cond.selects RX1 yX1_put yX1_put, Cond.code yX1_put cX1_put 3 none, Cond.methodLink RX1 69 yX1_isSpentBy, Cond.instanceMethod yX1_isSpentBy, Cond.selects RX1 yX1_isSpentBy yX1_isSpentBy, Cond.code yX1_isSpentBy cX1_isSpentBy 2 (some .boolean), Cond.fieldLink RX1 83 "EqualMethods$Trace" "ops" "I", Cond.fieldLink RX1 85 "EqualMethods$Trace" "tells" "I", Cond.methodLink RX1 73 yX1_stop]
def wsX6_prove_r5 : List Cond := [Cond.instanceMethod yX1_stop, Cond.selects RX1 yX1_stop yX1_stop, Cond.code yX1_stop cX1_stop 4 none, Cond.methodLink RX1 76 yX1_perform, Cond.instanceMethod yX1_perform, Cond.selects RX1 yX1_perform yX1_perform, Cond.code yX1_perform cX1_perform 5 none, Cond.fieldLink RX1 91 "EqualMethods$Build" "bs" "[I", Cond.fieldLink RX1 94 "EqualMethods$Build" "cs" "[I", Cond.methodLink RX1 101 yX1_get, Cond.instanceMethod yX1_get, Cond.selects RX1 yX1_get yX1_get, Cond.code yX1_get cX1_get 2 (some .int), Cond.methodLink RX1 105 yX5_addTell, Cond.instanceMethod yX5_addTell, Cond.selects RX5 yX5_addTell yX5_addTell, Cond.code yX5_addTell cX5_addTell 3 none, Cond.fieldLink RX5 30 "EqualMethods$Trace" "tellPorts" "[I", Cond.fieldLink RX5 34 "EqualMethods$Trace" "tellNumbers" "[I", Cond.methodLink RX1 108 yX1_ask, Cond.instanceMethod yX1_ask, Cond.selects RX1 yX1_ask yX1_ask, Cond.code yX1_ask cX1_ask 5 none, Cond.fieldLink RX1 39 "EqualMethods$Machine" "mask" "I"]
def wsX6_prove_r6 : List Cond := [Cond.fieldLink RX1 42 "EqualMethods$Machine" "walking" "Z", Cond.methodLink RX1 119 yX0_has, Cond.instanceMethod yX0_has, Cond.selects RX0 yX0_has yX0_has, Cond.code yX0_has cX0_has 2 (some .boolean), Cond.fieldLink RX0 9 "EqualMethods$Build" "methods" "I", Cond.methodLink RX1 122 yX1_answer, Cond.instanceMethod yX1_answer, Cond.selects RX1 yX1_answer yX1_answer, Cond.code yX1_answer cX1_answer 6 none, Cond.fieldLink RX1 125 "EqualMethods$Trace" "callings" "I", Cond.methodLink RX1 128 yX5_addCalling, Cond.instanceMethod yX5_addCalling, Cond.selects RX5 yX5_addCalling yX5_addCalling, Cond.code yX5_addCalling cX5_addCalling 4 none, Cond.fieldLink RX5 40 "EqualMethods$Trace" "called" "[I", Cond.fieldLink RX5 43 "EqualMethods$Trace" "calledX" "[I", Cond.fieldLink RX5 46 "EqualMethods$Trace" "calledY" "[I", Cond.fieldLink RX5 49 "EqualMethods$Trace" "tellsAhead" "[I", Cond.methodLink RX1 112 yX1_calculate, Cond.instanceMethod yX1_calculate, Cond.selects RX1 yX1_calculate yX1_calculate, Cond.code yX1_calculate cX1_calculate 5 none, Cond.methodLink RX1 115 yX1_result]
def wsX6_prove_r7 : List Cond := [Cond.static yX1_result, Cond.code yX1_result cX1_result 3 (some .int), Cond.methodLink RX6 245 yX6_walksAnswer, Cond.instanceMethod yX6_walksAnswer, Cond.selects RX6 yX6_walksAnswer yX6_walksAnswer, Cond.code yX6_walksAnswer cX6_walksAnswer 3 (some .int), Cond.fieldLink RX6 129 "EqualMethods$Trace" "end" "I", Cond.methodLink RX6 224 yX5_endsLike, Cond.instanceMethod yX5_endsLike, Cond.selects RX5 yX5_endsLike yX5_endsLike, Cond.code yX5_endsLike cX5_endsLike 2 (some .boolean), Cond.methodLink RX6 263 yX6_callingsAlike, Cond.instanceMethod yX6_callingsAlike, Cond.selects RX6 yX6_callingsAlike yX6_callingsAlike, Cond.code yX6_callingsAlike cX6_callingsAlike 8 (some .boolean), Cond.fieldLink RX6 267 "EqualMethods$Trace" "tellsAhead" "[I", Cond.fieldLink RX6 274 "EqualMethods$Trace" "called" "[I", Cond.fieldLink RX6 22 "EqualMethods" "ports" "LEqualMethods$Ports;", Cond.fieldLink RX6 143 "EqualMethods$Trace" "tells" "I", Cond.methodLink RX6 270 yX5_sameInputs, Cond.instanceMethod yX5_sameInputs, Cond.selects RX5 yX5_sameInputs yX5_sameInputs, Cond.code yX5_sameInputs cX5_sameInputs 3 (some .boolean), Cond.methodLink RX6 193 yX2_has]
def wsX6_prove_r8 : List Cond := [Cond.instanceMethod yX2_has, Cond.selects RX2 yX2_has yX2_has, Cond.initialized RX2, Cond.code yX2_has cX2_has 4 (some .boolean), Cond.fieldLink RX2 9 "EqualMethods$Pairs" "size" "I", Cond.fieldLink RX2 15 "EqualMethods$Pairs" "as" "[I", Cond.fieldLink RX2 19 "EqualMethods$Pairs" "bs" "[I", Cond.methodLink RX6 228 yX3_alike, Cond.instanceMethod yX3_alike, Cond.selects RX3 yX3_alike yX3_alike, Cond.initialized RX3, Cond.code yX3_alike cX3_alike 8 (some .boolean), Cond.methodLink RX3 31 yX3_alikeIn, Cond.instanceMethod yX3_alikeIn, Cond.selects RX3 yX3_alikeIn yX3_alikeIn, Cond.code yX3_alikeIn cX3_alikeIn 11 (some .boolean), Cond.fieldLink RX3 35 "EqualMethods$Trace" "tellPorts" "[I", Cond.fieldLink RX3 15 "EqualMethods$Ports" "groups" "[I", Cond.fieldLink RX3 18 "EqualMethods$Ports" "standsIn" "[I", Cond.fieldLink RX3 44 "EqualMethods$Trace" "tellNumbers" "[I", Cond.methodLink RX3 40 yX3_nextIn, Cond.instanceMethod yX3_nextIn, Cond.selects RX3 yX3_nextIn yX3_nextIn, Cond.code yX3_nextIn cX3_nextIn 6 (some .int)]
def wsX6_prove_r9 : List Cond := [Cond.methodLink RX6 248 yX4_yieldsTo, Cond.instanceMethod yX4_yieldsTo, Cond.selects RX4 yX4_yieldsTo yX4_yieldsTo, Cond.code yX4_yieldsTo cX4_yieldsTo 2 (some .boolean), Cond.methodLink RX6 251 yX4_keep]
def wsX6_prove : List Cond := .code yX6_prove cX6_prove 4 (some .int) :: ((wsX6_prove_r1 ++ (wsX6_prove_r2 ++ (wsX6_prove_r3 ++ (wsX6_prove_r4 ++ (wsX6_prove_r5 ++ (wsX6_prove_r6 ++ (wsX6_prove_r7 ++ (wsX6_prove_r8 ++ wsX6_prove_r9)))))))) ++ wsX60 ++ wsX20 ++ wsX40 ++ wsX10 ++ wsX50 ++ wsX00 ++ wsX30)
def wsX6_why : List Cond := .code yX6_why cX6_why 2 (some .int) :: ([.fieldLink RX6 39 "EqualMethods" "proof" "LEqualMethods$Proof;", .fieldLink RX6 211 "EqualMethods$Proof" "place" "[I", .methodLink RX6 83 yX6_within, .static yX6_within, .initialized RX6, .code yX6_within cX6_within 3 (some .boolean)] ++ wsX60 ++ wsX40)
def wsX6_count : List Cond := .code yX6_count cX6_count 2 (some .int) :: ([.fieldLink RX6 10 "EqualMethods" "build0" "LEqualMethods$Build;", .fieldLink RX6 91 "EqualMethods$Build" "methods" "I", .fieldLink RX6 16 "EqualMethods" "build1" "LEqualMethods$Build;", .fieldLink RX6 32 "EqualMethods" "pairs" "LEqualMethods$Pairs;", .fieldLink RX6 195 "EqualMethods$Pairs" "size" "I", .fieldLink RX6 56 "EqualMethods" "bits" "I", .fieldLink RX6 22 "EqualMethods" "ports" "LEqualMethods$Ports;", .fieldLink RX6 214 "EqualMethods$Ports" "standsFor" "[I", .fieldLink RX6 159 "EqualMethods$Ports" "groups" "[I"] ++ wsX60 ++ wsX00 ++ wsX20 ++ wsX30)
def wsX7_init_r1 : List Cond := [Cond.methodLink RX7 1 objectInit, Cond.instanceMethod objectInit, Cond.code objectInit ⟨#[0xb1]⟩ 1 none, Cond.arrayClass .int, Cond.fieldLink RX7 7 "EqualMethodsModel" "methods" "[I", Cond.fieldLink RX7 13 "EqualMethodsModel" "sizes" "[I", Cond.fieldLink RX7 16 "EqualMethodsModel" "ops" "[I", Cond.fieldLink RX7 19 "EqualMethodsModel" "as" "[I", Cond.fieldLink RX7 22 "EqualMethodsModel" "bs" "[I", Cond.fieldLink RX7 25 "EqualMethodsModel" "cs" "[I", Cond.fieldLink RX7 28 "EqualMethodsModel" "stands" "[I", Cond.fieldLink RX7 31 "EqualMethodsModel" "groups" "[I", Cond.fieldLink RX7 34 "EqualMethodsModel" "pairA" "[I", Cond.fieldLink RX7 37 "EqualMethodsModel" "pairB" "[I", Cond.fieldLink RX7 40 "EqualMethodsModel" "frameMethod" "[I", Cond.fieldLink RX7 43 "EqualMethodsModel" "frameLine" "[I", Cond.fieldLink RX7 46 "EqualMethodsModel" "frameTarget" "[I", Cond.fieldLink RX7 49 "EqualMethodsModel" "registers" "[I", Cond.fieldLink RX7 52 "EqualMethodsModel" "end" "[I", Cond.fieldLink RX7 55 "EqualMethodsModel" "kind" "[I", Cond.fieldLink RX7 58 "EqualMethodsModel" "number" "[I", Cond.fieldLink RX7 61 "EqualMethodsModel" "begun" "[I", Cond.fieldLink RX7 64 "EqualMethodsModel" "deepest" "[I", Cond.fieldLink RX7 67 "EqualMethodsModel" "tells" "[I"]
def wsX7_init_r2 : List Cond := [Cond.fieldLink RX7 70 "EqualMethodsModel" "tellPort" "[I", Cond.fieldLink RX7 73 "EqualMethodsModel" "tellNumber" "[I", Cond.fieldLink RX7 76 "EqualMethodsModel" "tellPart" "[I", Cond.fieldLink RX7 79 "EqualMethodsModel" "callings" "[I", Cond.fieldLink RX7 82 "EqualMethodsModel" "calledMethod" "[I", Cond.fieldLink RX7 85 "EqualMethodsModel" "calledX" "[I", Cond.fieldLink RX7 88 "EqualMethodsModel" "calledY" "[I", Cond.fieldLink RX7 91 "EqualMethodsModel" "firstX" "I", Cond.fieldLink RX7 95 "EqualMethodsModel" "firstY" "I", Cond.fieldLink RX7 98 "EqualMethodsModel" "kept" "[I", Cond.fieldLink RX7 101 "EqualMethodsModel" "why" "[I", Cond.fieldLink RX7 104 "EqualMethodsModel" "bits" "I", Cond.fieldLink RX7 107 "EqualMethodsModel" "mask" "I"]
def wsX7_init : List Cond := .code yX7_init cX7_init 3 none :: ((wsX7_init_r1 ++ wsX7_init_r2) ++ wsX70)
def wsX7_in : List Cond := .code yX7_in cX7_in 3 (some .boolean) :: ([])
def wsX7_isMethod : List Cond := .code yX7_isMethod cX7_isMethod 3 (some .boolean) :: ([.fieldLink RX7 7 "EqualMethodsModel" "methods" "[I", .methodLink RX7 110 yX7_in, .static yX7_in, .initialized RX7, .code yX7_in cX7_in 3 (some .boolean)] ++ wsX70)
def wsX7_isNumber : List Cond := .code yX7_isNumber cX7_isNumber 2 (some .boolean) :: ([.fieldLink RX7 107 "EqualMethodsModel" "mask" "I", .methodLink RX7 110 yX7_in, .static yX7_in, .initialized RX7, .code yX7_in cX7_in 3 (some .boolean)] ++ wsX70)
def wsX7_method : List Cond := .code yX7_method cX7_method 3 (some .int) :: ([.fieldLink RX7 7 "EqualMethodsModel" "methods" "[I", .fieldLink RX7 13 "EqualMethodsModel" "sizes" "[I", .methodLink RX7 110 yX7_in, .static yX7_in, .initialized RX7, .code yX7_in cX7_in 3 (some .boolean)] ++ wsX70)
def wsX7_isRegister : List Cond := .code yX7_isRegister cX7_isRegister 1 (some .boolean) :: ([.methodLink RX7 110 yX7_in, .static yX7_in, .initialized RX7, .code yX7_in cX7_in 3 (some .boolean)])
def wsX7_isRight : List Cond := .code yX7_isRight cX7_isRight 5 (some .boolean) :: ([.methodLink RX7 114 yX7_isRegister, .static yX7_isRegister, .initialized RX7, .code yX7_isRegister cX7_isRegister 1 (some .boolean), .methodLink RX7 110 yX7_in, .static yX7_in, .code yX7_in cX7_in 3 (some .boolean), .methodLink RX7 118 yX7_isNumber, .instanceMethod yX7_isNumber, .selects RX7 yX7_isNumber yX7_isNumber, .code yX7_isNumber cX7_isNumber 2 (some .boolean), .fieldLink RX7 107 "EqualMethodsModel" "mask" "I"] ++ wsX70)
def wsX7_op_r1 : List Cond := [Cond.fieldLink RX7 13 "EqualMethodsModel" "sizes" "[I", Cond.fieldLink RX7 16 "EqualMethodsModel" "ops" "[I", Cond.fieldLink RX7 19 "EqualMethodsModel" "as" "[I", Cond.fieldLink RX7 22 "EqualMethodsModel" "bs" "[I", Cond.fieldLink RX7 25 "EqualMethodsModel" "cs" "[I", Cond.methodLink RX7 121 yX7_isMethod, Cond.instanceMethod yX7_isMethod, Cond.selects RX7 yX7_isMethod yX7_isMethod, Cond.initialized RX7, Cond.code yX7_isMethod cX7_isMethod 3 (some .boolean), Cond.fieldLink RX7 7 "EqualMethodsModel" "methods" "[I", Cond.methodLink RX7 110 yX7_in, Cond.static yX7_in, Cond.code yX7_in cX7_in 3 (some .boolean), Cond.methodLink RX7 125 yX7_isRight, Cond.instanceMethod yX7_isRight, Cond.selects RX7 yX7_isRight yX7_isRight, Cond.code yX7_isRight cX7_isRight 5 (some .boolean), Cond.methodLink RX7 114 yX7_isRegister, Cond.static yX7_isRegister, Cond.code yX7_isRegister cX7_isRegister 1 (some .boolean), Cond.methodLink RX7 118 yX7_isNumber, Cond.instanceMethod yX7_isNumber, Cond.selects RX7 yX7_isNumber yX7_isNumber]
def wsX7_op_r2 : List Cond := [Cond.code yX7_isNumber cX7_isNumber 2 (some .boolean), Cond.fieldLink RX7 107 "EqualMethodsModel" "mask" "I"]
def wsX7_op : List Cond := .code yX7_op cX7_op 9 (some .int) :: ((wsX7_op_r1 ++ wsX7_op_r2) ++ wsX70)
def wsX7_clear : List Cond := .code yX7_clear cX7_clear 4 (some .int) :: ([.fieldLink RX7 13 "EqualMethodsModel" "sizes" "[I", .methodLink RX7 121 yX7_isMethod, .instanceMethod yX7_isMethod, .selects RX7 yX7_isMethod yX7_isMethod, .initialized RX7, .code yX7_isMethod cX7_isMethod 3 (some .boolean), .fieldLink RX7 7 "EqualMethodsModel" "methods" "[I", .methodLink RX7 110 yX7_in, .static yX7_in, .code yX7_in cX7_in 3 (some .boolean)] ++ wsX70)
def wsX7_enter : List Cond := .code yX7_enter cX7_enter 6 none :: ([.fieldLink RX7 40 "EqualMethodsModel" "frameMethod" "[I", .fieldLink RX7 129 "EqualMethodsModel" "frames" "I", .fieldLink RX7 43 "EqualMethodsModel" "frameLine" "[I", .fieldLink RX7 46 "EqualMethodsModel" "frameTarget" "[I", .fieldLink RX7 49 "EqualMethodsModel" "registers" "[I", .fieldLink RX7 64 "EqualMethodsModel" "deepest" "[I", .fieldLink RX7 132 "EqualMethodsModel" "slot" "I"] ++ wsX70)
def wsX7_returns : List Cond := .code yX7_returns cX7_returns 2 none :: ([.fieldLink RX7 129 "EqualMethodsModel" "frames" "I", .fieldLink RX7 52 "EqualMethodsModel" "end" "[I", .fieldLink RX7 132 "EqualMethodsModel" "slot" "I", .fieldLink RX7 58 "EqualMethodsModel" "number" "[I", .fieldLink RX7 49 "EqualMethodsModel" "registers" "[I", .fieldLink RX7 46 "EqualMethodsModel" "frameTarget" "[I"] ++ wsX70)
def wsX7_throwsOut : List Cond := .code yX7_throwsOut cX7_throwsOut 3 none :: ([.fieldLink RX7 52 "EqualMethodsModel" "end" "[I", .fieldLink RX7 132 "EqualMethodsModel" "slot" "I", .fieldLink RX7 55 "EqualMethodsModel" "kind" "[I", .fieldLink RX7 58 "EqualMethodsModel" "number" "[I"] ++ wsX70)
def wsX7_reckoned : List Cond := .code yX7_reckoned cX7_reckoned 3 (some .int) :: ([])
def wsX7_calls_r1 : List Cond := [Cond.fieldLink RX7 22 "EqualMethodsModel" "bs" "[I", Cond.fieldLink RX7 49 "EqualMethodsModel" "registers" "[I", Cond.fieldLink RX7 25 "EqualMethodsModel" "cs" "[I", Cond.fieldLink RX7 7 "EqualMethodsModel" "methods" "[I", Cond.fieldLink RX7 139 "EqualMethodsModel" "isWalk" "Z", Cond.fieldLink RX7 129 "EqualMethodsModel" "frames" "I", Cond.fieldLink RX7 52 "EqualMethodsModel" "end" "[I", Cond.fieldLink RX7 132 "EqualMethodsModel" "slot" "I", Cond.fieldLink RX7 19 "EqualMethodsModel" "as" "[I", Cond.fieldLink RX7 79 "EqualMethodsModel" "callings" "[I", Cond.fieldLink RX7 82 "EqualMethodsModel" "calledMethod" "[I", Cond.fieldLink RX7 85 "EqualMethodsModel" "calledX" "[I", Cond.fieldLink RX7 88 "EqualMethodsModel" "calledY" "[I", Cond.fieldLink RX7 147 "EqualMethodsModel" "answer0" "I", Cond.fieldLink RX7 150 "EqualMethodsModel" "answer1" "I", Cond.fieldLink RX7 107 "EqualMethodsModel" "mask" "I", Cond.methodLink RX7 135 yX7_throwsOut, Cond.instanceMethod yX7_throwsOut, Cond.selects RX7 yX7_throwsOut yX7_throwsOut, Cond.initialized RX7, Cond.code yX7_throwsOut cX7_throwsOut 3 none, Cond.fieldLink RX7 55 "EqualMethodsModel" "kind" "[I", Cond.fieldLink RX7 58 "EqualMethodsModel" "number" "[I", Cond.methodLink RX7 143 yX7_enter]
def wsX7_calls_r2 : List Cond := [Cond.instanceMethod yX7_enter, Cond.selects RX7 yX7_enter yX7_enter, Cond.code yX7_enter cX7_enter 6 none, Cond.fieldLink RX7 40 "EqualMethodsModel" "frameMethod" "[I", Cond.fieldLink RX7 43 "EqualMethodsModel" "frameLine" "[I", Cond.fieldLink RX7 46 "EqualMethodsModel" "frameTarget" "[I", Cond.fieldLink RX7 64 "EqualMethodsModel" "deepest" "[I"]
def wsX7_calls : List Cond := .code yX7_calls cX7_calls 9 none :: ((wsX7_calls_r1 ++ wsX7_calls_r2) ++ wsX70)
def wsX7_tell : List Cond := .code yX7_tell cX7_tell 4 none :: ([.fieldLink RX7 67 "EqualMethodsModel" "tells" "[I", .fieldLink RX7 132 "EqualMethodsModel" "slot" "I", .fieldLink RX7 52 "EqualMethodsModel" "end" "[I", .fieldLink RX7 70 "EqualMethodsModel" "tellPort" "[I", .fieldLink RX7 73 "EqualMethodsModel" "tellNumber" "[I", .fieldLink RX7 76 "EqualMethodsModel" "tellPart" "[I", .fieldLink RX7 79 "EqualMethodsModel" "callings" "[I"] ++ wsX70)
def wsX7_act_r1 : List Cond := [Cond.fieldLink RX7 16 "EqualMethodsModel" "ops" "[I", Cond.fieldLink RX7 19 "EqualMethodsModel" "as" "[I", Cond.fieldLink RX7 22 "EqualMethodsModel" "bs" "[I", Cond.fieldLink RX7 49 "EqualMethodsModel" "registers" "[I", Cond.fieldLink RX7 43 "EqualMethodsModel" "frameLine" "[I", Cond.fieldLink RX7 25 "EqualMethodsModel" "cs" "[I", Cond.fieldLink RX7 107 "EqualMethodsModel" "mask" "I", Cond.methodLink RX7 153 yX7_tell, Cond.instanceMethod yX7_tell, Cond.selects RX7 yX7_tell yX7_tell, Cond.initialized RX7, Cond.code yX7_tell cX7_tell 4 none, Cond.fieldLink RX7 67 "EqualMethodsModel" "tells" "[I", Cond.fieldLink RX7 132 "EqualMethodsModel" "slot" "I", Cond.fieldLink RX7 52 "EqualMethodsModel" "end" "[I", Cond.fieldLink RX7 70 "EqualMethodsModel" "tellPort" "[I", Cond.fieldLink RX7 73 "EqualMethodsModel" "tellNumber" "[I", Cond.fieldLink RX7 76 "EqualMethodsModel" "tellPart" "[I", Cond.fieldLink RX7 79 "EqualMethodsModel" "callings" "[I", Cond.methodLink RX7 156 yX7_calls, Cond.instanceMethod yX7_calls, Cond.selects RX7 yX7_calls yX7_calls, Cond.code yX7_calls cX7_calls 9 none, Cond.fieldLink RX7 7 "EqualMethodsModel" "methods" "[I"]
def wsX7_act_r2 : List Cond := [Cond.fieldLink RX7 139 "EqualMethodsModel" "isWalk" "Z", Cond.fieldLink RX7 129 "EqualMethodsModel" "frames" "I", Cond.fieldLink RX7 82 "EqualMethodsModel" "calledMethod" "[I", Cond.fieldLink RX7 85 "EqualMethodsModel" "calledX" "[I", Cond.fieldLink RX7 88 "EqualMethodsModel" "calledY" "[I", Cond.fieldLink RX7 147 "EqualMethodsModel" "answer0" "I", Cond.fieldLink RX7 150 "EqualMethodsModel" "answer1" "I", Cond.methodLink RX7 135 yX7_throwsOut, Cond.instanceMethod yX7_throwsOut, Cond.selects RX7 yX7_throwsOut yX7_throwsOut, Cond.code yX7_throwsOut cX7_throwsOut 3 none, Cond.fieldLink RX7 55 "EqualMethodsModel" "kind" "[I", Cond.fieldLink RX7 58 "EqualMethodsModel" "number" "[I", Cond.methodLink RX7 143 yX7_enter, Cond.instanceMethod yX7_enter, Cond.selects RX7 yX7_enter yX7_enter, Cond.code yX7_enter cX7_enter 6 none, Cond.fieldLink RX7 40 "EqualMethodsModel" "frameMethod" "[I", Cond.fieldLink RX7 46 "EqualMethodsModel" "frameTarget" "[I", Cond.fieldLink RX7 64 "EqualMethodsModel" "deepest" "[I", Cond.methodLink RX7 160 yX7_returns, Cond.instanceMethod yX7_returns, Cond.selects RX7 yX7_returns yX7_returns, Cond.code yX7_returns cX7_returns 2 none]
def wsX7_act_r3 : List Cond := [Cond.methodLink RX7 164 yX7_reckoned, Cond.static yX7_reckoned, Cond.code yX7_reckoned cX7_reckoned 3 (some .int)]
def wsX7_act : List Cond := .code yX7_act cX7_act 10 none :: ((wsX7_act_r1 ++ (wsX7_act_r2 ++ wsX7_act_r3)) ++ wsX70)
def wsX7_play_r1 : List Cond := [Cond.fieldLink RX7 132 "EqualMethodsModel" "slot" "I", Cond.fieldLink RX7 129 "EqualMethodsModel" "frames" "I", Cond.fieldLink RX7 52 "EqualMethodsModel" "end" "[I", Cond.fieldLink RX7 55 "EqualMethodsModel" "kind" "[I", Cond.fieldLink RX7 58 "EqualMethodsModel" "number" "[I", Cond.fieldLink RX7 61 "EqualMethodsModel" "begun" "[I", Cond.fieldLink RX7 64 "EqualMethodsModel" "deepest" "[I", Cond.fieldLink RX7 67 "EqualMethodsModel" "tells" "[I", Cond.fieldLink RX7 79 "EqualMethodsModel" "callings" "[I", Cond.fieldLink RX7 40 "EqualMethodsModel" "frameMethod" "[I", Cond.fieldLink RX7 43 "EqualMethodsModel" "frameLine" "[I", Cond.fieldLink RX7 13 "EqualMethodsModel" "sizes" "[I", Cond.methodLink RX7 143 yX7_enter, Cond.instanceMethod yX7_enter, Cond.selects RX7 yX7_enter yX7_enter, Cond.initialized RX7, Cond.code yX7_enter cX7_enter 6 none, Cond.fieldLink RX7 46 "EqualMethodsModel" "frameTarget" "[I", Cond.fieldLink RX7 49 "EqualMethodsModel" "registers" "[I", Cond.methodLink RX7 160 yX7_returns, Cond.instanceMethod yX7_returns, Cond.selects RX7 yX7_returns yX7_returns, Cond.code yX7_returns cX7_returns 2 none, Cond.methodLink RX7 168 yX7_act]
def wsX7_play_r2 : List Cond := [Cond.instanceMethod yX7_act, Cond.selects RX7 yX7_act yX7_act, Cond.code yX7_act cX7_act 10 none, Cond.fieldLink RX7 16 "EqualMethodsModel" "ops" "[I", Cond.fieldLink RX7 19 "EqualMethodsModel" "as" "[I", Cond.fieldLink RX7 22 "EqualMethodsModel" "bs" "[I", Cond.fieldLink RX7 25 "EqualMethodsModel" "cs" "[I", Cond.fieldLink RX7 107 "EqualMethodsModel" "mask" "I", Cond.methodLink RX7 153 yX7_tell, Cond.instanceMethod yX7_tell, Cond.selects RX7 yX7_tell yX7_tell, Cond.code yX7_tell cX7_tell 4 none, Cond.fieldLink RX7 70 "EqualMethodsModel" "tellPort" "[I", Cond.fieldLink RX7 73 "EqualMethodsModel" "tellNumber" "[I", Cond.fieldLink RX7 76 "EqualMethodsModel" "tellPart" "[I", Cond.methodLink RX7 156 yX7_calls, Cond.instanceMethod yX7_calls, Cond.selects RX7 yX7_calls yX7_calls, Cond.code yX7_calls cX7_calls 9 none, Cond.fieldLink RX7 7 "EqualMethodsModel" "methods" "[I", Cond.fieldLink RX7 139 "EqualMethodsModel" "isWalk" "Z", Cond.fieldLink RX7 82 "EqualMethodsModel" "calledMethod" "[I", Cond.fieldLink RX7 85 "EqualMethodsModel" "calledX" "[I", Cond.fieldLink RX7 88 "EqualMethodsModel" "calledY" "[I"]
def wsX7_play_r3 : List Cond := [Cond.fieldLink RX7 147 "EqualMethodsModel" "answer0" "I", Cond.fieldLink RX7 150 "EqualMethodsModel" "answer1" "I", Cond.methodLink RX7 135 yX7_throwsOut, Cond.instanceMethod yX7_throwsOut, Cond.selects RX7 yX7_throwsOut yX7_throwsOut, Cond.code yX7_throwsOut cX7_throwsOut 3 none, Cond.methodLink RX7 164 yX7_reckoned, Cond.static yX7_reckoned, Cond.code yX7_reckoned cX7_reckoned 3 (some .int)]
def wsX7_play : List Cond := .code yX7_play cX7_play 9 none :: ((wsX7_play_r1 ++ (wsX7_play_r2 ++ wsX7_play_r3)) ++ wsX70)
def wsX7_run_r1 : List Cond := [Cond.fieldLink RX7 139 "EqualMethodsModel" "isWalk" "Z", Cond.fieldLink RX7 52 "EqualMethodsModel" "end" "[I", Cond.methodLink RX7 121 yX7_isMethod, Cond.instanceMethod yX7_isMethod, Cond.selects RX7 yX7_isMethod yX7_isMethod, Cond.initialized RX7, Cond.code yX7_isMethod cX7_isMethod 3 (some .boolean), Cond.fieldLink RX7 7 "EqualMethodsModel" "methods" "[I", Cond.methodLink RX7 110 yX7_in, Cond.static yX7_in, Cond.code yX7_in cX7_in 3 (some .boolean), Cond.methodLink RX7 118 yX7_isNumber, Cond.instanceMethod yX7_isNumber, Cond.selects RX7 yX7_isNumber yX7_isNumber, Cond.code yX7_isNumber cX7_isNumber 2 (some .boolean), Cond.fieldLink RX7 107 "EqualMethodsModel" "mask" "I", Cond.methodLink RX7 171 yX7_play, Cond.instanceMethod yX7_play, Cond.selects RX7 yX7_play yX7_play, Cond.code yX7_play cX7_play 9 none, Cond.fieldLink RX7 132 "EqualMethodsModel" "slot" "I", Cond.fieldLink RX7 129 "EqualMethodsModel" "frames" "I", Cond.fieldLink RX7 55 "EqualMethodsModel" "kind" "[I", Cond.fieldLink RX7 58 "EqualMethodsModel" "number" "[I"]
def wsX7_run_r2 : List Cond := [Cond.fieldLink RX7 61 "EqualMethodsModel" "begun" "[I", Cond.fieldLink RX7 64 "EqualMethodsModel" "deepest" "[I", Cond.fieldLink RX7 67 "EqualMethodsModel" "tells" "[I", Cond.fieldLink RX7 79 "EqualMethodsModel" "callings" "[I", Cond.fieldLink RX7 40 "EqualMethodsModel" "frameMethod" "[I", Cond.fieldLink RX7 43 "EqualMethodsModel" "frameLine" "[I", Cond.fieldLink RX7 13 "EqualMethodsModel" "sizes" "[I", Cond.methodLink RX7 143 yX7_enter, Cond.instanceMethod yX7_enter, Cond.selects RX7 yX7_enter yX7_enter, Cond.code yX7_enter cX7_enter 6 none, Cond.fieldLink RX7 46 "EqualMethodsModel" "frameTarget" "[I", Cond.fieldLink RX7 49 "EqualMethodsModel" "registers" "[I", Cond.methodLink RX7 160 yX7_returns, Cond.instanceMethod yX7_returns, Cond.selects RX7 yX7_returns yX7_returns, Cond.code yX7_returns cX7_returns 2 none, Cond.methodLink RX7 168 yX7_act, Cond.instanceMethod yX7_act, Cond.selects RX7 yX7_act yX7_act, Cond.code yX7_act cX7_act 10 none, Cond.fieldLink RX7 16 "EqualMethodsModel" "ops" "[I", Cond.fieldLink RX7 19 "EqualMethodsModel" "as" "[I", Cond.fieldLink RX7 22 "EqualMethodsModel" "bs" "[I"]
def wsX7_run_r3 : List Cond := [Cond.fieldLink RX7 25 "EqualMethodsModel" "cs" "[I", Cond.methodLink RX7 153 yX7_tell, Cond.instanceMethod yX7_tell, Cond.selects RX7 yX7_tell yX7_tell, Cond.code yX7_tell cX7_tell 4 none, Cond.fieldLink RX7 70 "EqualMethodsModel" "tellPort" "[I", Cond.fieldLink RX7 73 "EqualMethodsModel" "tellNumber" "[I", Cond.fieldLink RX7 76 "EqualMethodsModel" "tellPart" "[I", Cond.methodLink RX7 156 yX7_calls, Cond.instanceMethod yX7_calls, Cond.selects RX7 yX7_calls yX7_calls, Cond.code yX7_calls cX7_calls 9 none, Cond.fieldLink RX7 82 "EqualMethodsModel" "calledMethod" "[I", Cond.fieldLink RX7 85 "EqualMethodsModel" "calledX" "[I", Cond.fieldLink RX7 88 "EqualMethodsModel" "calledY" "[I", Cond.fieldLink RX7 147 "EqualMethodsModel" "answer0" "I", Cond.fieldLink RX7 150 "EqualMethodsModel" "answer1" "I", Cond.methodLink RX7 135 yX7_throwsOut, Cond.instanceMethod yX7_throwsOut, Cond.selects RX7 yX7_throwsOut yX7_throwsOut, Cond.code yX7_throwsOut cX7_throwsOut 3 none, Cond.methodLink RX7 164 yX7_reckoned, Cond.static yX7_reckoned, Cond.code yX7_reckoned cX7_reckoned 3 (some .int)]
def wsX7_run : List Cond := .code yX7_run cX7_run 5 (some .int) :: ((wsX7_run_r1 ++ (wsX7_run_r2 ++ wsX7_run_r3)) ++ wsX70)
def wsX7_ran : List Cond := .code yX7_ran cX7_ran 2 (some .int) :: ([.fieldLink RX7 58 "EqualMethodsModel" "number" "[I", .fieldLink RX7 55 "EqualMethodsModel" "kind" "[I", .fieldLink RX7 61 "EqualMethodsModel" "begun" "[I", .fieldLink RX7 67 "EqualMethodsModel" "tells" "[I", .fieldLink RX7 64 "EqualMethodsModel" "deepest" "[I"] ++ wsX70)
def wsX7_told : List Cond := .code yX7_told cX7_told 3 (some .int) :: ([.fieldLink RX7 67 "EqualMethodsModel" "tells" "[I", .fieldLink RX7 70 "EqualMethodsModel" "tellPort" "[I", .fieldLink RX7 73 "EqualMethodsModel" "tellNumber" "[I", .methodLink RX7 110 yX7_in, .static yX7_in, .initialized RX7, .code yX7_in cX7_in 3 (some .boolean)] ++ wsX70)
def wsX7_rename : List Cond := .code yX7_rename cX7_rename 5 (some .int) :: ([.fieldLink RX7 28 "EqualMethodsModel" "stands" "[I", .methodLink RX7 110 yX7_in, .static yX7_in, .initialized RX7, .code yX7_in cX7_in 3 (some .boolean)] ++ wsX70)
def wsX7_group : List Cond := .code yX7_group cX7_group 4 (some .int) :: ([.fieldLink RX7 31 "EqualMethodsModel" "groups" "[I", .methodLink RX7 110 yX7_in, .static yX7_in, .initialized RX7, .code yX7_in cX7_in 3 (some .boolean)] ++ wsX70)
def wsX7_portOf : List Cond := .code yX7_portOf cX7_portOf 3 (some .int) :: ([.fieldLink RX7 70 "EqualMethodsModel" "tellPort" "[I", .fieldLink RX7 28 "EqualMethodsModel" "stands" "[I"] ++ wsX70)
def wsX7_next : List Cond := .code yX7_next cX7_next 6 (some .int) :: ([.fieldLink RX7 67 "EqualMethodsModel" "tells" "[I", .fieldLink RX7 76 "EqualMethodsModel" "tellPart" "[I", .fieldLink RX7 31 "EqualMethodsModel" "groups" "[I", .methodLink RX7 175 yX7_portOf, .instanceMethod yX7_portOf, .selects RX7 yX7_portOf yX7_portOf, .initialized RX7, .code yX7_portOf cX7_portOf 3 (some .int), .fieldLink RX7 70 "EqualMethodsModel" "tellPort" "[I", .fieldLink RX7 28 "EqualMethodsModel" "stands" "[I"] ++ wsX70)
def wsX7_areTellsLike : List Cond := .code yX7_areTellsLike cX7_areTellsLike 5 (some .boolean) :: ([.fieldLink RX7 67 "EqualMethodsModel" "tells" "[I", .fieldLink RX7 73 "EqualMethodsModel" "tellNumber" "[I", .methodLink RX7 179 yX7_next, .instanceMethod yX7_next, .selects RX7 yX7_next yX7_next, .initialized RX7, .code yX7_next cX7_next 6 (some .int), .fieldLink RX7 76 "EqualMethodsModel" "tellPart" "[I", .fieldLink RX7 31 "EqualMethodsModel" "groups" "[I", .methodLink RX7 175 yX7_portOf, .instanceMethod yX7_portOf, .selects RX7 yX7_portOf yX7_portOf, .code yX7_portOf cX7_portOf 3 (some .int), .fieldLink RX7 70 "EqualMethodsModel" "tellPort" "[I", .fieldLink RX7 28 "EqualMethodsModel" "stands" "[I"] ++ wsX70)
def wsX7_isPair : List Cond := .code yX7_isPair cX7_isPair 5 (some .boolean) :: ([.fieldLink RX7 183 "EqualMethodsModel" "pairs" "I", .fieldLink RX7 34 "EqualMethodsModel" "pairA" "[I", .fieldLink RX7 37 "EqualMethodsModel" "pairB" "[I"] ++ wsX70)
def wsX7_areLike_r1 : List Cond := [Cond.fieldLink RX7 52 "EqualMethodsModel" "end" "[I", Cond.fieldLink RX7 55 "EqualMethodsModel" "kind" "[I", Cond.fieldLink RX7 58 "EqualMethodsModel" "number" "[I", Cond.fieldLink RX7 79 "EqualMethodsModel" "callings" "[I", Cond.fieldLink RX7 82 "EqualMethodsModel" "calledMethod" "[I", Cond.fieldLink RX7 85 "EqualMethodsModel" "calledX" "[I", Cond.fieldLink RX7 88 "EqualMethodsModel" "calledY" "[I", Cond.methodLink RX7 186 yX7_isPair, Cond.instanceMethod yX7_isPair, Cond.selects RX7 yX7_isPair yX7_isPair, Cond.initialized RX7, Cond.code yX7_isPair cX7_isPair 5 (some .boolean), Cond.fieldLink RX7 183 "EqualMethodsModel" "pairs" "I", Cond.fieldLink RX7 34 "EqualMethodsModel" "pairA" "[I", Cond.fieldLink RX7 37 "EqualMethodsModel" "pairB" "[I", Cond.methodLink RX7 189 yX7_areTellsLike, Cond.instanceMethod yX7_areTellsLike, Cond.selects RX7 yX7_areTellsLike yX7_areTellsLike, Cond.code yX7_areTellsLike cX7_areTellsLike 5 (some .boolean), Cond.fieldLink RX7 67 "EqualMethodsModel" "tells" "[I", Cond.fieldLink RX7 73 "EqualMethodsModel" "tellNumber" "[I", Cond.methodLink RX7 179 yX7_next, Cond.instanceMethod yX7_next, Cond.selects RX7 yX7_next yX7_next]
def wsX7_areLike_r2 : List Cond := [Cond.code yX7_next cX7_next 6 (some .int), Cond.fieldLink RX7 76 "EqualMethodsModel" "tellPart" "[I", Cond.fieldLink RX7 31 "EqualMethodsModel" "groups" "[I", Cond.methodLink RX7 175 yX7_portOf, Cond.instanceMethod yX7_portOf, Cond.selects RX7 yX7_portOf yX7_portOf, Cond.code yX7_portOf cX7_portOf 3 (some .int), Cond.fieldLink RX7 70 "EqualMethodsModel" "tellPort" "[I", Cond.fieldLink RX7 28 "EqualMethodsModel" "stands" "[I"]
def wsX7_areLike : List Cond := .code yX7_areLike cX7_areLike 4 (some .boolean) :: ((wsX7_areLike_r1 ++ wsX7_areLike_r2) ++ wsX70)
def wsX7_held_r1 : List Cond := [Cond.fieldLink RX7 139 "EqualMethodsModel" "isWalk" "Z", Cond.fieldLink RX7 107 "EqualMethodsModel" "mask" "I", Cond.fieldLink RX7 52 "EqualMethodsModel" "end" "[I", Cond.fieldLink RX7 196 "EqualMethodsModel" "unlikeX" "I", Cond.fieldLink RX7 199 "EqualMethodsModel" "unlikeY" "I", Cond.methodLink RX7 171 yX7_play, Cond.instanceMethod yX7_play, Cond.selects RX7 yX7_play yX7_play, Cond.initialized RX7, Cond.code yX7_play cX7_play 9 none, Cond.fieldLink RX7 132 "EqualMethodsModel" "slot" "I", Cond.fieldLink RX7 129 "EqualMethodsModel" "frames" "I", Cond.fieldLink RX7 55 "EqualMethodsModel" "kind" "[I", Cond.fieldLink RX7 58 "EqualMethodsModel" "number" "[I", Cond.fieldLink RX7 61 "EqualMethodsModel" "begun" "[I", Cond.fieldLink RX7 64 "EqualMethodsModel" "deepest" "[I", Cond.fieldLink RX7 67 "EqualMethodsModel" "tells" "[I", Cond.fieldLink RX7 79 "EqualMethodsModel" "callings" "[I", Cond.fieldLink RX7 40 "EqualMethodsModel" "frameMethod" "[I", Cond.fieldLink RX7 43 "EqualMethodsModel" "frameLine" "[I", Cond.fieldLink RX7 13 "EqualMethodsModel" "sizes" "[I", Cond.methodLink RX7 143 yX7_enter, Cond.instanceMethod yX7_enter, Cond.selects RX7 yX7_enter yX7_enter]
def wsX7_held_r2 : List Cond := [Cond.code yX7_enter cX7_enter 6 none, Cond.fieldLink RX7 46 "EqualMethodsModel" "frameTarget" "[I", Cond.fieldLink RX7 49 "EqualMethodsModel" "registers" "[I", Cond.methodLink RX7 160 yX7_returns, Cond.instanceMethod yX7_returns, Cond.selects RX7 yX7_returns yX7_returns, Cond.code yX7_returns cX7_returns 2 none, Cond.methodLink RX7 168 yX7_act, Cond.instanceMethod yX7_act, Cond.selects RX7 yX7_act yX7_act, Cond.code yX7_act cX7_act 10 none, Cond.fieldLink RX7 16 "EqualMethodsModel" "ops" "[I", Cond.fieldLink RX7 19 "EqualMethodsModel" "as" "[I", Cond.fieldLink RX7 22 "EqualMethodsModel" "bs" "[I", Cond.fieldLink RX7 25 "EqualMethodsModel" "cs" "[I", Cond.methodLink RX7 153 yX7_tell, Cond.instanceMethod yX7_tell, Cond.selects RX7 yX7_tell yX7_tell, Cond.code yX7_tell cX7_tell 4 none, Cond.fieldLink RX7 70 "EqualMethodsModel" "tellPort" "[I", Cond.fieldLink RX7 73 "EqualMethodsModel" "tellNumber" "[I", Cond.fieldLink RX7 76 "EqualMethodsModel" "tellPart" "[I", Cond.methodLink RX7 156 yX7_calls, Cond.instanceMethod yX7_calls]
def wsX7_held_r3 : List Cond := [Cond.selects RX7 yX7_calls yX7_calls, Cond.code yX7_calls cX7_calls 9 none, Cond.fieldLink RX7 7 "EqualMethodsModel" "methods" "[I", Cond.fieldLink RX7 82 "EqualMethodsModel" "calledMethod" "[I", Cond.fieldLink RX7 85 "EqualMethodsModel" "calledX" "[I", Cond.fieldLink RX7 88 "EqualMethodsModel" "calledY" "[I", Cond.fieldLink RX7 147 "EqualMethodsModel" "answer0" "I", Cond.fieldLink RX7 150 "EqualMethodsModel" "answer1" "I", Cond.methodLink RX7 135 yX7_throwsOut, Cond.instanceMethod yX7_throwsOut, Cond.selects RX7 yX7_throwsOut yX7_throwsOut, Cond.code yX7_throwsOut cX7_throwsOut 3 none, Cond.methodLink RX7 164 yX7_reckoned, Cond.static yX7_reckoned, Cond.code yX7_reckoned cX7_reckoned 3 (some .int), Cond.methodLink RX7 192 yX7_areLike, Cond.instanceMethod yX7_areLike, Cond.selects RX7 yX7_areLike yX7_areLike, Cond.code yX7_areLike cX7_areLike 4 (some .boolean), Cond.methodLink RX7 186 yX7_isPair, Cond.instanceMethod yX7_isPair, Cond.selects RX7 yX7_isPair yX7_isPair, Cond.code yX7_isPair cX7_isPair 5 (some .boolean), Cond.fieldLink RX7 183 "EqualMethodsModel" "pairs" "I"]
def wsX7_held_r4 : List Cond := [Cond.fieldLink RX7 34 "EqualMethodsModel" "pairA" "[I", Cond.fieldLink RX7 37 "EqualMethodsModel" "pairB" "[I", Cond.methodLink RX7 189 yX7_areTellsLike, Cond.instanceMethod yX7_areTellsLike, Cond.selects RX7 yX7_areTellsLike yX7_areTellsLike, Cond.code yX7_areTellsLike cX7_areTellsLike 5 (some .boolean), Cond.methodLink RX7 179 yX7_next, Cond.instanceMethod yX7_next, Cond.selects RX7 yX7_next yX7_next, Cond.code yX7_next cX7_next 6 (some .int), Cond.fieldLink RX7 31 "EqualMethodsModel" "groups" "[I", Cond.methodLink RX7 175 yX7_portOf, Cond.instanceMethod yX7_portOf, Cond.selects RX7 yX7_portOf yX7_portOf, Cond.code yX7_portOf cX7_portOf 3 (some .int), Cond.fieldLink RX7 28 "EqualMethodsModel" "stands" "[I"]
def wsX7_held : List Cond := .code yX7_held cX7_held 6 (some .int) :: ((wsX7_held_r1 ++ (wsX7_held_r2 ++ (wsX7_held_r3 ++ wsX7_held_r4))) ++ wsX70)
def wsX7_hold_r1 : List Cond := [Cond.fieldLink RX7 196 "EqualMethodsModel" "unlikeX" "I", Cond.fieldLink RX7 91 "EqualMethodsModel" "firstX" "I", Cond.fieldLink RX7 199 "EqualMethodsModel" "unlikeY" "I", Cond.fieldLink RX7 95 "EqualMethodsModel" "firstY" "I", Cond.methodLink RX7 121 yX7_isMethod, Cond.instanceMethod yX7_isMethod, Cond.selects RX7 yX7_isMethod yX7_isMethod, Cond.initialized RX7, Cond.code yX7_isMethod cX7_isMethod 3 (some .boolean), Cond.fieldLink RX7 7 "EqualMethodsModel" "methods" "[I", Cond.methodLink RX7 110 yX7_in, Cond.static yX7_in, Cond.code yX7_in cX7_in 3 (some .boolean), Cond.methodLink RX7 202 yX7_held, Cond.instanceMethod yX7_held, Cond.selects RX7 yX7_held yX7_held, Cond.code yX7_held cX7_held 6 (some .int), Cond.fieldLink RX7 139 "EqualMethodsModel" "isWalk" "Z", Cond.fieldLink RX7 107 "EqualMethodsModel" "mask" "I", Cond.fieldLink RX7 52 "EqualMethodsModel" "end" "[I", Cond.methodLink RX7 171 yX7_play, Cond.instanceMethod yX7_play, Cond.selects RX7 yX7_play yX7_play, Cond.code yX7_play cX7_play 9 none]
def wsX7_hold_r2 : List Cond := [Cond.fieldLink RX7 132 "EqualMethodsModel" "slot" "I", Cond.fieldLink RX7 129 "EqualMethodsModel" "frames" "I", Cond.fieldLink RX7 55 "EqualMethodsModel" "kind" "[I", Cond.fieldLink RX7 58 "EqualMethodsModel" "number" "[I", Cond.fieldLink RX7 61 "EqualMethodsModel" "begun" "[I", Cond.fieldLink RX7 64 "EqualMethodsModel" "deepest" "[I", Cond.fieldLink RX7 67 "EqualMethodsModel" "tells" "[I", Cond.fieldLink RX7 79 "EqualMethodsModel" "callings" "[I", Cond.fieldLink RX7 40 "EqualMethodsModel" "frameMethod" "[I", Cond.fieldLink RX7 43 "EqualMethodsModel" "frameLine" "[I", Cond.fieldLink RX7 13 "EqualMethodsModel" "sizes" "[I", Cond.methodLink RX7 143 yX7_enter, Cond.instanceMethod yX7_enter, Cond.selects RX7 yX7_enter yX7_enter, Cond.code yX7_enter cX7_enter 6 none, Cond.fieldLink RX7 46 "EqualMethodsModel" "frameTarget" "[I", Cond.fieldLink RX7 49 "EqualMethodsModel" "registers" "[I", Cond.methodLink RX7 160 yX7_returns, Cond.instanceMethod yX7_returns, Cond.selects RX7 yX7_returns yX7_returns, Cond.code yX7_returns cX7_returns 2 none, Cond.methodLink RX7 168 yX7_act, Cond.instanceMethod yX7_act, Cond.selects RX7 yX7_act yX7_act]
def wsX7_hold_r3 : List Cond := [Cond.code yX7_act cX7_act 10 none, Cond.fieldLink RX7 16 "EqualMethodsModel" "ops" "[I", Cond.fieldLink RX7 19 "EqualMethodsModel" "as" "[I", Cond.fieldLink RX7 22 "EqualMethodsModel" "bs" "[I", Cond.fieldLink RX7 25 "EqualMethodsModel" "cs" "[I", Cond.methodLink RX7 153 yX7_tell, Cond.instanceMethod yX7_tell, Cond.selects RX7 yX7_tell yX7_tell, Cond.code yX7_tell cX7_tell 4 none, Cond.fieldLink RX7 70 "EqualMethodsModel" "tellPort" "[I", Cond.fieldLink RX7 73 "EqualMethodsModel" "tellNumber" "[I", Cond.fieldLink RX7 76 "EqualMethodsModel" "tellPart" "[I", Cond.methodLink RX7 156 yX7_calls, Cond.instanceMethod yX7_calls, Cond.selects RX7 yX7_calls yX7_calls, Cond.code yX7_calls cX7_calls 9 none, Cond.fieldLink RX7 82 "EqualMethodsModel" "calledMethod" "[I", Cond.fieldLink RX7 85 "EqualMethodsModel" "calledX" "[I", Cond.fieldLink RX7 88 "EqualMethodsModel" "calledY" "[I", Cond.fieldLink RX7 147 "EqualMethodsModel" "answer0" "I", Cond.fieldLink RX7 150 "EqualMethodsModel" "answer1" "I", Cond.methodLink RX7 135 yX7_throwsOut, Cond.instanceMethod yX7_throwsOut, Cond.selects RX7 yX7_throwsOut yX7_throwsOut]
def wsX7_hold_r4 : List Cond := [Cond.code yX7_throwsOut cX7_throwsOut 3 none, Cond.methodLink RX7 164 yX7_reckoned, Cond.static yX7_reckoned, Cond.code yX7_reckoned cX7_reckoned 3 (some .int), Cond.methodLink RX7 192 yX7_areLike, Cond.instanceMethod yX7_areLike, Cond.selects RX7 yX7_areLike yX7_areLike, Cond.code yX7_areLike cX7_areLike 4 (some .boolean), Cond.methodLink RX7 186 yX7_isPair, Cond.instanceMethod yX7_isPair, Cond.selects RX7 yX7_isPair yX7_isPair, Cond.code yX7_isPair cX7_isPair 5 (some .boolean), Cond.fieldLink RX7 183 "EqualMethodsModel" "pairs" "I", Cond.fieldLink RX7 34 "EqualMethodsModel" "pairA" "[I", Cond.fieldLink RX7 37 "EqualMethodsModel" "pairB" "[I", Cond.methodLink RX7 189 yX7_areTellsLike, Cond.instanceMethod yX7_areTellsLike, Cond.selects RX7 yX7_areTellsLike yX7_areTellsLike, Cond.code yX7_areTellsLike cX7_areTellsLike 5 (some .boolean), Cond.methodLink RX7 179 yX7_next, Cond.instanceMethod yX7_next, Cond.selects RX7 yX7_next yX7_next, Cond.code yX7_next cX7_next 6 (some .int), Cond.fieldLink RX7 31 "EqualMethodsModel" "groups" "[I"]
def wsX7_hold_r5 : List Cond := [Cond.methodLink RX7 175 yX7_portOf, Cond.instanceMethod yX7_portOf, Cond.selects RX7 yX7_portOf yX7_portOf, Cond.code yX7_portOf cX7_portOf 3 (some .int), Cond.fieldLink RX7 28 "EqualMethodsModel" "stands" "[I"]
def wsX7_hold : List Cond := .code yX7_hold cX7_hold 4 (some .int) :: ((wsX7_hold_r1 ++ (wsX7_hold_r2 ++ (wsX7_hold_r3 ++ (wsX7_hold_r4 ++ wsX7_hold_r5)))) ++ wsX70)
def wsX7_first : List Cond := .code yX7_first cX7_first 2 (some .int) :: ([.fieldLink RX7 91 "EqualMethodsModel" "firstX" "I", .fieldLink RX7 95 "EqualMethodsModel" "firstY" "I"] ++ wsX70)
def wsX7_match_r1 : List Cond := [Cond.fieldLink RX7 7 "EqualMethodsModel" "methods" "[I", Cond.methodLink RX7 121 yX7_isMethod, Cond.instanceMethod yX7_isMethod, Cond.selects RX7 yX7_isMethod yX7_isMethod, Cond.initialized RX7, Cond.code yX7_isMethod cX7_isMethod 3 (some .boolean), Cond.methodLink RX7 110 yX7_in, Cond.static yX7_in, Cond.code yX7_in cX7_in 3 (some .boolean), Cond.methodLink RX7 202 yX7_held, Cond.instanceMethod yX7_held, Cond.selects RX7 yX7_held yX7_held, Cond.code yX7_held cX7_held 6 (some .int), Cond.fieldLink RX7 139 "EqualMethodsModel" "isWalk" "Z", Cond.fieldLink RX7 107 "EqualMethodsModel" "mask" "I", Cond.fieldLink RX7 52 "EqualMethodsModel" "end" "[I", Cond.fieldLink RX7 196 "EqualMethodsModel" "unlikeX" "I", Cond.fieldLink RX7 199 "EqualMethodsModel" "unlikeY" "I", Cond.methodLink RX7 171 yX7_play, Cond.instanceMethod yX7_play, Cond.selects RX7 yX7_play yX7_play, Cond.code yX7_play cX7_play 9 none, Cond.fieldLink RX7 132 "EqualMethodsModel" "slot" "I", Cond.fieldLink RX7 129 "EqualMethodsModel" "frames" "I"]
def wsX7_match_r2 : List Cond := [Cond.fieldLink RX7 55 "EqualMethodsModel" "kind" "[I", Cond.fieldLink RX7 58 "EqualMethodsModel" "number" "[I", Cond.fieldLink RX7 61 "EqualMethodsModel" "begun" "[I", Cond.fieldLink RX7 64 "EqualMethodsModel" "deepest" "[I", Cond.fieldLink RX7 67 "EqualMethodsModel" "tells" "[I", Cond.fieldLink RX7 79 "EqualMethodsModel" "callings" "[I", Cond.fieldLink RX7 40 "EqualMethodsModel" "frameMethod" "[I", Cond.fieldLink RX7 43 "EqualMethodsModel" "frameLine" "[I", Cond.fieldLink RX7 13 "EqualMethodsModel" "sizes" "[I", Cond.methodLink RX7 143 yX7_enter, Cond.instanceMethod yX7_enter, Cond.selects RX7 yX7_enter yX7_enter, Cond.code yX7_enter cX7_enter 6 none, Cond.fieldLink RX7 46 "EqualMethodsModel" "frameTarget" "[I", Cond.fieldLink RX7 49 "EqualMethodsModel" "registers" "[I", Cond.methodLink RX7 160 yX7_returns, Cond.instanceMethod yX7_returns, Cond.selects RX7 yX7_returns yX7_returns, Cond.code yX7_returns cX7_returns 2 none, Cond.methodLink RX7 168 yX7_act, Cond.instanceMethod yX7_act, Cond.selects RX7 yX7_act yX7_act, Cond.code yX7_act cX7_act 10 none, Cond.fieldLink RX7 16 "EqualMethodsModel" "ops" "[I"]
def wsX7_match_r3 : List Cond := [Cond.fieldLink RX7 19 "EqualMethodsModel" "as" "[I", Cond.fieldLink RX7 22 "EqualMethodsModel" "bs" "[I", Cond.fieldLink RX7 25 "EqualMethodsModel" "cs" "[I", Cond.methodLink RX7 153 yX7_tell, Cond.instanceMethod yX7_tell, Cond.selects RX7 yX7_tell yX7_tell, Cond.code yX7_tell cX7_tell 4 none, Cond.fieldLink RX7 70 "EqualMethodsModel" "tellPort" "[I", Cond.fieldLink RX7 73 "EqualMethodsModel" "tellNumber" "[I", Cond.fieldLink RX7 76 "EqualMethodsModel" "tellPart" "[I", Cond.methodLink RX7 156 yX7_calls, Cond.instanceMethod yX7_calls, Cond.selects RX7 yX7_calls yX7_calls, Cond.code yX7_calls cX7_calls 9 none, Cond.fieldLink RX7 82 "EqualMethodsModel" "calledMethod" "[I", Cond.fieldLink RX7 85 "EqualMethodsModel" "calledX" "[I", Cond.fieldLink RX7 88 "EqualMethodsModel" "calledY" "[I", Cond.fieldLink RX7 147 "EqualMethodsModel" "answer0" "I", Cond.fieldLink RX7 150 "EqualMethodsModel" "answer1" "I", Cond.methodLink RX7 135 yX7_throwsOut, Cond.instanceMethod yX7_throwsOut, Cond.selects RX7 yX7_throwsOut yX7_throwsOut, Cond.code yX7_throwsOut cX7_throwsOut 3 none, Cond.methodLink RX7 164 yX7_reckoned]
def wsX7_match_r4 : List Cond := [Cond.static yX7_reckoned, Cond.code yX7_reckoned cX7_reckoned 3 (some .int), Cond.methodLink RX7 192 yX7_areLike, Cond.instanceMethod yX7_areLike, Cond.selects RX7 yX7_areLike yX7_areLike, Cond.code yX7_areLike cX7_areLike 4 (some .boolean), Cond.methodLink RX7 186 yX7_isPair, Cond.instanceMethod yX7_isPair, Cond.selects RX7 yX7_isPair yX7_isPair, Cond.code yX7_isPair cX7_isPair 5 (some .boolean), Cond.fieldLink RX7 183 "EqualMethodsModel" "pairs" "I", Cond.fieldLink RX7 34 "EqualMethodsModel" "pairA" "[I", Cond.fieldLink RX7 37 "EqualMethodsModel" "pairB" "[I", Cond.methodLink RX7 189 yX7_areTellsLike, Cond.instanceMethod yX7_areTellsLike, Cond.selects RX7 yX7_areTellsLike yX7_areTellsLike, Cond.code yX7_areTellsLike cX7_areTellsLike 5 (some .boolean), Cond.methodLink RX7 179 yX7_next, Cond.instanceMethod yX7_next, Cond.selects RX7 yX7_next yX7_next, Cond.code yX7_next cX7_next 6 (some .int), Cond.fieldLink RX7 31 "EqualMethodsModel" "groups" "[I", Cond.methodLink RX7 175 yX7_portOf, Cond.instanceMethod yX7_portOf]
def wsX7_match_r5 : List Cond := [Cond.selects RX7 yX7_portOf yX7_portOf, Cond.code yX7_portOf cX7_portOf 3 (some .int), Cond.fieldLink RX7 28 "EqualMethodsModel" "stands" "[I"]
def wsX7_match : List Cond := .code yX7_match cX7_match 3 (some .int) :: ((wsX7_match_r1 ++ (wsX7_match_r2 ++ (wsX7_match_r3 ++ (wsX7_match_r4 ++ wsX7_match_r5)))) ++ wsX70)
def wsX7_renames : List Cond := .code yX7_renames cX7_renames 4 (some .boolean) :: ([.fieldLink RX7 28 "EqualMethodsModel" "stands" "[I"] ++ wsX70)
def wsX7_find_r1 : List Cond := [Cond.fieldLink RX7 98 "EqualMethodsModel" "kept" "[I", Cond.fieldLink RX7 28 "EqualMethodsModel" "stands" "[I", Cond.methodLink RX7 121 yX7_isMethod, Cond.instanceMethod yX7_isMethod, Cond.selects RX7 yX7_isMethod yX7_isMethod, Cond.initialized RX7, Cond.code yX7_isMethod cX7_isMethod 3 (some .boolean), Cond.fieldLink RX7 7 "EqualMethodsModel" "methods" "[I", Cond.methodLink RX7 110 yX7_in, Cond.static yX7_in, Cond.code yX7_in cX7_in 3 (some .boolean), Cond.methodLink RX7 206 yX7_renames, Cond.instanceMethod yX7_renames, Cond.selects RX7 yX7_renames yX7_renames, Cond.code yX7_renames cX7_renames 4 (some .boolean), Cond.methodLink RX7 202 yX7_held, Cond.instanceMethod yX7_held, Cond.selects RX7 yX7_held yX7_held, Cond.code yX7_held cX7_held 6 (some .int), Cond.fieldLink RX7 139 "EqualMethodsModel" "isWalk" "Z", Cond.fieldLink RX7 107 "EqualMethodsModel" "mask" "I", Cond.fieldLink RX7 52 "EqualMethodsModel" "end" "[I", Cond.fieldLink RX7 196 "EqualMethodsModel" "unlikeX" "I", Cond.fieldLink RX7 199 "EqualMethodsModel" "unlikeY" "I"]
def wsX7_find_r2 : List Cond := [Cond.methodLink RX7 171 yX7_play, Cond.instanceMethod yX7_play, Cond.selects RX7 yX7_play yX7_play, Cond.code yX7_play cX7_play 9 none, Cond.fieldLink RX7 132 "EqualMethodsModel" "slot" "I", Cond.fieldLink RX7 129 "EqualMethodsModel" "frames" "I", Cond.fieldLink RX7 55 "EqualMethodsModel" "kind" "[I", Cond.fieldLink RX7 58 "EqualMethodsModel" "number" "[I", Cond.fieldLink RX7 61 "EqualMethodsModel" "begun" "[I", Cond.fieldLink RX7 64 "EqualMethodsModel" "deepest" "[I", Cond.fieldLink RX7 67 "EqualMethodsModel" "tells" "[I", Cond.fieldLink RX7 79 "EqualMethodsModel" "callings" "[I", Cond.fieldLink RX7 40 "EqualMethodsModel" "frameMethod" "[I", Cond.fieldLink RX7 43 "EqualMethodsModel" "frameLine" "[I", Cond.fieldLink RX7 13 "EqualMethodsModel" "sizes" "[I", Cond.methodLink RX7 143 yX7_enter, Cond.instanceMethod yX7_enter, Cond.selects RX7 yX7_enter yX7_enter, Cond.code yX7_enter cX7_enter 6 none, Cond.fieldLink RX7 46 "EqualMethodsModel" "frameTarget" "[I", Cond.fieldLink RX7 49 "EqualMethodsModel" "registers" "[I", Cond.methodLink RX7 160 yX7_returns, Cond.instanceMethod yX7_returns, Cond.selects RX7 yX7_returns yX7_returns]
def wsX7_find_r3 : List Cond := [Cond.code yX7_returns cX7_returns 2 none, Cond.methodLink RX7 168 yX7_act, Cond.instanceMethod yX7_act, Cond.selects RX7 yX7_act yX7_act, Cond.code yX7_act cX7_act 10 none, Cond.fieldLink RX7 16 "EqualMethodsModel" "ops" "[I", Cond.fieldLink RX7 19 "EqualMethodsModel" "as" "[I", Cond.fieldLink RX7 22 "EqualMethodsModel" "bs" "[I", Cond.fieldLink RX7 25 "EqualMethodsModel" "cs" "[I", Cond.methodLink RX7 153 yX7_tell, Cond.instanceMethod yX7_tell, Cond.selects RX7 yX7_tell yX7_tell, Cond.code yX7_tell cX7_tell 4 none, Cond.fieldLink RX7 70 "EqualMethodsModel" "tellPort" "[I", Cond.fieldLink RX7 73 "EqualMethodsModel" "tellNumber" "[I", Cond.fieldLink RX7 76 "EqualMethodsModel" "tellPart" "[I", Cond.methodLink RX7 156 yX7_calls, Cond.instanceMethod yX7_calls, Cond.selects RX7 yX7_calls yX7_calls, Cond.code yX7_calls cX7_calls 9 none, Cond.fieldLink RX7 82 "EqualMethodsModel" "calledMethod" "[I", Cond.fieldLink RX7 85 "EqualMethodsModel" "calledX" "[I", Cond.fieldLink RX7 88 "EqualMethodsModel" "calledY" "[I", Cond.fieldLink RX7 147 "EqualMethodsModel" "answer0" "I"]
def wsX7_find_r4 : List Cond := [Cond.fieldLink RX7 150 "EqualMethodsModel" "answer1" "I", Cond.methodLink RX7 135 yX7_throwsOut, Cond.instanceMethod yX7_throwsOut, Cond.selects RX7 yX7_throwsOut yX7_throwsOut, Cond.code yX7_throwsOut cX7_throwsOut 3 none, Cond.methodLink RX7 164 yX7_reckoned, Cond.static yX7_reckoned, Cond.code yX7_reckoned cX7_reckoned 3 (some .int), Cond.methodLink RX7 192 yX7_areLike, Cond.instanceMethod yX7_areLike, Cond.selects RX7 yX7_areLike yX7_areLike, Cond.code yX7_areLike cX7_areLike 4 (some .boolean), Cond.methodLink RX7 186 yX7_isPair, Cond.instanceMethod yX7_isPair, Cond.selects RX7 yX7_isPair yX7_isPair, Cond.code yX7_isPair cX7_isPair 5 (some .boolean), Cond.fieldLink RX7 183 "EqualMethodsModel" "pairs" "I", Cond.fieldLink RX7 34 "EqualMethodsModel" "pairA" "[I", Cond.fieldLink RX7 37 "EqualMethodsModel" "pairB" "[I", Cond.methodLink RX7 189 yX7_areTellsLike, Cond.instanceMethod yX7_areTellsLike, Cond.selects RX7 yX7_areTellsLike yX7_areTellsLike, Cond.code yX7_areTellsLike cX7_areTellsLike 5 (some .boolean), Cond.methodLink RX7 179 yX7_next]
def wsX7_find_r5 : List Cond := [Cond.instanceMethod yX7_next, Cond.selects RX7 yX7_next yX7_next, Cond.code yX7_next cX7_next 6 (some .int), Cond.fieldLink RX7 31 "EqualMethodsModel" "groups" "[I", Cond.methodLink RX7 175 yX7_portOf, Cond.instanceMethod yX7_portOf, Cond.selects RX7 yX7_portOf yX7_portOf, Cond.code yX7_portOf cX7_portOf 3 (some .int)]
def wsX7_find : List Cond := .code yX7_find cX7_find 5 (some .int) :: ((wsX7_find_r1 ++ (wsX7_find_r2 ++ (wsX7_find_r3 ++ (wsX7_find_r4 ++ wsX7_find_r5)))) ++ wsX70)
def wsX7_assume : List Cond := .code yX7_assume cX7_assume 3 (some .int) :: ([.fieldLink RX7 183 "EqualMethodsModel" "pairs" "I", .fieldLink RX7 34 "EqualMethodsModel" "pairA" "[I", .fieldLink RX7 37 "EqualMethodsModel" "pairB" "[I", .methodLink RX7 121 yX7_isMethod, .instanceMethod yX7_isMethod, .selects RX7 yX7_isMethod yX7_isMethod, .initialized RX7, .code yX7_isMethod cX7_isMethod 3 (some .boolean), .fieldLink RX7 7 "EqualMethodsModel" "methods" "[I", .methodLink RX7 110 yX7_in, .static yX7_in, .code yX7_in cX7_in 3 (some .boolean), .methodLink RX7 186 yX7_isPair, .instanceMethod yX7_isPair, .selects RX7 yX7_isPair yX7_isPair, .code yX7_isPair cX7_isPair 5 (some .boolean)] ++ wsX70)
def wsX7_drop : List Cond := .code yX7_drop cX7_drop 2 (some .int) :: ([.fieldLink RX7 183 "EqualMethodsModel" "pairs" "I"] ++ wsX70)
def wsX7_walks_r1 : List Cond := [Cond.fieldLink RX7 34 "EqualMethodsModel" "pairA" "[I", Cond.fieldLink RX7 37 "EqualMethodsModel" "pairB" "[I", Cond.fieldLink RX7 52 "EqualMethodsModel" "end" "[I", Cond.methodLink RX7 171 yX7_play, Cond.instanceMethod yX7_play, Cond.selects RX7 yX7_play yX7_play, Cond.initialized RX7, Cond.code yX7_play cX7_play 9 none, Cond.fieldLink RX7 132 "EqualMethodsModel" "slot" "I", Cond.fieldLink RX7 129 "EqualMethodsModel" "frames" "I", Cond.fieldLink RX7 55 "EqualMethodsModel" "kind" "[I", Cond.fieldLink RX7 58 "EqualMethodsModel" "number" "[I", Cond.fieldLink RX7 61 "EqualMethodsModel" "begun" "[I", Cond.fieldLink RX7 64 "EqualMethodsModel" "deepest" "[I", Cond.fieldLink RX7 67 "EqualMethodsModel" "tells" "[I", Cond.fieldLink RX7 79 "EqualMethodsModel" "callings" "[I", Cond.fieldLink RX7 40 "EqualMethodsModel" "frameMethod" "[I", Cond.fieldLink RX7 43 "EqualMethodsModel" "frameLine" "[I", Cond.fieldLink RX7 13 "EqualMethodsModel" "sizes" "[I", Cond.methodLink RX7 143 yX7_enter, Cond.instanceMethod yX7_enter, Cond.selects RX7 yX7_enter yX7_enter, Cond.code yX7_enter cX7_enter 6 none, Cond.fieldLink RX7 46 "EqualMethodsModel" "frameTarget" "[I"]
def wsX7_walks_r2 : List Cond := [Cond.fieldLink RX7 49 "EqualMethodsModel" "registers" "[I", Cond.methodLink RX7 160 yX7_returns, Cond.instanceMethod yX7_returns, Cond.selects RX7 yX7_returns yX7_returns, Cond.code yX7_returns cX7_returns 2 none, Cond.methodLink RX7 168 yX7_act, Cond.instanceMethod yX7_act, Cond.selects RX7 yX7_act yX7_act, Cond.code yX7_act cX7_act 10 none, Cond.fieldLink RX7 16 "EqualMethodsModel" "ops" "[I", Cond.fieldLink RX7 19 "EqualMethodsModel" "as" "[I", Cond.fieldLink RX7 22 "EqualMethodsModel" "bs" "[I", Cond.fieldLink RX7 25 "EqualMethodsModel" "cs" "[I", Cond.fieldLink RX7 107 "EqualMethodsModel" "mask" "I", Cond.methodLink RX7 153 yX7_tell, Cond.instanceMethod yX7_tell, Cond.selects RX7 yX7_tell yX7_tell, Cond.code yX7_tell cX7_tell 4 none, Cond.fieldLink RX7 70 "EqualMethodsModel" "tellPort" "[I", Cond.fieldLink RX7 73 "EqualMethodsModel" "tellNumber" "[I", Cond.fieldLink RX7 76 "EqualMethodsModel" "tellPart" "[I", Cond.methodLink RX7 156 yX7_calls, Cond.instanceMethod yX7_calls, Cond.selects RX7 yX7_calls yX7_calls]
def wsX7_walks_r3 : List Cond := [Cond.code yX7_calls cX7_calls 9 none, Cond.fieldLink RX7 7 "EqualMethodsModel" "methods" "[I", Cond.fieldLink RX7 139 "EqualMethodsModel" "isWalk" "Z", Cond.fieldLink RX7 82 "EqualMethodsModel" "calledMethod" "[I", Cond.fieldLink RX7 85 "EqualMethodsModel" "calledX" "[I", Cond.fieldLink RX7 88 "EqualMethodsModel" "calledY" "[I", Cond.fieldLink RX7 147 "EqualMethodsModel" "answer0" "I", Cond.fieldLink RX7 150 "EqualMethodsModel" "answer1" "I", Cond.methodLink RX7 135 yX7_throwsOut, Cond.instanceMethod yX7_throwsOut, Cond.selects RX7 yX7_throwsOut yX7_throwsOut, Cond.code yX7_throwsOut cX7_throwsOut 3 none, Cond.methodLink RX7 164 yX7_reckoned, Cond.static yX7_reckoned, Cond.code yX7_reckoned cX7_reckoned 3 (some .int), Cond.methodLink RX7 192 yX7_areLike, Cond.instanceMethod yX7_areLike, Cond.selects RX7 yX7_areLike yX7_areLike, Cond.code yX7_areLike cX7_areLike 4 (some .boolean), Cond.methodLink RX7 186 yX7_isPair, Cond.instanceMethod yX7_isPair, Cond.selects RX7 yX7_isPair yX7_isPair, Cond.code yX7_isPair cX7_isPair 5 (some .boolean), Cond.fieldLink RX7 183 "EqualMethodsModel" "pairs" "I"]
def wsX7_walks_r4 : List Cond := [Cond.methodLink RX7 189 yX7_areTellsLike, Cond.instanceMethod yX7_areTellsLike, Cond.selects RX7 yX7_areTellsLike yX7_areTellsLike, Cond.code yX7_areTellsLike cX7_areTellsLike 5 (some .boolean), Cond.methodLink RX7 179 yX7_next, Cond.instanceMethod yX7_next, Cond.selects RX7 yX7_next yX7_next, Cond.code yX7_next cX7_next 6 (some .int), Cond.fieldLink RX7 31 "EqualMethodsModel" "groups" "[I", Cond.methodLink RX7 175 yX7_portOf, Cond.instanceMethod yX7_portOf, Cond.selects RX7 yX7_portOf yX7_portOf, Cond.code yX7_portOf cX7_portOf 3 (some .int), Cond.fieldLink RX7 28 "EqualMethodsModel" "stands" "[I"]
def wsX7_walks : List Cond := .code yX7_walks cX7_walks 4 (some .int) :: ((wsX7_walks_r1 ++ (wsX7_walks_r2 ++ (wsX7_walks_r3 ++ wsX7_walks_r4))) ++ wsX70)
def wsX7_tells : List Cond := .code yX7_tells cX7_tells 4 none :: ([.fieldLink RX7 101 "EqualMethodsModel" "why" "[I", .fieldLink RX7 147 "EqualMethodsModel" "answer0" "I", .fieldLink RX7 150 "EqualMethodsModel" "answer1" "I", .fieldLink RX7 209 "EqualMethodsModel" "isWhy" "Z"] ++ wsX70)
def wsX7_proved_r1 : List Cond := [Cond.fieldLink RX7 107 "EqualMethodsModel" "mask" "I", Cond.fieldLink RX7 147 "EqualMethodsModel" "answer0" "I", Cond.fieldLink RX7 150 "EqualMethodsModel" "answer1" "I", Cond.methodLink RX7 212 yX7_walks, Cond.instanceMethod yX7_walks, Cond.selects RX7 yX7_walks yX7_walks, Cond.initialized RX7, Cond.code yX7_walks cX7_walks 4 (some .int), Cond.fieldLink RX7 34 "EqualMethodsModel" "pairA" "[I", Cond.fieldLink RX7 37 "EqualMethodsModel" "pairB" "[I", Cond.fieldLink RX7 52 "EqualMethodsModel" "end" "[I", Cond.methodLink RX7 171 yX7_play, Cond.instanceMethod yX7_play, Cond.selects RX7 yX7_play yX7_play, Cond.code yX7_play cX7_play 9 none, Cond.fieldLink RX7 132 "EqualMethodsModel" "slot" "I", Cond.fieldLink RX7 129 "EqualMethodsModel" "frames" "I", Cond.fieldLink RX7 55 "EqualMethodsModel" "kind" "[I", Cond.fieldLink RX7 58 "EqualMethodsModel" "number" "[I", Cond.fieldLink RX7 61 "EqualMethodsModel" "begun" "[I", Cond.fieldLink RX7 64 "EqualMethodsModel" "deepest" "[I", Cond.fieldLink RX7 67 "EqualMethodsModel" "tells" "[I", Cond.fieldLink RX7 79 "EqualMethodsModel" "callings" "[I", Cond.fieldLink RX7 40 "EqualMethodsModel" "frameMethod" "[I"]
def wsX7_proved_r2 : List Cond := [Cond.fieldLink RX7 43 "EqualMethodsModel" "frameLine" "[I", Cond.fieldLink RX7 13 "EqualMethodsModel" "sizes" "[I", Cond.methodLink RX7 143 yX7_enter, Cond.instanceMethod yX7_enter, Cond.selects RX7 yX7_enter yX7_enter, Cond.code yX7_enter cX7_enter 6 none, Cond.fieldLink RX7 46 "EqualMethodsModel" "frameTarget" "[I", Cond.fieldLink RX7 49 "EqualMethodsModel" "registers" "[I", Cond.methodLink RX7 160 yX7_returns, Cond.instanceMethod yX7_returns, Cond.selects RX7 yX7_returns yX7_returns, Cond.code yX7_returns cX7_returns 2 none, Cond.methodLink RX7 168 yX7_act, Cond.instanceMethod yX7_act, Cond.selects RX7 yX7_act yX7_act, Cond.code yX7_act cX7_act 10 none, Cond.fieldLink RX7 16 "EqualMethodsModel" "ops" "[I", Cond.fieldLink RX7 19 "EqualMethodsModel" "as" "[I", Cond.fieldLink RX7 22 "EqualMethodsModel" "bs" "[I", Cond.fieldLink RX7 25 "EqualMethodsModel" "cs" "[I", Cond.methodLink RX7 153 yX7_tell, Cond.instanceMethod yX7_tell, Cond.selects RX7 yX7_tell yX7_tell, Cond.code yX7_tell cX7_tell 4 none]
def wsX7_proved_r3 : List Cond := [Cond.fieldLink RX7 70 "EqualMethodsModel" "tellPort" "[I", Cond.fieldLink RX7 73 "EqualMethodsModel" "tellNumber" "[I", Cond.fieldLink RX7 76 "EqualMethodsModel" "tellPart" "[I", Cond.methodLink RX7 156 yX7_calls, Cond.instanceMethod yX7_calls, Cond.selects RX7 yX7_calls yX7_calls, Cond.code yX7_calls cX7_calls 9 none, Cond.fieldLink RX7 7 "EqualMethodsModel" "methods" "[I", Cond.fieldLink RX7 139 "EqualMethodsModel" "isWalk" "Z", Cond.fieldLink RX7 82 "EqualMethodsModel" "calledMethod" "[I", Cond.fieldLink RX7 85 "EqualMethodsModel" "calledX" "[I", Cond.fieldLink RX7 88 "EqualMethodsModel" "calledY" "[I", Cond.methodLink RX7 135 yX7_throwsOut, Cond.instanceMethod yX7_throwsOut, Cond.selects RX7 yX7_throwsOut yX7_throwsOut, Cond.code yX7_throwsOut cX7_throwsOut 3 none, Cond.methodLink RX7 164 yX7_reckoned, Cond.static yX7_reckoned, Cond.code yX7_reckoned cX7_reckoned 3 (some .int), Cond.methodLink RX7 192 yX7_areLike, Cond.instanceMethod yX7_areLike, Cond.selects RX7 yX7_areLike yX7_areLike, Cond.code yX7_areLike cX7_areLike 4 (some .boolean), Cond.methodLink RX7 186 yX7_isPair]
def wsX7_proved_r4 : List Cond := [Cond.instanceMethod yX7_isPair, Cond.selects RX7 yX7_isPair yX7_isPair, Cond.code yX7_isPair cX7_isPair 5 (some .boolean), Cond.fieldLink RX7 183 "EqualMethodsModel" "pairs" "I", Cond.methodLink RX7 189 yX7_areTellsLike, Cond.instanceMethod yX7_areTellsLike, Cond.selects RX7 yX7_areTellsLike yX7_areTellsLike, Cond.code yX7_areTellsLike cX7_areTellsLike 5 (some .boolean), Cond.methodLink RX7 179 yX7_next, Cond.instanceMethod yX7_next, Cond.selects RX7 yX7_next yX7_next, Cond.code yX7_next cX7_next 6 (some .int), Cond.fieldLink RX7 31 "EqualMethodsModel" "groups" "[I", Cond.methodLink RX7 175 yX7_portOf, Cond.instanceMethod yX7_portOf, Cond.selects RX7 yX7_portOf yX7_portOf, Cond.code yX7_portOf cX7_portOf 3 (some .int), Cond.fieldLink RX7 28 "EqualMethodsModel" "stands" "[I", Cond.methodLink RX7 215 yX7_tells, Cond.instanceMethod yX7_tells, Cond.selects RX7 yX7_tells yX7_tells, Cond.code yX7_tells cX7_tells 4 none, Cond.fieldLink RX7 101 "EqualMethodsModel" "why" "[I", Cond.fieldLink RX7 209 "EqualMethodsModel" "isWhy" "Z"]
def wsX7_proved : List Cond := .code yX7_proved cX7_proved 7 (some .int) :: ((wsX7_proved_r1 ++ (wsX7_proved_r2 ++ (wsX7_proved_r3 ++ wsX7_proved_r4))) ++ wsX70)
def wsX7_prove_r1 : List Cond := [Cond.fieldLink RX7 209 "EqualMethodsModel" "isWhy" "Z", Cond.fieldLink RX7 183 "EqualMethodsModel" "pairs" "I", Cond.fieldLink RX7 139 "EqualMethodsModel" "isWalk" "Z", Cond.methodLink RX7 217 yX7_proved, Cond.instanceMethod yX7_proved, Cond.selects RX7 yX7_proved yX7_proved, Cond.initialized RX7, Cond.code yX7_proved cX7_proved 7 (some .int), Cond.fieldLink RX7 107 "EqualMethodsModel" "mask" "I", Cond.fieldLink RX7 147 "EqualMethodsModel" "answer0" "I", Cond.fieldLink RX7 150 "EqualMethodsModel" "answer1" "I", Cond.methodLink RX7 212 yX7_walks, Cond.instanceMethod yX7_walks, Cond.selects RX7 yX7_walks yX7_walks, Cond.code yX7_walks cX7_walks 4 (some .int), Cond.fieldLink RX7 34 "EqualMethodsModel" "pairA" "[I", Cond.fieldLink RX7 37 "EqualMethodsModel" "pairB" "[I", Cond.fieldLink RX7 52 "EqualMethodsModel" "end" "[I", Cond.methodLink RX7 171 yX7_play, Cond.instanceMethod yX7_play, Cond.selects RX7 yX7_play yX7_play, Cond.code yX7_play cX7_play 9 none, Cond.fieldLink RX7 132 "EqualMethodsModel" "slot" "I", Cond.fieldLink RX7 129 "EqualMethodsModel" "frames" "I"]
def wsX7_prove_r2 : List Cond := [Cond.fieldLink RX7 55 "EqualMethodsModel" "kind" "[I", Cond.fieldLink RX7 58 "EqualMethodsModel" "number" "[I", Cond.fieldLink RX7 61 "EqualMethodsModel" "begun" "[I", Cond.fieldLink RX7 64 "EqualMethodsModel" "deepest" "[I", Cond.fieldLink RX7 67 "EqualMethodsModel" "tells" "[I", Cond.fieldLink RX7 79 "EqualMethodsModel" "callings" "[I", Cond.fieldLink RX7 40 "EqualMethodsModel" "frameMethod" "[I", Cond.fieldLink RX7 43 "EqualMethodsModel" "frameLine" "[I", Cond.fieldLink RX7 13 "EqualMethodsModel" "sizes" "[I", Cond.methodLink RX7 143 yX7_enter, Cond.instanceMethod yX7_enter, Cond.selects RX7 yX7_enter yX7_enter, Cond.code yX7_enter cX7_enter 6 none, Cond.fieldLink RX7 46 "EqualMethodsModel" "frameTarget" "[I", Cond.fieldLink RX7 49 "EqualMethodsModel" "registers" "[I", Cond.methodLink RX7 160 yX7_returns, Cond.instanceMethod yX7_returns, Cond.selects RX7 yX7_returns yX7_returns, Cond.code yX7_returns cX7_returns 2 none, Cond.methodLink RX7 168 yX7_act, Cond.instanceMethod yX7_act, Cond.selects RX7 yX7_act yX7_act, Cond.code yX7_act cX7_act 10 none, Cond.fieldLink RX7 16 "EqualMethodsModel" "ops" "[I"]
def wsX7_prove_r3 : List Cond := [Cond.fieldLink RX7 19 "EqualMethodsModel" "as" "[I", Cond.fieldLink RX7 22 "EqualMethodsModel" "bs" "[I", Cond.fieldLink RX7 25 "EqualMethodsModel" "cs" "[I", Cond.methodLink RX7 153 yX7_tell, Cond.instanceMethod yX7_tell, Cond.selects RX7 yX7_tell yX7_tell, Cond.code yX7_tell cX7_tell 4 none, Cond.fieldLink RX7 70 "EqualMethodsModel" "tellPort" "[I", Cond.fieldLink RX7 73 "EqualMethodsModel" "tellNumber" "[I", Cond.fieldLink RX7 76 "EqualMethodsModel" "tellPart" "[I", Cond.methodLink RX7 156 yX7_calls, Cond.instanceMethod yX7_calls, Cond.selects RX7 yX7_calls yX7_calls, Cond.code yX7_calls cX7_calls 9 none, Cond.fieldLink RX7 7 "EqualMethodsModel" "methods" "[I", Cond.fieldLink RX7 82 "EqualMethodsModel" "calledMethod" "[I", Cond.fieldLink RX7 85 "EqualMethodsModel" "calledX" "[I", Cond.fieldLink RX7 88 "EqualMethodsModel" "calledY" "[I", Cond.methodLink RX7 135 yX7_throwsOut, Cond.instanceMethod yX7_throwsOut, Cond.selects RX7 yX7_throwsOut yX7_throwsOut, Cond.code yX7_throwsOut cX7_throwsOut 3 none, Cond.methodLink RX7 164 yX7_reckoned, Cond.static yX7_reckoned]
def wsX7_prove_r4 : List Cond := [Cond.code yX7_reckoned cX7_reckoned 3 (some .int), Cond.methodLink RX7 192 yX7_areLike, Cond.instanceMethod yX7_areLike, Cond.selects RX7 yX7_areLike yX7_areLike, Cond.code yX7_areLike cX7_areLike 4 (some .boolean), Cond.methodLink RX7 186 yX7_isPair, Cond.instanceMethod yX7_isPair, Cond.selects RX7 yX7_isPair yX7_isPair, Cond.code yX7_isPair cX7_isPair 5 (some .boolean), Cond.methodLink RX7 189 yX7_areTellsLike, Cond.instanceMethod yX7_areTellsLike, Cond.selects RX7 yX7_areTellsLike yX7_areTellsLike, Cond.code yX7_areTellsLike cX7_areTellsLike 5 (some .boolean), Cond.methodLink RX7 179 yX7_next, Cond.instanceMethod yX7_next, Cond.selects RX7 yX7_next yX7_next, Cond.code yX7_next cX7_next 6 (some .int), Cond.fieldLink RX7 31 "EqualMethodsModel" "groups" "[I", Cond.methodLink RX7 175 yX7_portOf, Cond.instanceMethod yX7_portOf, Cond.selects RX7 yX7_portOf yX7_portOf, Cond.code yX7_portOf cX7_portOf 3 (some .int), Cond.fieldLink RX7 28 "EqualMethodsModel" "stands" "[I", Cond.methodLink RX7 215 yX7_tells]
def wsX7_prove_r5 : List Cond := [Cond.instanceMethod yX7_tells, Cond.selects RX7 yX7_tells yX7_tells, Cond.code yX7_tells cX7_tells 4 none, Cond.fieldLink RX7 101 "EqualMethodsModel" "why" "[I"]
def wsX7_prove : List Cond := .code yX7_prove cX7_prove 3 (some .int) :: ((wsX7_prove_r1 ++ (wsX7_prove_r2 ++ (wsX7_prove_r3 ++ (wsX7_prove_r4 ++ wsX7_prove_r5)))) ++ wsX70)
def wsX7_why : List Cond := .code yX7_why cX7_why 2 (some .int) :: ([.fieldLink RX7 209 "EqualMethodsModel" "isWhy" "Z", .fieldLink RX7 101 "EqualMethodsModel" "why" "[I", .methodLink RX7 110 yX7_in, .static yX7_in, .initialized RX7, .code yX7_in cX7_in 3 (some .boolean)] ++ wsX70)
def wsX7_count : List Cond := .code yX7_count cX7_count 2 (some .int) :: ([.fieldLink RX7 28 "EqualMethodsModel" "stands" "[I", .fieldLink RX7 31 "EqualMethodsModel" "groups" "[I", .fieldLink RX7 7 "EqualMethodsModel" "methods" "[I", .fieldLink RX7 183 "EqualMethodsModel" "pairs" "I", .fieldLink RX7 104 "EqualMethodsModel" "bits" "I", .methodLink RX7 110 yX7_in, .static yX7_in, .initialized RX7, .code yX7_in cX7_in 3 (some .boolean)] ++ wsX70)
def wsJ9_max_7cf53 : List Cond := .code yJ9_max_7cf53 cJ9_max_7cf53 2 (some .int) :: ([])
def wsL_cell : List Cond := .code yL_cell cL_cell 2 (some .int) :: ([])
def wsL_law_r1 : List Cond := [Cond.classLink RL 7 RX6, Cond.instantiable RX6 17, Cond.initialized RX6, Cond.classLink RL 18 RX7, Cond.instantiable RX7 42, Cond.initialized RX7, Cond.methodLink RL 9 yL_cell, Cond.static yL_cell, Cond.initialized RL, Cond.code yL_cell cL_cell 2 (some .int), Cond.methodLink RL 15 yX6_init, Cond.instanceMethod yX6_init, Cond.code yX6_init cX6_init 2 none, Cond.methodLink RX6 1 objectInit, Cond.instanceMethod objectInit, Cond.code objectInit ⟨#[0xb1]⟩ 1 none, Cond.classLink RX6 7 RX0, Cond.instantiable RX0 6, Cond.initialized RX0, Cond.fieldLink RX6 10 "EqualMethods" "build0" "LEqualMethods$Build;", Cond.fieldLink RX6 16 "EqualMethods" "build1" "LEqualMethods$Build;", Cond.classLink RX6 19 RX3, Cond.instantiable RX3 3, Cond.initialized RX3]
def wsL_law_r2 : List Cond := [Cond.fieldLink RX6 22 "EqualMethods" "ports" "LEqualMethods$Ports;", Cond.fieldLink RX6 26 "EqualMethods" "tried" "LEqualMethods$Ports;", Cond.classLink RX6 29 RX2, Cond.instantiable RX2 3, Cond.initialized RX2, Cond.fieldLink RX6 32 "EqualMethods" "pairs" "LEqualMethods$Pairs;", Cond.classLink RX6 36 RX4, Cond.instantiable RX4 2, Cond.initialized RX4, Cond.fieldLink RX6 39 "EqualMethods" "proof" "LEqualMethods$Proof;", Cond.fieldLink RX6 43 "EqualMethods" "unlikeX" "I", Cond.fieldLink RX6 47 "EqualMethods" "unlikeY" "I", Cond.fieldLink RX6 50 "EqualMethods" "firstX" "I", Cond.fieldLink RX6 53 "EqualMethods" "firstY" "I", Cond.fieldLink RX6 56 "EqualMethods" "bits" "I", Cond.fieldLink RX6 59 "EqualMethods" "mask" "I", Cond.classLink RX6 62 RX1, Cond.instantiable RX1 9, Cond.initialized RX1, Cond.fieldLink RX6 67 "EqualMethods" "shown" "LEqualMethods$Machine;", Cond.fieldLink RX6 71 "EqualMethods" "run0" "LEqualMethods$Machine;", Cond.fieldLink RX6 74 "EqualMethods" "run1" "LEqualMethods$Machine;", Cond.fieldLink RX6 77 "EqualMethods" "walk0" "LEqualMethods$Machine;", Cond.fieldLink RX6 80 "EqualMethods" "walk1" "LEqualMethods$Machine;"]
def wsL_law_r3 : List Cond := [Cond.instanceMethod yX0_init, Cond.code yX0_init cX0_init 1 none, Cond.methodLink RX0 3 objectInit, Cond.fieldLink RX0 9 "EqualMethods$Build" "methods" "I", Cond.arrayClass .int, Cond.fieldLink RX0 15 "EqualMethods$Build" "sizes" "[I", Cond.fieldLink RX0 19 "EqualMethods$Build" "ops" "[I", Cond.fieldLink RX0 22 "EqualMethods$Build" "as" "[I", Cond.fieldLink RX0 25 "EqualMethods$Build" "bs" "[I", Cond.fieldLink RX0 28 "EqualMethods$Build" "cs" "[I", Cond.instanceMethod yX3_init, Cond.code yX3_init cX3_init 1 none, Cond.methodLink RX3 3 objectInit, Cond.fieldLink RX3 9 "EqualMethods$Ports" "standsFor" "[I", Cond.fieldLink RX3 15 "EqualMethods$Ports" "groups" "[I", Cond.fieldLink RX3 18 "EqualMethods$Ports" "standsIn" "[I", Cond.instanceMethod yX2_init, Cond.code yX2_init cX2_init 1 none, Cond.methodLink RX2 3 objectInit, Cond.fieldLink RX2 9 "EqualMethods$Pairs" "size" "I", Cond.fieldLink RX2 15 "EqualMethods$Pairs" "as" "[I", Cond.fieldLink RX2 19 "EqualMethods$Pairs" "bs" "[I", Cond.instanceMethod yX4_init, Cond.code yX4_init cX4_init 1 none]
def wsL_law_r4 : List Cond := [Cond.methodLink RX4 3 objectInit, Cond.fieldLink RX4 9 "EqualMethods$Proof" "answer" "I", Cond.fieldLink RX4 15 "EqualMethods$Proof" "place" "[I", Cond.methodLink RX6 64 yX1_init, Cond.instanceMethod yX1_init, Cond.code yX1_init cX1_init 4 none, Cond.methodLink RX1 3 objectInit, Cond.classLink RX1 9 RX5, Cond.instantiable RX5 13, Cond.initialized RX5, Cond.fieldLink RX1 12 "EqualMethods$Machine" "trace" "LEqualMethods$Trace;", Cond.fieldLink RX1 18 "EqualMethods$Machine" "registers" "[I", Cond.fieldLink RX1 22 "EqualMethods$Machine" "lines" "[I", Cond.fieldLink RX1 25 "EqualMethods$Machine" "methods" "[I", Cond.fieldLink RX1 28 "EqualMethods$Machine" "answers" "[I", Cond.fieldLink RX1 31 "EqualMethods$Machine" "underWay" "I", Cond.fieldLink RX1 35 "EqualMethods$Machine" "build" "LEqualMethods$Build;", Cond.fieldLink RX1 39 "EqualMethods$Machine" "mask" "I", Cond.fieldLink RX1 42 "EqualMethods$Machine" "walking" "Z", Cond.instanceMethod yX5_init, Cond.code yX5_init cX5_init 1 none, Cond.methodLink RX5 3 objectInit, Cond.fieldLink RX5 9 "EqualMethods$Trace" "end" "I", Cond.fieldLink RX5 15 "EqualMethods$Trace" "kind" "I"]
def wsL_law_r5 : List Cond := [Cond.fieldLink RX5 18 "EqualMethods$Trace" "number" "I", Cond.fieldLink RX5 21 "EqualMethods$Trace" "ops" "I", Cond.fieldLink RX5 24 "EqualMethods$Trace" "deepest" "I", Cond.fieldLink RX5 27 "EqualMethods$Trace" "tells" "I", Cond.fieldLink RX5 30 "EqualMethods$Trace" "tellPorts" "[I", Cond.fieldLink RX5 34 "EqualMethods$Trace" "tellNumbers" "[I", Cond.fieldLink RX5 37 "EqualMethods$Trace" "callings" "I", Cond.fieldLink RX5 40 "EqualMethods$Trace" "called" "[I", Cond.fieldLink RX5 43 "EqualMethods$Trace" "calledX" "[I", Cond.fieldLink RX5 46 "EqualMethods$Trace" "calledY" "[I", Cond.fieldLink RX5 49 "EqualMethods$Trace" "tellsAhead" "[I", Cond.methodLink RL 20 yX7_init, Cond.instanceMethod yX7_init, Cond.code yX7_init cX7_init 3 none, Cond.methodLink RX7 1 objectInit, Cond.fieldLink RX7 7 "EqualMethodsModel" "methods" "[I", Cond.fieldLink RX7 13 "EqualMethodsModel" "sizes" "[I", Cond.fieldLink RX7 16 "EqualMethodsModel" "ops" "[I", Cond.fieldLink RX7 19 "EqualMethodsModel" "as" "[I", Cond.fieldLink RX7 22 "EqualMethodsModel" "bs" "[I", Cond.fieldLink RX7 25 "EqualMethodsModel" "cs" "[I", Cond.fieldLink RX7 28 "EqualMethodsModel" "stands" "[I", Cond.fieldLink RX7 31 "EqualMethodsModel" "groups" "[I", Cond.fieldLink RX7 34 "EqualMethodsModel" "pairA" "[I"]
def wsL_law_r6 : List Cond := [Cond.fieldLink RX7 37 "EqualMethodsModel" "pairB" "[I", Cond.fieldLink RX7 40 "EqualMethodsModel" "frameMethod" "[I", Cond.fieldLink RX7 43 "EqualMethodsModel" "frameLine" "[I", Cond.fieldLink RX7 46 "EqualMethodsModel" "frameTarget" "[I", Cond.fieldLink RX7 49 "EqualMethodsModel" "registers" "[I", Cond.fieldLink RX7 52 "EqualMethodsModel" "end" "[I", Cond.fieldLink RX7 55 "EqualMethodsModel" "kind" "[I", Cond.fieldLink RX7 58 "EqualMethodsModel" "number" "[I", Cond.fieldLink RX7 61 "EqualMethodsModel" "begun" "[I", Cond.fieldLink RX7 64 "EqualMethodsModel" "deepest" "[I", Cond.fieldLink RX7 67 "EqualMethodsModel" "tells" "[I", Cond.fieldLink RX7 70 "EqualMethodsModel" "tellPort" "[I", Cond.fieldLink RX7 73 "EqualMethodsModel" "tellNumber" "[I", Cond.fieldLink RX7 76 "EqualMethodsModel" "tellPart" "[I", Cond.fieldLink RX7 79 "EqualMethodsModel" "callings" "[I", Cond.fieldLink RX7 82 "EqualMethodsModel" "calledMethod" "[I", Cond.fieldLink RX7 85 "EqualMethodsModel" "calledX" "[I", Cond.fieldLink RX7 88 "EqualMethodsModel" "calledY" "[I", Cond.fieldLink RX7 91 "EqualMethodsModel" "firstX" "I", Cond.fieldLink RX7 95 "EqualMethodsModel" "firstY" "I", Cond.fieldLink RX7 98 "EqualMethodsModel" "kept" "[I", Cond.fieldLink RX7 101 "EqualMethodsModel" "why" "[I", Cond.fieldLink RX7 104 "EqualMethodsModel" "bits" "I", Cond.fieldLink RX7 107 "EqualMethodsModel" "mask" "I"]
def wsL_law_r7 : List Cond := [Cond.methodLink RL 21 yX6_method, Cond.instanceMethod yX6_method, Cond.selects RX6 yX6_method yX6_method, Cond.code yX6_method cX6_method 3 (some .int), Cond.fieldLink RX6 91 "EqualMethods$Build" "methods" "I", Cond.methodLink RX6 83 yX6_within, Cond.static yX6_within, Cond.code yX6_within cX6_within 3 (some .boolean), Cond.methodLink RX6 87 yX6_buildOf, Cond.instanceMethod yX6_buildOf, Cond.selects RX6 yX6_buildOf yX6_buildOf, Cond.code yX6_buildOf cX6_buildOf 2 (some (.object "EqualMethods$Build")), Cond.methodLink RX6 94 yX0_addMethod, Cond.instanceMethod yX0_addMethod, Cond.selects RX0 yX0_addMethod yX0_addMethod, Cond.code yX0_addMethod cX0_addMethod 1 (some .int), Cond.methodLink RL 25 yX7_method, Cond.instanceMethod yX7_method, Cond.selects RX7 yX7_method yX7_method, Cond.code yX7_method cX7_method 3 (some .int), Cond.methodLink RX7 110 yX7_in, Cond.static yX7_in, Cond.code yX7_in cX7_in 3 (some .boolean), Cond.methodLink RL 26 yX6_op]
def wsL_law_r8 : List Cond := [Cond.instanceMethod yX6_op, Cond.selects RX6 yX6_op yX6_op, Cond.code yX6_op cX6_op 8 (some .int), Cond.fieldLink RX6 105 "EqualMethods$Build" "sizes" "[I", Cond.methodLink RX6 98 yX6_isMethod, Cond.instanceMethod yX6_isMethod, Cond.selects RX6 yX6_isMethod yX6_isMethod, Cond.code yX6_isMethod cX6_isMethod 3 (some .boolean), Cond.methodLink RX6 168 yX0_has, Cond.instanceMethod yX0_has, Cond.selects RX0 yX0_has yX0_has, Cond.code yX0_has cX0_has 2 (some .boolean), Cond.methodLink RX6 102 yX6_fits, Cond.instanceMethod yX6_fits, Cond.selects RX6 yX6_fits yX6_fits, Cond.code yX6_fits cX6_fits 4 (some .boolean), Cond.fieldLink RX6 217 "EqualMethods" "OPERANDS" "[I", Cond.methodLink RX6 109 yX0_addOp, Cond.instanceMethod yX0_addOp, Cond.selects RX0 yX0_addOp yX0_addOp, Cond.code yX0_addOp cX0_addOp 7 (some .int), Cond.methodLink RX0 31 yX0_placeOf, Cond.instanceMethod yX0_placeOf, Cond.selects RX0 yX0_placeOf yX0_placeOf]
def wsL_law_r9 : List Cond := [Cond.code yX0_placeOf cX0_placeOf 3 (some .int), Cond.methodLink RL 30 yX7_op, Cond.instanceMethod yX7_op, Cond.selects RX7 yX7_op yX7_op, Cond.code yX7_op cX7_op 9 (some .int), Cond.methodLink RX7 121 yX7_isMethod, Cond.instanceMethod yX7_isMethod, Cond.selects RX7 yX7_isMethod yX7_isMethod, Cond.code yX7_isMethod cX7_isMethod 3 (some .boolean), Cond.methodLink RX7 125 yX7_isRight, Cond.instanceMethod yX7_isRight, Cond.selects RX7 yX7_isRight yX7_isRight, Cond.code yX7_isRight cX7_isRight 5 (some .boolean), Cond.methodLink RX7 114 yX7_isRegister, Cond.static yX7_isRegister, Cond.code yX7_isRegister cX7_isRegister 1 (some .boolean), Cond.methodLink RX7 118 yX7_isNumber, Cond.instanceMethod yX7_isNumber, Cond.selects RX7 yX7_isNumber yX7_isNumber, Cond.code yX7_isNumber cX7_isNumber 2 (some .boolean), Cond.methodLink RL 31 yX6_clear, Cond.instanceMethod yX6_clear, Cond.selects RX6 yX6_clear yX6_clear, Cond.code yX6_clear cX6_clear 3 (some .int)]
def wsL_law_r10 : List Cond := [Cond.methodLink RX6 113 yX0_removeOps, Cond.instanceMethod yX0_removeOps, Cond.selects RX0 yX0_removeOps yX0_removeOps, Cond.code yX0_removeOps cX0_removeOps 3 (some .int), Cond.methodLink RL 35 yX7_clear, Cond.instanceMethod yX7_clear, Cond.selects RX7 yX7_clear yX7_clear, Cond.code yX7_clear cX7_clear 4 (some .int), Cond.methodLink RL 36 yX6_run, Cond.instanceMethod yX6_run, Cond.selects RX6 yX6_run yX6_run, Cond.code yX6_run cX6_run 5 (some .int), Cond.fieldLink RX6 125 "EqualMethods$Machine" "trace" "LEqualMethods$Trace;", Cond.fieldLink RX6 129 "EqualMethods$Trace" "end" "I", Cond.methodLink RX6 117 yX1_turnTo, Cond.instanceMethod yX1_turnTo, Cond.selects RX1 yX1_turnTo yX1_turnTo, Cond.code yX1_turnTo cX1_turnTo 2 none, Cond.methodLink RX6 121 yX1_go, Cond.instanceMethod yX1_go, Cond.selects RX1 yX1_go yX1_go, Cond.code yX1_go cX1_go 5 none, Cond.fieldLink RX1 53 "EqualMethods$Build" "sizes" "[I", Cond.fieldLink RX1 62 "EqualMethods$Build" "ops" "[I"]
def wsL_law_r11 : List Cond := [Cond.methodLink RX1 46 yX5_forget, Cond.instanceMethod yX5_forget, Cond.selects RX5 yX5_forget yX5_forget, Cond.code yX5_forget cX5_forget 1 none, Cond.methodLink RX5 52 yX5_finish, Cond.instanceMethod yX5_finish, Cond.selects RX5 yX5_finish yX5_finish, Cond.code yX5_finish cX5_finish 4 none, Cond.methodLink RX1 49 yX1_enter, Cond.instanceMethod yX1_enter, Cond.selects RX1 yX1_enter yX1_enter, Cond.code yX1_enter cX1_enter 6 none, Cond.fieldLink RX1 131 "EqualMethods$Trace" "deepest" "I", Cond.methodLink RX1 58 yX1_giveBack, Cond.instanceMethod yX1_giveBack, Cond.selects RX1 yX1_giveBack yX1_giveBack, Cond.code yX1_giveBack cX1_giveBack 2 none, Cond.fieldLink RX1 88 "EqualMethods$Build" "as" "[I", Cond.methodLink RX1 134 yX5_finish, Cond.methodLink RX1 65 yX1_placeOfTop, Cond.instanceMethod yX1_placeOfTop, Cond.selects RX1 yX1_placeOfTop yX1_placeOfTop, Cond.code yX1_placeOfTop cX1_placeOfTop 1 (some .int), Cond.methodLink RX1 79 yX0_placeOf]
def wsL_law_r12 : List Cond := [Cond.methodLink RX1 97 yX1_put, Cond.instanceMethod yX1_put, Cond.selects RX1 yX1_put yX1_put, Cond.code yX1_put cX1_put 3 none, Cond.methodLink RX1 69 yX1_isSpentBy, Cond.instanceMethod yX1_isSpentBy, Cond.selects RX1 yX1_isSpentBy yX1_isSpentBy, Cond.code yX1_isSpentBy cX1_isSpentBy 2 (some .boolean), Cond.fieldLink RX1 83 "EqualMethods$Trace" "ops" "I", Cond.fieldLink RX1 85 "EqualMethods$Trace" "tells" "I", Cond.methodLink RX1 73 yX1_stop, Cond.instanceMethod yX1_stop, Cond.selects RX1 yX1_stop yX1_stop, Cond.code yX1_stop cX1_stop 4 none, Cond.methodLink RX1 76 yX1_perform, Cond.instanceMethod yX1_perform, Cond.selects RX1 yX1_perform yX1_perform, Cond.code yX1_perform cX1_perform 5 none, Cond.fieldLink RX1 91 "EqualMethods$Build" "bs" "[I", Cond.fieldLink RX1 94 "EqualMethods$Build" "cs" "[I", Cond.methodLink RX1 101 yX1_get, Cond.instanceMethod yX1_get, Cond.selects RX1 yX1_get yX1_get, Cond.code yX1_get cX1_get 2 (some .int)]
def wsL_law_r13 : List Cond := [Cond.methodLink RX1 105 yX5_addTell, Cond.instanceMethod yX5_addTell, Cond.selects RX5 yX5_addTell yX5_addTell, Cond.code yX5_addTell cX5_addTell 3 none, Cond.methodLink RX1 108 yX1_ask, Cond.instanceMethod yX1_ask, Cond.selects RX1 yX1_ask yX1_ask, Cond.code yX1_ask cX1_ask 5 none, Cond.methodLink RX1 119 yX0_has, Cond.methodLink RX1 122 yX1_answer, Cond.instanceMethod yX1_answer, Cond.selects RX1 yX1_answer yX1_answer, Cond.code yX1_answer cX1_answer 6 none, Cond.fieldLink RX1 125 "EqualMethods$Trace" "callings" "I", Cond.methodLink RX1 128 yX5_addCalling, Cond.instanceMethod yX5_addCalling, Cond.selects RX5 yX5_addCalling yX5_addCalling, Cond.code yX5_addCalling cX5_addCalling 4 none, Cond.methodLink RX1 112 yX1_calculate, Cond.instanceMethod yX1_calculate, Cond.selects RX1 yX1_calculate yX1_calculate, Cond.code yX1_calculate cX1_calculate 5 none, Cond.methodLink RX1 115 yX1_result, Cond.static yX1_result]
def wsL_law_r14 : List Cond := [Cond.code yX1_result cX1_result 3 (some .int), Cond.methodLink RL 40 yX7_run, Cond.instanceMethod yX7_run, Cond.selects RX7 yX7_run yX7_run, Cond.code yX7_run cX7_run 5 (some .int), Cond.fieldLink RX7 139 "EqualMethodsModel" "isWalk" "Z", Cond.methodLink RX7 171 yX7_play, Cond.instanceMethod yX7_play, Cond.selects RX7 yX7_play yX7_play, Cond.code yX7_play cX7_play 9 none, Cond.fieldLink RX7 132 "EqualMethodsModel" "slot" "I", Cond.fieldLink RX7 129 "EqualMethodsModel" "frames" "I", Cond.methodLink RX7 143 yX7_enter, Cond.instanceMethod yX7_enter, Cond.selects RX7 yX7_enter yX7_enter, Cond.code yX7_enter cX7_enter 6 none, Cond.methodLink RX7 160 yX7_returns, Cond.instanceMethod yX7_returns, Cond.selects RX7 yX7_returns yX7_returns, Cond.code yX7_returns cX7_returns 2 none, Cond.methodLink RX7 168 yX7_act, Cond.instanceMethod yX7_act, Cond.selects RX7 yX7_act yX7_act, Cond.code yX7_act cX7_act 10 none]
def wsL_law_r15 : List Cond := [Cond.methodLink RX7 153 yX7_tell, Cond.instanceMethod yX7_tell, Cond.selects RX7 yX7_tell yX7_tell, Cond.code yX7_tell cX7_tell 4 none, Cond.methodLink RX7 156 yX7_calls, Cond.instanceMethod yX7_calls, Cond.selects RX7 yX7_calls yX7_calls, Cond.code yX7_calls cX7_calls 9 none, Cond.fieldLink RX7 147 "EqualMethodsModel" "answer0" "I", Cond.fieldLink RX7 150 "EqualMethodsModel" "answer1" "I", Cond.methodLink RX7 135 yX7_throwsOut, Cond.instanceMethod yX7_throwsOut, Cond.selects RX7 yX7_throwsOut yX7_throwsOut, Cond.code yX7_throwsOut cX7_throwsOut 3 none, Cond.methodLink RX7 164 yX7_reckoned, Cond.static yX7_reckoned, Cond.code yX7_reckoned cX7_reckoned 3 (some .int), Cond.methodLink RL 41 yX6_ran, Cond.instanceMethod yX6_ran, Cond.selects RX6 yX6_ran yX6_ran, Cond.code yX6_ran cX6_ran 3 (some .int), Cond.fieldLink RX6 134 "EqualMethods$Trace" "number" "I", Cond.fieldLink RX6 137 "EqualMethods$Trace" "kind" "I", Cond.fieldLink RX6 140 "EqualMethods$Trace" "ops" "I"]
def wsL_law_r16 : List Cond := [Cond.fieldLink RX6 143 "EqualMethods$Trace" "tells" "I", Cond.fieldLink RX6 146 "EqualMethods$Trace" "deepest" "I", Cond.methodLink RL 44 yX7_ran, Cond.instanceMethod yX7_ran, Cond.selects RX7 yX7_ran yX7_ran, Cond.code yX7_ran cX7_ran 2 (some .int), Cond.methodLink RL 45 yX6_told, Cond.instanceMethod yX6_told, Cond.selects RX6 yX6_told yX6_told, Cond.code yX6_told cX6_told 4 (some .int), Cond.fieldLink RX6 149 "EqualMethods$Trace" "tellPorts" "[I", Cond.fieldLink RX6 152 "EqualMethods$Trace" "tellNumbers" "[I", Cond.methodLink RL 48 yX7_told, Cond.instanceMethod yX7_told, Cond.selects RX7 yX7_told yX7_told, Cond.code yX7_told cX7_told 3 (some .int), Cond.methodLink RL 49 yX6_rename, Cond.instanceMethod yX6_rename, Cond.selects RX6 yX6_rename yX6_rename, Cond.code yX6_rename cX6_rename 3 (some .int), Cond.methodLink RX6 155 yX3_swapIn, Cond.instanceMethod yX3_swapIn, Cond.selects RX3 yX3_swapIn yX3_swapIn, Cond.code yX3_swapIn cX3_swapIn 4 (some .int)]
def wsL_law_r17 : List Cond := [Cond.methodLink RX3 21 yX3_name, Cond.instanceMethod yX3_name, Cond.selects RX3 yX3_name yX3_name, Cond.code yX3_name cX3_name 3 none, Cond.methodLink RL 52 yX7_rename, Cond.instanceMethod yX7_rename, Cond.selects RX7 yX7_rename yX7_rename, Cond.code yX7_rename cX7_rename 5 (some .int), Cond.methodLink RL 53 yX6_group, Cond.instanceMethod yX6_group, Cond.selects RX6 yX6_group yX6_group, Cond.code yX6_group cX6_group 4 (some .int), Cond.fieldLink RX6 159 "EqualMethods$Ports" "groups" "[I", Cond.methodLink RL 56 yX7_group, Cond.instanceMethod yX7_group, Cond.selects RX7 yX7_group yX7_group, Cond.code yX7_group cX7_group 4 (some .int), Cond.methodLink RL 57 yX6_hold, Cond.instanceMethod yX6_hold, Cond.selects RX6 yX6_hold yX6_hold, Cond.code yX6_hold cX6_hold 4 (some .int), Cond.methodLink RX6 162 yX6_isPair, Cond.instanceMethod yX6_isPair, Cond.selects RX6 yX6_isPair yX6_isPair]
def wsL_law_r18 : List Cond := [Cond.code yX6_isPair cX6_isPair 3 (some .boolean), Cond.methodLink RX6 165 yX6_held, Cond.instanceMethod yX6_held, Cond.selects RX6 yX6_held yX6_held, Cond.code yX6_held cX6_held 6 (some .int), Cond.methodLink RX6 177 yX6_runBoth, Cond.instanceMethod yX6_runBoth, Cond.selects RX6 yX6_runBoth yX6_runBoth, Cond.code yX6_runBoth cX6_runBoth 5 (some .boolean), Cond.methodLink RX6 220 yX6_runsAlike, Cond.instanceMethod yX6_runsAlike, Cond.selects RX6 yX6_runsAlike yX6_runsAlike, Cond.code yX6_runsAlike cX6_runsAlike 4 (some .boolean), Cond.methodLink RX6 224 yX5_endsLike, Cond.instanceMethod yX5_endsLike, Cond.selects RX5 yX5_endsLike yX5_endsLike, Cond.code yX5_endsLike cX5_endsLike 2 (some .boolean), Cond.methodLink RX6 228 yX3_alike, Cond.instanceMethod yX3_alike, Cond.selects RX3 yX3_alike yX3_alike, Cond.code yX3_alike cX3_alike 8 (some .boolean), Cond.methodLink RX3 31 yX3_alikeIn, Cond.instanceMethod yX3_alikeIn, Cond.selects RX3 yX3_alikeIn yX3_alikeIn]
def wsL_law_r19 : List Cond := [Cond.code yX3_alikeIn cX3_alikeIn 11 (some .boolean), Cond.fieldLink RX3 35 "EqualMethods$Trace" "tellPorts" "[I", Cond.fieldLink RX3 44 "EqualMethods$Trace" "tellNumbers" "[I", Cond.methodLink RX3 40 yX3_nextIn, Cond.instanceMethod yX3_nextIn, Cond.selects RX3 yX3_nextIn yX3_nextIn, Cond.code yX3_nextIn cX3_nextIn 6 (some .int), Cond.methodLink RL 60 yX7_hold, Cond.instanceMethod yX7_hold, Cond.selects RX7 yX7_hold yX7_hold, Cond.code yX7_hold cX7_hold 4 (some .int), Cond.fieldLink RX7 196 "EqualMethodsModel" "unlikeX" "I", Cond.fieldLink RX7 199 "EqualMethodsModel" "unlikeY" "I", Cond.methodLink RX7 202 yX7_held, Cond.instanceMethod yX7_held, Cond.selects RX7 yX7_held yX7_held, Cond.code yX7_held cX7_held 6 (some .int), Cond.methodLink RX7 192 yX7_areLike, Cond.instanceMethod yX7_areLike, Cond.selects RX7 yX7_areLike yX7_areLike, Cond.code yX7_areLike cX7_areLike 4 (some .boolean), Cond.methodLink RX7 186 yX7_isPair, Cond.instanceMethod yX7_isPair, Cond.selects RX7 yX7_isPair yX7_isPair]
def wsL_law_r20 : List Cond := [Cond.code yX7_isPair cX7_isPair 5 (some .boolean), Cond.fieldLink RX7 183 "EqualMethodsModel" "pairs" "I", Cond.methodLink RX7 189 yX7_areTellsLike, Cond.instanceMethod yX7_areTellsLike, Cond.selects RX7 yX7_areTellsLike yX7_areTellsLike, Cond.code yX7_areTellsLike cX7_areTellsLike 5 (some .boolean), Cond.methodLink RX7 179 yX7_next, Cond.instanceMethod yX7_next, Cond.selects RX7 yX7_next yX7_next, Cond.code yX7_next cX7_next 6 (some .int), Cond.methodLink RX7 175 yX7_portOf, Cond.instanceMethod yX7_portOf, Cond.selects RX7 yX7_portOf yX7_portOf, Cond.code yX7_portOf cX7_portOf 3 (some .int), Cond.methodLink RL 61 yX6_first, Cond.instanceMethod yX6_first, Cond.selects RX6 yX6_first yX6_first, Cond.code yX6_first cX6_first 2 (some .int), Cond.methodLink RL 64 yX7_first, Cond.instanceMethod yX7_first, Cond.selects RX7 yX7_first yX7_first, Cond.code yX7_first cX7_first 2 (some .int), Cond.methodLink RL 65 yX6_match, Cond.instanceMethod yX6_match]
def wsL_law_r21 : List Cond := [Cond.selects RX6 yX6_match yX6_match, Cond.code yX6_match cX6_match 3 (some .int), Cond.methodLink RL 68 yX7_match, Cond.instanceMethod yX7_match, Cond.selects RX7 yX7_match yX7_match, Cond.code yX7_match cX7_match 3 (some .int), Cond.methodLink RL 69 yX6_find, Cond.instanceMethod yX6_find, Cond.selects RX6 yX6_find yX6_find, Cond.code yX6_find cX6_find 6 (some .int), Cond.constant RX6 176 (16777215), Cond.fieldLink RX6 185 "EqualMethods" "RENAMINGS" "[I", Cond.methodLink RX6 172 yX3_takeGroups, Cond.instanceMethod yX3_takeGroups, Cond.selects RX3 yX3_takeGroups yX3_takeGroups, Cond.code yX3_takeGroups cX3_takeGroups 2 none, Cond.methodLink RX3 25 arraycopyName, Cond.native arraycopyName, Cond.static arraycopyName, Cond.initialized "java/lang/System", Cond.methodLink RX6 181 yX6_stillAlike, Cond.instanceMethod yX6_stillAlike, Cond.selects RX6 yX6_stillAlike yX6_stillAlike, Cond.code yX6_stillAlike cX6_stillAlike 5 (some .int)]
def wsL_law_r22 : List Cond := [Cond.methodLink RX6 232 yX3_takeNames, Cond.instanceMethod yX3_takeNames, Cond.selects RX3 yX3_takeNames yX3_takeNames, Cond.code yX3_takeNames cX3_takeNames 2 none, Cond.methodLink RX6 188 yJ6_numberOfTrailingZeros_0f7a4, Cond.static yJ6_numberOfTrailingZeros_0f7a4, Cond.initialized RJ6, Cond.code yJ6_numberOfTrailingZeros_0f7a4 cJ6_numberOfTrailingZeros_0f7a4 2 (some .int), Cond.constant RJ6 264 (65536), Cond.methodLink RL 72 yX7_find, Cond.instanceMethod yX7_find, Cond.selects RX7 yX7_find yX7_find, Cond.code yX7_find cX7_find 5 (some .int), Cond.methodLink RX7 206 yX7_renames, Cond.instanceMethod yX7_renames, Cond.selects RX7 yX7_renames yX7_renames, Cond.code yX7_renames cX7_renames 4 (some .boolean), Cond.methodLink RL 73 yX6_assume, Cond.instanceMethod yX6_assume, Cond.selects RX6 yX6_assume yX6_assume, Cond.code yX6_assume cX6_assume 3 (some .int), Cond.fieldLink RX6 195 "EqualMethods$Pairs" "size" "I", Cond.methodLink RX6 193 yX2_has, Cond.instanceMethod yX2_has]
def wsL_law_r23 : List Cond := [Cond.selects RX2 yX2_has yX2_has, Cond.code yX2_has cX2_has 4 (some .boolean), Cond.methodLink RX6 198 yX2_add, Cond.instanceMethod yX2_add, Cond.selects RX2 yX2_add yX2_add, Cond.code yX2_add cX2_add 3 (some .int), Cond.methodLink RL 76 yX7_assume, Cond.instanceMethod yX7_assume, Cond.selects RX7 yX7_assume yX7_assume, Cond.code yX7_assume cX7_assume 3 (some .int), Cond.methodLink RL 77 yX6_drop, Cond.instanceMethod yX6_drop, Cond.selects RX6 yX6_drop yX6_drop, Cond.code yX6_drop cX6_drop 2 (some .int), Cond.methodLink RL 81 yX7_drop, Cond.instanceMethod yX7_drop, Cond.selects RX7 yX7_drop yX7_drop, Cond.code yX7_drop cX7_drop 2 (some .int), Cond.methodLink RL 82 yX6_prove, Cond.instanceMethod yX6_prove, Cond.selects RX6 yX6_prove yX6_prove, Cond.code yX6_prove cX6_prove 4 (some .int), Cond.fieldLink RX6 205 "EqualMethods$Proof" "answer" "I", Cond.methodLink RX6 201 yX4_begin]
def wsL_law_r24 : List Cond := [Cond.instanceMethod yX4_begin, Cond.selects RX4 yX4_begin yX4_begin, Cond.code yX4_begin cX4_begin 2 none, Cond.methodLink RX4 19 yX4_keep, Cond.instanceMethod yX4_keep, Cond.selects RX4 yX4_keep yX4_keep, Cond.code yX4_keep cX4_keep 7 none, Cond.methodLink RX6 208 yX6_proveInputs, Cond.instanceMethod yX6_proveInputs, Cond.selects RX6 yX6_proveInputs yX6_proveInputs, Cond.code yX6_proveInputs cX6_proveInputs 8 none, Cond.fieldLink RX6 239 "EqualMethods$Pairs" "as" "[I", Cond.fieldLink RX6 242 "EqualMethods$Pairs" "bs" "[I", Cond.fieldLink RX6 255 "EqualMethods$Trace" "callings" "I", Cond.methodLink RX6 258 Lib.Math.max.name, Cond.static Lib.Math.max.name, Cond.initialized "java/lang/Math", Cond.code Lib.Math.max.name Lib.Math.max.code 2 (some .int), Cond.methodLink RX6 235 yX1_takeAnswers, Cond.instanceMethod yX1_takeAnswers, Cond.selects RX1 yX1_takeAnswers yX1_takeAnswers, Cond.code yX1_takeAnswers cX1_takeAnswers 3 none, Cond.methodLink RX6 245 yX6_walksAnswer, Cond.instanceMethod yX6_walksAnswer]
def wsL_law_r25 : List Cond := [Cond.selects RX6 yX6_walksAnswer yX6_walksAnswer, Cond.code yX6_walksAnswer cX6_walksAnswer 3 (some .int), Cond.methodLink RX6 263 yX6_callingsAlike, Cond.instanceMethod yX6_callingsAlike, Cond.selects RX6 yX6_callingsAlike yX6_callingsAlike, Cond.code yX6_callingsAlike cX6_callingsAlike 8 (some .boolean), Cond.fieldLink RX6 267 "EqualMethods$Trace" "tellsAhead" "[I", Cond.fieldLink RX6 274 "EqualMethods$Trace" "called" "[I", Cond.methodLink RX6 270 yX5_sameInputs, Cond.instanceMethod yX5_sameInputs, Cond.selects RX5 yX5_sameInputs yX5_sameInputs, Cond.code yX5_sameInputs cX5_sameInputs 3 (some .boolean), Cond.methodLink RX6 248 yX4_yieldsTo, Cond.instanceMethod yX4_yieldsTo, Cond.selects RX4 yX4_yieldsTo yX4_yieldsTo, Cond.code yX4_yieldsTo cX4_yieldsTo 2 (some .boolean), Cond.methodLink RX6 251 yX4_keep, Cond.methodLink RL 85 yX7_prove, Cond.instanceMethod yX7_prove, Cond.selects RX7 yX7_prove yX7_prove, Cond.code yX7_prove cX7_prove 3 (some .int), Cond.fieldLink RX7 209 "EqualMethodsModel" "isWhy" "Z", Cond.methodLink RX7 217 yX7_proved, Cond.instanceMethod yX7_proved]
def wsL_law_r26 : List Cond := [Cond.selects RX7 yX7_proved yX7_proved, Cond.code yX7_proved cX7_proved 7 (some .int), Cond.methodLink RX7 212 yX7_walks, Cond.instanceMethod yX7_walks, Cond.selects RX7 yX7_walks yX7_walks, Cond.code yX7_walks cX7_walks 4 (some .int), Cond.methodLink RX7 215 yX7_tells, Cond.instanceMethod yX7_tells, Cond.selects RX7 yX7_tells yX7_tells, Cond.code yX7_tells cX7_tells 4 none, Cond.methodLink RL 86 yX6_why, Cond.instanceMethod yX6_why, Cond.selects RX6 yX6_why yX6_why, Cond.code yX6_why cX6_why 2 (some .int), Cond.fieldLink RX6 211 "EqualMethods$Proof" "place" "[I", Cond.methodLink RL 89 yX7_why, Cond.instanceMethod yX7_why, Cond.selects RX7 yX7_why yX7_why, Cond.code yX7_why cX7_why 2 (some .int), Cond.methodLink RL 90 yX6_count, Cond.instanceMethod yX6_count, Cond.selects RX6 yX6_count yX6_count, Cond.code yX6_count cX6_count 2 (some .int), Cond.fieldLink RX6 214 "EqualMethods$Ports" "standsFor" "[I"]
def wsL_law_r27 : List Cond := [Cond.methodLink RL 93 yX7_count, Cond.instanceMethod yX7_count, Cond.selects RX7 yX7_count yX7_count, Cond.code yX7_count cX7_count 2 (some .int)]
def wsL_law : List Cond := (wsL_law_r1 ++ (wsL_law_r2 ++ (wsL_law_r3 ++ (wsL_law_r4 ++ (wsL_law_r5 ++ (wsL_law_r6 ++ (wsL_law_r7 ++ (wsL_law_r8 ++ (wsL_law_r9 ++ (wsL_law_r10 ++ (wsL_law_r11 ++ (wsL_law_r12 ++ (wsL_law_r13 ++ (wsL_law_r14 ++ (wsL_law_r15 ++ (wsL_law_r16 ++ (wsL_law_r17 ++ (wsL_law_r18 ++ (wsL_law_r19 ++ (wsL_law_r20 ++ (wsL_law_r21 ++ (wsL_law_r22 ++ (wsL_law_r23 ++ (wsL_law_r24 ++ (wsL_law_r25 ++ (wsL_law_r26 ++ wsL_law_r27)))))))))))))))))))))))))) ++ wsX60 ++ wsX70 ++ wsX00 ++ wsX30 ++ wsX20 ++ wsX40 ++ wsX10 ++ wsX50 ++ ([] : List Cond)
end
section
set_option maxRecDepth 20000 in
theorem wsL_law_g1 : GoodIn lw_tbl wsL_law_r1 := goodIn_p _ [587, 61, 64] (by decide +kernel) (by decide +kernel)
set_option maxRecDepth 20000 in
theorem wsL_law_g2 : GoodIn lw_tbl wsL_law_r2 := goodIn_p _ [] (by decide +kernel) (by decide +kernel)
set_option maxRecDepth 20000 in
theorem wsL_law_g3 : GoodIn lw_tbl wsL_law_r3 := goodIn_p _ [69, 102, 120, 139] (by decide +kernel) (by decide +kernel)
set_option maxRecDepth 20000 in
theorem wsL_law_g4 : GoodIn lw_tbl wsL_law_r4 := goodIn_p _ [154, 160] (by decide +kernel) (by decide +kernel)
set_option maxRecDepth 20000 in
theorem wsL_law_g5 : GoodIn lw_tbl wsL_law_r5 := goodIn_p _ [592] (by decide +kernel) (by decide +kernel)
set_option maxRecDepth 20000 in
theorem wsL_law_g6 : GoodIn lw_tbl wsL_law_r6 := goodIn_p _ [] (by decide +kernel) (by decide +kernel)
set_option maxRecDepth 20000 in
theorem wsL_law_g7 : GoodIn lw_tbl wsL_law_r7 := goodIn_p _ [303, 306, 310, 314, 724, 727] (by decide +kernel) (by decide +kernel)
set_option maxRecDepth 20000 in
theorem wsL_law_g8 : GoodIn lw_tbl wsL_law_r8 := goodIn_p _ [318, 322, 326, 330, 336] (by decide +kernel) (by decide +kernel)
set_option maxRecDepth 20000 in
theorem wsL_law_g9 : GoodIn lw_tbl wsL_law_r9 := goodIn_p _ [340, 731, 735, 739, 742, 746, 344] (by decide +kernel) (by decide +kernel)
set_option maxRecDepth 20000 in
theorem wsL_law_g10 : GoodIn lw_tbl wsL_law_r10 := goodIn_p _ [348, 750, 352, 356, 360] (by decide +kernel) (by decide +kernel)
set_option maxRecDepth 20000 in
theorem wsL_law_g11 : GoodIn lw_tbl wsL_law_r11 := goodIn_p _ [364, 368, 372, 376, 381] (by decide +kernel) (by decide +kernel)
set_option maxRecDepth 20000 in
theorem wsL_law_g12 : GoodIn lw_tbl wsL_law_r12 := goodIn_p _ [386, 390, 394, 398, 402] (by decide +kernel) (by decide +kernel)
set_option maxRecDepth 20000 in
theorem wsL_law_g13 : GoodIn lw_tbl wsL_law_r13 := goodIn_p _ [406, 410, 415, 419, 423] (by decide +kernel) (by decide +kernel)
set_option maxRecDepth 20000 in
theorem wsL_law_g14 : GoodIn lw_tbl wsL_law_r14 := goodIn_p _ [426, 754, 758, 762, 766, 770] (by decide +kernel) (by decide +kernel)
set_option maxRecDepth 20000 in
theorem wsL_law_g15 : GoodIn lw_tbl wsL_law_r15 := goodIn_p _ [774, 778, 782, 785, 430] (by decide +kernel) (by decide +kernel)
set_option maxRecDepth 20000 in
theorem wsL_law_g16 : GoodIn lw_tbl wsL_law_r16 := goodIn_p _ [789, 434, 793, 438, 442] (by decide +kernel) (by decide +kernel)
set_option maxRecDepth 20000 in
theorem wsL_law_g17 : GoodIn lw_tbl wsL_law_r17 := goodIn_p _ [446, 797, 450, 801, 454] (by decide +kernel) (by decide +kernel)
set_option maxRecDepth 20000 in
theorem wsL_law_g18 : GoodIn lw_tbl wsL_law_r18 := goodIn_p _ [458, 462, 466, 470, 474, 478] (by decide +kernel) (by decide +kernel)
set_option maxRecDepth 20000 in
theorem wsL_law_g19 : GoodIn lw_tbl wsL_law_r19 := goodIn_p _ [482, 486, 805, 809, 813] (by decide +kernel) (by decide +kernel)
set_option maxRecDepth 20000 in
theorem wsL_law_g20 : GoodIn lw_tbl wsL_law_r20 := goodIn_p _ [817, 821, 825, 829, 490, 833] (by decide +kernel) (by decide +kernel)
set_option maxRecDepth 20000 in
theorem wsL_law_g21 : GoodIn lw_tbl wsL_law_r21 := goodIn_p _ [494, 837, 498, 502, 510] (by decide +kernel) (by decide +kernel)
set_option maxRecDepth 20000 in
theorem wsL_law_g22 : GoodIn lw_tbl wsL_law_r22 := goodIn_p _ [516, 519, 841, 845, 524] (by decide +kernel) (by decide +kernel)
set_option maxRecDepth 20000 in
theorem wsL_law_g23 : GoodIn lw_tbl wsL_law_r23 := goodIn_p _ [528, 532, 849, 536, 853, 540] (by decide +kernel) (by decide +kernel)
set_option maxRecDepth 20000 in
theorem wsL_law_g24 : GoodIn lw_tbl wsL_law_r24 := goodIn_p _ [544, 548, 552, 576, 556] (by decide +kernel) (by decide +kernel)
set_option maxRecDepth 20000 in
theorem wsL_law_g25 : GoodIn lw_tbl wsL_law_r25 := goodIn_p _ [560, 564, 568, 572, 857] (by decide +kernel) (by decide +kernel)
set_option maxRecDepth 20000 in
theorem wsL_law_g26 : GoodIn lw_tbl wsL_law_r26 := goodIn_p _ [861, 865, 869, 580, 873, 584] (by decide +kernel) (by decide +kernel)
set_option maxRecDepth 20000 in
theorem wsL_law_g27 : GoodIn lw_tbl wsL_law_r27 := goodIn_p _ [877] (by decide +kernel) (by decide +kernel)
set_option maxRecDepth 20000 in
theorem wsL_law_gX6 : GoodIn lw_tbl wsX60 := goodIn_p _ [] (by decide +kernel) (by decide +kernel)
set_option maxRecDepth 20000 in
theorem wsL_law_gX7 : GoodIn lw_tbl wsX70 := goodIn_p _ [] (by decide +kernel) (by decide +kernel)
set_option maxRecDepth 20000 in
theorem wsL_law_gX0 : GoodIn lw_tbl wsX00 := goodIn_p _ [] (by decide +kernel) (by decide +kernel)
set_option maxRecDepth 20000 in
theorem wsL_law_gX3 : GoodIn lw_tbl wsX30 := goodIn_p _ [] (by decide +kernel) (by decide +kernel)
set_option maxRecDepth 20000 in
theorem wsL_law_gX2 : GoodIn lw_tbl wsX20 := goodIn_p _ [] (by decide +kernel) (by decide +kernel)
set_option maxRecDepth 20000 in
theorem wsL_law_gX4 : GoodIn lw_tbl wsX40 := goodIn_p _ [] (by decide +kernel) (by decide +kernel)
set_option maxRecDepth 20000 in
theorem wsL_law_gX1 : GoodIn lw_tbl wsX10 := goodIn_p _ [] (by decide +kernel) (by decide +kernel)
set_option maxRecDepth 20000 in
theorem wsL_law_gX5 : GoodIn lw_tbl wsX50 := goodIn_p _ [] (by decide +kernel) (by decide +kernel)
theorem wsL_law_gg : GoodIn lw_tbl wsL_law := (goodIn_app (goodIn_app (goodIn_app (goodIn_app (goodIn_app (goodIn_app (goodIn_app (goodIn_app (goodIn_app (goodIn_app wsL_law_g1 (goodIn_app wsL_law_g2 (goodIn_app wsL_law_g3 (goodIn_app wsL_law_g4 (goodIn_app wsL_law_g5 (goodIn_app wsL_law_g6 (goodIn_app wsL_law_g7 (goodIn_app wsL_law_g8 (goodIn_app wsL_law_g9 (goodIn_app wsL_law_g10 (goodIn_app wsL_law_g11 (goodIn_app wsL_law_g12 (goodIn_app wsL_law_g13 (goodIn_app wsL_law_g14 (goodIn_app wsL_law_g15 (goodIn_app wsL_law_g16 (goodIn_app wsL_law_g17 (goodIn_app wsL_law_g18 (goodIn_app wsL_law_g19 (goodIn_app wsL_law_g20 (goodIn_app wsL_law_g21 (goodIn_app wsL_law_g22 (goodIn_app wsL_law_g23 (goodIn_app wsL_law_g24 (goodIn_app wsL_law_g25 (goodIn_app wsL_law_g26 wsL_law_g27)))))))))))))))))))))))))) wsL_law_gX6) wsL_law_gX7) wsL_law_gX0) wsL_law_gX3) wsL_law_gX2) wsL_law_gX4) wsL_law_gX1) wsL_law_gX5) (fun w h => absurd h List.not_mem_nil))
theorem wsL_law_in : ∀ w ∈ wsL_law, w ∈ lw_tbl := fun w h => (wsL_law_gg w h).1
theorem inlX0 : ∀ w ∈ wsX00, w ∈ wsL_law := fun _ h => List.mem_append_left _ (List.mem_append_left _ (List.mem_append_left _ (List.mem_append_left _ (List.mem_append_left _ (List.mem_append_left _ (List.mem_append_right _ h))))))
theorem inX0 : ∀ w ∈ wsX00, w ∈ lw_tbl := fun w h => wsL_law_in w (inlX0 w h)
theorem inlX1 : ∀ w ∈ wsX10, w ∈ wsL_law := fun _ h => List.mem_append_left _ (List.mem_append_left _ (List.mem_append_right _ h))
theorem inX1 : ∀ w ∈ wsX10, w ∈ lw_tbl := fun w h => wsL_law_in w (inlX1 w h)
theorem inlX2 : ∀ w ∈ wsX20, w ∈ wsL_law := fun _ h => List.mem_append_left _ (List.mem_append_left _ (List.mem_append_left _ (List.mem_append_left _ (List.mem_append_right _ h))))
theorem inX2 : ∀ w ∈ wsX20, w ∈ lw_tbl := fun w h => wsL_law_in w (inlX2 w h)
theorem inlX3 : ∀ w ∈ wsX30, w ∈ wsL_law := fun _ h => List.mem_append_left _ (List.mem_append_left _ (List.mem_append_left _ (List.mem_append_left _ (List.mem_append_left _ (List.mem_append_right _ h)))))
theorem inX3 : ∀ w ∈ wsX30, w ∈ lw_tbl := fun w h => wsL_law_in w (inlX3 w h)
theorem inlX4 : ∀ w ∈ wsX40, w ∈ wsL_law := fun _ h => List.mem_append_left _ (List.mem_append_left _ (List.mem_append_left _ (List.mem_append_right _ h)))
theorem inX4 : ∀ w ∈ wsX40, w ∈ lw_tbl := fun w h => wsL_law_in w (inlX4 w h)
theorem inlX5 : ∀ w ∈ wsX50, w ∈ wsL_law := fun _ h => List.mem_append_left _ (List.mem_append_right _ h)
theorem inX5 : ∀ w ∈ wsX50, w ∈ lw_tbl := fun w h => wsL_law_in w (inlX5 w h)
theorem inlX6 : ∀ w ∈ wsX60, w ∈ wsL_law := fun _ h => List.mem_append_left _ (List.mem_append_left _ (List.mem_append_left _ (List.mem_append_left _ (List.mem_append_left _ (List.mem_append_left _ (List.mem_append_left _ (List.mem_append_left _ (List.mem_append_right _ h))))))))
theorem inX6 : ∀ w ∈ wsX60, w ∈ lw_tbl := fun w h => wsL_law_in w (inlX6 w h)
theorem inlX7 : ∀ w ∈ wsX70, w ∈ wsL_law := fun _ h => List.mem_append_left _ (List.mem_append_left _ (List.mem_append_left _ (List.mem_append_left _ (List.mem_append_left _ (List.mem_append_left _ (List.mem_append_left _ (List.mem_append_right _ h)))))))
theorem inX7 : ∀ w ∈ wsX70, w ∈ lw_tbl := fun w h => wsL_law_in w (inlX7 w h)
theorem inJ6 : ∀ w ∈ wsJ60, w ∈ lw_tbl := by decide +kernel
theorem inJ9 : ∀ w ∈ wsJ90, w ∈ lw_tbl := by decide +kernel
theorem inJ10 : ∀ w ∈ wsJ100, w ∈ lw_tbl := by decide +kernel
theorem dX0_init_0 : decode cX0_init 0 = .ok (.aload_n 0, 1) := by decide +kernel
theorem dX0_init_1 : decode cX0_init 1 = .ok (.invokespecial 3, 3) := by decide +kernel
theorem dX0_init_4 : decode cX0_init 4 = .ok (.aload_n 0, 1) := by decide +kernel
theorem dX0_init_5 : decode cX0_init 5 = .ok (.iconst 0, 1) := by decide +kernel
theorem dX0_init_6 : decode cX0_init 6 = .ok (.putfield 9, 3) := by decide +kernel
theorem dX0_init_9 : decode cX0_init 9 = .ok (.aload_n 0, 1) := by decide +kernel
theorem dX0_init_10 : decode cX0_init 10 = .ok (.bipush 6, 2) := by decide +kernel
theorem dX0_init_12 : decode cX0_init 12 = .ok (.newarray .int, 2) := by decide +kernel
theorem dX0_init_14 : decode cX0_init 14 = .ok (.putfield 15, 3) := by decide +kernel
theorem dX0_init_17 : decode cX0_init 17 = .ok (.aload_n 0, 1) := by decide +kernel
theorem dX0_init_18 : decode cX0_init 18 = .ok (.sipush 144, 3) := by decide +kernel
theorem dX0_init_21 : decode cX0_init 21 = .ok (.newarray .int, 2) := by decide +kernel
theorem dX0_init_23 : decode cX0_init 23 = .ok (.putfield 19, 3) := by decide +kernel
theorem dX0_init_26 : decode cX0_init 26 = .ok (.aload_n 0, 1) := by decide +kernel
theorem dX0_init_27 : decode cX0_init 27 = .ok (.sipush 144, 3) := by decide +kernel
theorem dX0_init_30 : decode cX0_init 30 = .ok (.newarray .int, 2) := by decide +kernel
theorem dX0_init_32 : decode cX0_init 32 = .ok (.putfield 22, 3) := by decide +kernel
theorem dX0_init_35 : decode cX0_init 35 = .ok (.aload_n 0, 1) := by decide +kernel
theorem dX0_init_36 : decode cX0_init 36 = .ok (.sipush 144, 3) := by decide +kernel
theorem dX0_init_39 : decode cX0_init 39 = .ok (.newarray .int, 2) := by decide +kernel
theorem dX0_init_41 : decode cX0_init 41 = .ok (.putfield 25, 3) := by decide +kernel
theorem dX0_init_44 : decode cX0_init 44 = .ok (.aload_n 0, 1) := by decide +kernel
theorem dX0_init_45 : decode cX0_init 45 = .ok (.sipush 144, 3) := by decide +kernel
theorem dX0_init_48 : decode cX0_init 48 = .ok (.newarray .int, 2) := by decide +kernel
theorem dX0_init_50 : decode cX0_init 50 = .ok (.putfield 28, 3) := by decide +kernel
theorem dX0_init_53 : decode cX0_init 53 = .ok (.return_, 1) := by decide +kernel
theorem dX0_has_0 : decode cX0_has 0 = .ok (.iload_n 1, 1) := by decide +kernel
theorem dX0_has_1 : decode cX0_has 1 = .ok (.ifCond .lt 15, 3) := by decide +kernel
theorem dX0_has_4 : decode cX0_has 4 = .ok (.iload_n 1, 1) := by decide +kernel
theorem dX0_has_5 : decode cX0_has 5 = .ok (.aload_n 0, 1) := by decide +kernel
theorem dX0_has_6 : decode cX0_has 6 = .ok (.getfield 9, 3) := by decide +kernel
theorem dX0_has_9 : decode cX0_has 9 = .ok (.if_icmp .ge 7, 3) := by decide +kernel
theorem dX0_has_12 : decode cX0_has 12 = .ok (.iconst 1, 1) := by decide +kernel
end
section
theorem dX0_has_13 : decode cX0_has 13 = .ok (.goto 4, 3) := by decide +kernel
theorem dX0_has_16 : decode cX0_has 16 = .ok (.iconst 0, 1) := by decide +kernel
theorem dX0_has_17 : decode cX0_has 17 = .ok (.ireturn, 1) := by decide +kernel
theorem dX0_addMethod_0 : decode cX0_addMethod 0 = .ok (.aload_n 0, 1) := by decide +kernel
theorem dX0_addMethod_1 : decode cX0_addMethod 1 = .ok (.dup, 1) := by decide +kernel
theorem dX0_addMethod_2 : decode cX0_addMethod 2 = .ok (.getfield 9, 3) := by decide +kernel
theorem dX0_addMethod_5 : decode cX0_addMethod 5 = .ok (.dup_x1, 1) := by decide +kernel
theorem dX0_addMethod_6 : decode cX0_addMethod 6 = .ok (.iconst 1, 1) := by decide +kernel
theorem dX0_addMethod_7 : decode cX0_addMethod 7 = .ok (.iadd, 1) := by decide +kernel
theorem dX0_addMethod_8 : decode cX0_addMethod 8 = .ok (.putfield 9, 3) := by decide +kernel
theorem dX0_addMethod_11 : decode cX0_addMethod 11 = .ok (.ireturn, 1) := by decide +kernel
set_option maxRecDepth 20000 in
theorem ggX0_addOp_X0_placeOf : GoodIn wsX0_addOp wsX0_placeOf := goodIn_r _ [10] (by decide +kernel) (by decide +kernel)
set_option maxRecDepth 20000 in
theorem gX0_addOp_X0_placeOf : GoodIn wsX0_addOp (wsV RX0 31 RX0 yX0_placeOf wsX0_placeOf) := goodIn_app (goodIn_of _ (by decide +kernel)) ggX0_addOp_X0_placeOf
theorem dX0_addOp_0 : decode cX0_addOp 0 = .ok (.aload_n 0, 1) := by decide +kernel
theorem dX0_addOp_1 : decode cX0_addOp 1 = .ok (.iload_n 1, 1) := by decide +kernel
theorem dX0_addOp_2 : decode cX0_addOp 2 = .ok (.aload_n 0, 1) := by decide +kernel
theorem dX0_addOp_3 : decode cX0_addOp 3 = .ok (.getfield 15, 3) := by decide +kernel
theorem dX0_addOp_6 : decode cX0_addOp 6 = .ok (.iload_n 1, 1) := by decide +kernel
theorem dX0_addOp_7 : decode cX0_addOp 7 = .ok (.iaload, 1) := by decide +kernel
theorem dX0_addOp_8 : decode cX0_addOp 8 = .ok (.invokevirtual 31, 3) := by decide +kernel
theorem dX0_addOp_11 : decode cX0_addOp 11 = .ok (.istore 6, 2) := by decide +kernel
theorem dX0_addOp_13 : decode cX0_addOp 13 = .ok (.aload_n 0, 1) := by decide +kernel
theorem dX0_addOp_14 : decode cX0_addOp 14 = .ok (.getfield 19, 3) := by decide +kernel
theorem dX0_addOp_17 : decode cX0_addOp 17 = .ok (.iload 6, 2) := by decide +kernel
theorem dX0_addOp_19 : decode cX0_addOp 19 = .ok (.iload_n 2, 1) := by decide +kernel
theorem dX0_addOp_20 : decode cX0_addOp 20 = .ok (.iastore, 1) := by decide +kernel
theorem dX0_addOp_21 : decode cX0_addOp 21 = .ok (.aload_n 0, 1) := by decide +kernel
theorem dX0_addOp_22 : decode cX0_addOp 22 = .ok (.getfield 22, 3) := by decide +kernel
theorem dX0_addOp_25 : decode cX0_addOp 25 = .ok (.iload 6, 2) := by decide +kernel
theorem dX0_addOp_27 : decode cX0_addOp 27 = .ok (.iload_n 3, 1) := by decide +kernel
theorem dX0_addOp_28 : decode cX0_addOp 28 = .ok (.iastore, 1) := by decide +kernel
theorem dX0_addOp_29 : decode cX0_addOp 29 = .ok (.aload_n 0, 1) := by decide +kernel
theorem dX0_addOp_30 : decode cX0_addOp 30 = .ok (.getfield 25, 3) := by decide +kernel
theorem dX0_addOp_33 : decode cX0_addOp 33 = .ok (.iload 6, 2) := by decide +kernel
theorem dX0_addOp_35 : decode cX0_addOp 35 = .ok (.iload 4, 2) := by decide +kernel
theorem dX0_addOp_37 : decode cX0_addOp 37 = .ok (.iastore, 1) := by decide +kernel
theorem dX0_addOp_38 : decode cX0_addOp 38 = .ok (.aload_n 0, 1) := by decide +kernel
theorem dX0_addOp_39 : decode cX0_addOp 39 = .ok (.getfield 28, 3) := by decide +kernel
theorem dX0_addOp_42 : decode cX0_addOp 42 = .ok (.iload 6, 2) := by decide +kernel
theorem dX0_addOp_44 : decode cX0_addOp 44 = .ok (.iload 5, 2) := by decide +kernel
theorem dX0_addOp_46 : decode cX0_addOp 46 = .ok (.iastore, 1) := by decide +kernel
theorem dX0_addOp_47 : decode cX0_addOp 47 = .ok (.aload_n 0, 1) := by decide +kernel
theorem dX0_addOp_48 : decode cX0_addOp 48 = .ok (.getfield 15, 3) := by decide +kernel
theorem dX0_addOp_51 : decode cX0_addOp 51 = .ok (.iload_n 1, 1) := by decide +kernel
theorem dX0_addOp_52 : decode cX0_addOp 52 = .ok (.dup2, 1) := by decide +kernel
theorem dX0_addOp_53 : decode cX0_addOp 53 = .ok (.iaload, 1) := by decide +kernel
theorem dX0_addOp_54 : decode cX0_addOp 54 = .ok (.dup_x2, 1) := by decide +kernel
theorem dX0_addOp_55 : decode cX0_addOp 55 = .ok (.iconst 1, 1) := by decide +kernel
theorem dX0_addOp_56 : decode cX0_addOp 56 = .ok (.iadd, 1) := by decide +kernel
theorem dX0_addOp_57 : decode cX0_addOp 57 = .ok (.iastore, 1) := by decide +kernel
theorem dX0_addOp_58 : decode cX0_addOp 58 = .ok (.ireturn, 1) := by decide +kernel
theorem dX0_removeOps_0 : decode cX0_removeOps 0 = .ok (.aload_n 0, 1) := by decide +kernel
theorem dX0_removeOps_1 : decode cX0_removeOps 1 = .ok (.getfield 15, 3) := by decide +kernel
theorem dX0_removeOps_4 : decode cX0_removeOps 4 = .ok (.iload_n 1, 1) := by decide +kernel
theorem dX0_removeOps_5 : decode cX0_removeOps 5 = .ok (.iaload, 1) := by decide +kernel
theorem dX0_removeOps_6 : decode cX0_removeOps 6 = .ok (.istore_n 2, 1) := by decide +kernel
theorem dX0_removeOps_7 : decode cX0_removeOps 7 = .ok (.aload_n 0, 1) := by decide +kernel
theorem dX0_removeOps_8 : decode cX0_removeOps 8 = .ok (.getfield 15, 3) := by decide +kernel
theorem dX0_removeOps_11 : decode cX0_removeOps 11 = .ok (.iload_n 1, 1) := by decide +kernel
theorem dX0_removeOps_12 : decode cX0_removeOps 12 = .ok (.iconst 0, 1) := by decide +kernel
theorem dX0_removeOps_13 : decode cX0_removeOps 13 = .ok (.iastore, 1) := by decide +kernel
theorem dX0_removeOps_14 : decode cX0_removeOps 14 = .ok (.iload_n 2, 1) := by decide +kernel
theorem dX0_removeOps_15 : decode cX0_removeOps 15 = .ok (.ireturn, 1) := by decide +kernel
theorem dX0_placeOf_0 : decode cX0_placeOf 0 = .ok (.iload_n 1, 1) := by decide +kernel
theorem dX0_placeOf_1 : decode cX0_placeOf 1 = .ok (.bipush 24, 2) := by decide +kernel
theorem dX0_placeOf_3 : decode cX0_placeOf 3 = .ok (.imul, 1) := by decide +kernel
theorem dX0_placeOf_4 : decode cX0_placeOf 4 = .ok (.iload_n 2, 1) := by decide +kernel
theorem dX0_placeOf_5 : decode cX0_placeOf 5 = .ok (.iadd, 1) := by decide +kernel
theorem dX0_placeOf_6 : decode cX0_placeOf 6 = .ok (.ireturn, 1) := by decide +kernel
set_option maxRecDepth 20000 in
theorem ggX1_init_X5_init : GoodIn wsX1_init wsX5_init := goodIn_r _ [18, 19, 2, 3, 20, 21, 22, 23, 24, 25, 8, 26, 27, 28, 29, 30, 31, 32, 33, 34, 35, 36, 37, 38, 39, 40, 41, 42, 43, 44, 45] (by decide +kernel) (by decide +kernel)
set_option maxRecDepth 20000 in
theorem gX1_init_X5_init_n11 : GoodIn wsX1_init (wsX5_init) := ggX1_init_X5_init
theorem dX1_init_0 : decode cX1_init 0 = .ok (.aload_n 0, 1) := by decide +kernel
theorem dX1_init_1 : decode cX1_init 1 = .ok (.invokespecial 3, 3) := by decide +kernel
theorem dX1_init_4 : decode cX1_init 4 = .ok (.aload_n 0, 1) := by decide +kernel
theorem dX1_init_5 : decode cX1_init 5 = .ok (.new 9, 3) := by decide +kernel
theorem dX1_init_8 : decode cX1_init 8 = .ok (.dup, 1) := by decide +kernel
theorem dX1_init_9 : decode cX1_init 9 = .ok (.invokespecial 11, 3) := by decide +kernel
theorem dX1_init_12 : decode cX1_init 12 = .ok (.putfield 12, 3) := by decide +kernel
theorem dX1_init_15 : decode cX1_init 15 = .ok (.aload_n 0, 1) := by decide +kernel
theorem dX1_init_16 : decode cX1_init 16 = .ok (.bipush 48, 2) := by decide +kernel
theorem dX1_init_18 : decode cX1_init 18 = .ok (.newarray .int, 2) := by decide +kernel
theorem dX1_init_20 : decode cX1_init 20 = .ok (.putfield 18, 3) := by decide +kernel
theorem dX1_init_23 : decode cX1_init 23 = .ok (.aload_n 0, 1) := by decide +kernel
theorem dX1_init_24 : decode cX1_init 24 = .ok (.bipush 8, 2) := by decide +kernel
theorem dX1_init_26 : decode cX1_init 26 = .ok (.newarray .int, 2) := by decide +kernel
theorem dX1_init_28 : decode cX1_init 28 = .ok (.putfield 22, 3) := by decide +kernel
theorem dX1_init_31 : decode cX1_init 31 = .ok (.aload_n 0, 1) := by decide +kernel
theorem dX1_init_32 : decode cX1_init 32 = .ok (.bipush 8, 2) := by decide +kernel
theorem dX1_init_34 : decode cX1_init 34 = .ok (.newarray .int, 2) := by decide +kernel
theorem dX1_init_36 : decode cX1_init 36 = .ok (.putfield 25, 3) := by decide +kernel
theorem dX1_init_39 : decode cX1_init 39 = .ok (.aload_n 0, 1) := by decide +kernel
theorem dX1_init_40 : decode cX1_init 40 = .ok (.iconst 2, 1) := by decide +kernel
theorem dX1_init_41 : decode cX1_init 41 = .ok (.newarray .int, 2) := by decide +kernel
theorem dX1_init_43 : decode cX1_init 43 = .ok (.putfield 28, 3) := by decide +kernel
theorem dX1_init_46 : decode cX1_init 46 = .ok (.aload_n 0, 1) := by decide +kernel
theorem dX1_init_47 : decode cX1_init 47 = .ok (.iconst 0, 1) := by decide +kernel
theorem dX1_init_48 : decode cX1_init 48 = .ok (.putfield 31, 3) := by decide +kernel
theorem dX1_init_51 : decode cX1_init 51 = .ok (.aload_n 0, 1) := by decide +kernel
theorem dX1_init_52 : decode cX1_init 52 = .ok (.aload_n 1, 1) := by decide +kernel
theorem dX1_init_53 : decode cX1_init 53 = .ok (.putfield 35, 3) := by decide +kernel
theorem dX1_init_56 : decode cX1_init 56 = .ok (.aload_n 0, 1) := by decide +kernel
theorem dX1_init_57 : decode cX1_init 57 = .ok (.iload_n 2, 1) := by decide +kernel
theorem dX1_init_58 : decode cX1_init 58 = .ok (.putfield 39, 3) := by decide +kernel
theorem dX1_init_61 : decode cX1_init 61 = .ok (.aload_n 0, 1) := by decide +kernel
theorem dX1_init_62 : decode cX1_init 62 = .ok (.iload_n 3, 1) := by decide +kernel
theorem dX1_init_63 : decode cX1_init 63 = .ok (.putfield 42, 3) := by decide +kernel
theorem dX1_init_66 : decode cX1_init 66 = .ok (.return_, 1) := by decide +kernel
theorem dX1_turnTo_0 : decode cX1_turnTo 0 = .ok (.aload_n 0, 1) := by decide +kernel
theorem dX1_turnTo_1 : decode cX1_turnTo 1 = .ok (.aload_n 1, 1) := by decide +kernel
theorem dX1_turnTo_2 : decode cX1_turnTo 2 = .ok (.putfield 35, 3) := by decide +kernel
theorem dX1_turnTo_5 : decode cX1_turnTo 5 = .ok (.return_, 1) := by decide +kernel
theorem dX1_takeAnswers_0 : decode cX1_takeAnswers 0 = .ok (.aload_n 0, 1) := by decide +kernel
theorem dX1_takeAnswers_1 : decode cX1_takeAnswers 1 = .ok (.getfield 28, 3) := by decide +kernel
theorem dX1_takeAnswers_4 : decode cX1_takeAnswers 4 = .ok (.iconst 0, 1) := by decide +kernel
theorem dX1_takeAnswers_5 : decode cX1_takeAnswers 5 = .ok (.iload_n 1, 1) := by decide +kernel
theorem dX1_takeAnswers_6 : decode cX1_takeAnswers 6 = .ok (.iastore, 1) := by decide +kernel
theorem dX1_takeAnswers_7 : decode cX1_takeAnswers 7 = .ok (.aload_n 0, 1) := by decide +kernel
theorem dX1_takeAnswers_8 : decode cX1_takeAnswers 8 = .ok (.getfield 28, 3) := by decide +kernel
theorem dX1_takeAnswers_11 : decode cX1_takeAnswers 11 = .ok (.iconst 1, 1) := by decide +kernel
theorem dX1_takeAnswers_12 : decode cX1_takeAnswers 12 = .ok (.iload_n 2, 1) := by decide +kernel
theorem dX1_takeAnswers_13 : decode cX1_takeAnswers 13 = .ok (.iastore, 1) := by decide +kernel
theorem dX1_takeAnswers_14 : decode cX1_takeAnswers 14 = .ok (.return_, 1) := by decide +kernel
set_option maxRecDepth 20000 in
theorem ggX1_go_X5_forget : GoodIn wsX1_go wsX5_forget := goodIn_r _ [12, 13, 14, 15, 16, 17, 18, 19, 11, 20, 21, 22, 23, 123, 124, 125, 126, 127, 128, 129, 130, 131, 132, 133, 134, 135] (by decide +kernel) (by decide +kernel)
set_option maxRecDepth 20000 in
theorem gX1_go_X5_forget : GoodIn wsX1_go (wsV RX1 46 RX5 yX5_forget wsX5_forget) := goodIn_app (goodIn_of _ (by decide +kernel)) ggX1_go_X5_forget
set_option maxRecDepth 20000 in
theorem ggX1_go_X1_enter : GoodIn wsX1_go wsX1_enter := goodIn_r _ [28, 2, 29, 3, 6, 1, 30, 108, 109, 110, 111, 112, 113, 114, 115, 116, 123, 124, 125, 126, 127, 128, 129, 130, 131, 132, 133, 134, 135] (by decide +kernel) (by decide +kernel)
set_option maxRecDepth 20000 in
theorem gX1_go_X1_enter : GoodIn wsX1_go (wsV RX1 49 RX1 yX1_enter wsX1_enter) := goodIn_app (goodIn_of _ (by decide +kernel)) ggX1_go_X1_enter
set_option maxRecDepth 20000 in
theorem ggX1_go_X1_giveBack : GoodIn wsX1_go wsX1_giveBack := goodIn_r _ [34, 2, 1, 4, 35, 36, 18, 19, 11, 20, 21, 22, 23, 37, 38, 39, 27, 40, 6, 3, 41, 42, 43, 44, 45, 46, 47, 48, 49, 29, 108, 109, 110, 111, 112, 113, 114, 115, 116, 117, 118, 119, 120, 121, 122, 123, 124, 125, 126, 127, 128, 129, 130, 131, 132, 133, 134, 135] (by decide +kernel) (by decide +kernel)
set_option maxRecDepth 20000 in
theorem gX1_go_X1_giveBack : GoodIn wsX1_go (wsV RX1 58 RX1 yX1_giveBack wsX1_giveBack) := goodIn_app (goodIn_of _ (by decide +kernel)) ggX1_go_X1_giveBack
set_option maxRecDepth 20000 in
theorem ggX1_go_X1_placeOfTop : GoodIn wsX1_go wsX1_placeOfTop := goodIn_r _ [40, 4, 6, 2, 3, 41, 42, 43, 44, 45, 108, 109, 110, 111, 112, 113, 114, 115, 116] (by decide +kernel) (by decide +kernel)
set_option maxRecDepth 20000 in
theorem gX1_go_X1_placeOfTop : GoodIn wsX1_go (wsV RX1 65 RX1 yX1_placeOfTop wsX1_placeOfTop) := goodIn_app (goodIn_of _ (by decide +kernel)) ggX1_go_X1_placeOfTop
set_option maxRecDepth 20000 in
theorem ggX1_go_X1_isSpentBy : GoodIn wsX1_go wsX1_isSpentBy := goodIn_r _ [53, 1, 54, 55, 108, 109, 110, 111, 112, 113, 114, 115, 116, 123, 124, 125, 126, 127, 128, 129, 130, 131, 132, 133, 134, 135] (by decide +kernel) (by decide +kernel)
set_option maxRecDepth 20000 in
theorem gX1_go_X1_isSpentBy : GoodIn wsX1_go (wsV RX1 69 RX1 yX1_isSpentBy wsX1_isSpentBy) := goodIn_app (goodIn_of _ (by decide +kernel)) ggX1_go_X1_isSpentBy
set_option maxRecDepth 20000 in
theorem ggX1_go_X1_stop : GoodIn wsX1_go wsX1_stop := goodIn_r _ [59, 2, 1, 36, 18, 19, 11, 20, 21, 22, 23, 108, 109, 110, 111, 112, 113, 114, 115, 116, 123, 124, 125, 126, 127, 128, 129, 130, 131, 132, 133, 134, 135] (by decide +kernel) (by decide +kernel)
set_option maxRecDepth 20000 in
theorem gX1_go_X1_stop : GoodIn wsX1_go (wsV RX1 73 RX1 yX1_stop wsX1_stop) := goodIn_app (goodIn_of _ (by decide +kernel)) ggX1_go_X1_stop
set_option maxRecDepth 20000 in
theorem ggX1_go_X1_perform : GoodIn wsX1_go wsX1_perform := goodIn_r _ [63, 4, 35, 64, 65, 1, 54, 7, 3, 2, 46, 47, 48, 27, 49, 29, 66, 67, 68, 69, 70, 71, 72, 11, 73, 74, 15, 75, 76, 77, 78, 79, 80, 81, 82, 83, 84, 44, 85, 86, 56, 57, 58, 59, 36, 18, 19, 20, 21, 22, 23, 87, 88, 89, 90, 91, 92, 93, 94, 95, 96, 97, 16, 98, 99, 100, 24, 25, 26, 28, 6, 30, 31, 32, 33, 34, 37, 38, 39, 40, 41, 42, 43, 45, 101, 102, 103, 104, 105, 106, 107, 108, 109, 110, 111, 112, 113, 114, 115, 116, 117, 118, 119, 120, 121, 122, 123, 124, 125, 126, 127, 128, 129, 130, 131, 132, 133, 134, 135] (by decide +kernel) (by decide +kernel)
set_option maxRecDepth 20000 in
theorem gX1_go_X1_perform : GoodIn wsX1_go (wsV RX1 76 RX1 yX1_perform wsX1_perform) := goodIn_app (goodIn_of _ (by decide +kernel)) ggX1_go_X1_perform
theorem dX1_go_0 : decode cX1_go 0 = .ok (.aload_n 0, 1) := by decide +kernel
theorem dX1_go_1 : decode cX1_go 1 = .ok (.getfield 12, 3) := by decide +kernel
theorem dX1_go_4 : decode cX1_go 4 = .ok (.invokevirtual 46, 3) := by decide +kernel
theorem dX1_go_7 : decode cX1_go 7 = .ok (.aload_n 0, 1) := by decide +kernel
theorem dX1_go_8 : decode cX1_go 8 = .ok (.iconst 0, 1) := by decide +kernel
theorem dX1_go_9 : decode cX1_go 9 = .ok (.putfield 31, 3) := by decide +kernel
theorem dX1_go_12 : decode cX1_go 12 = .ok (.aload_n 0, 1) := by decide +kernel
theorem dX1_go_13 : decode cX1_go 13 = .ok (.iload_n 1, 1) := by decide +kernel
theorem dX1_go_14 : decode cX1_go 14 = .ok (.iload_n 2, 1) := by decide +kernel
theorem dX1_go_15 : decode cX1_go 15 = .ok (.iload_n 3, 1) := by decide +kernel
theorem dX1_go_16 : decode cX1_go 16 = .ok (.invokevirtual 49, 3) := by decide +kernel
theorem dX1_go_19 : decode cX1_go 19 = .ok (.iconst 0, 1) := by decide +kernel
theorem dX1_go_20 : decode cX1_go 20 = .ok (.istore 4, 2) := by decide +kernel
theorem dX1_go_22 : decode cX1_go 22 = .ok (.iload 4, 2) := by decide +kernel
theorem dX1_go_24 : decode cX1_go 24 = .ok (.sipush 1000, 3) := by decide +kernel
theorem dX1_go_27 : decode cX1_go 27 = .ok (.if_icmp .ge 94, 3) := by decide +kernel
theorem dX1_go_30 : decode cX1_go 30 = .ok (.aload_n 0, 1) := by decide +kernel
theorem dX1_go_31 : decode cX1_go 31 = .ok (.getfield 31, 3) := by decide +kernel
theorem dX1_go_34 : decode cX1_go 34 = .ok (.ifCond .le 87, 3) := by decide +kernel
theorem dX1_go_37 : decode cX1_go 37 = .ok (.aload_n 0, 1) := by decide +kernel
theorem dX1_go_38 : decode cX1_go 38 = .ok (.getfield 22, 3) := by decide +kernel
theorem dX1_go_41 : decode cX1_go 41 = .ok (.aload_n 0, 1) := by decide +kernel
theorem dX1_go_42 : decode cX1_go 42 = .ok (.getfield 31, 3) := by decide +kernel
theorem dX1_go_45 : decode cX1_go 45 = .ok (.iconst 1, 1) := by decide +kernel
theorem dX1_go_46 : decode cX1_go 46 = .ok (.isub, 1) := by decide +kernel
theorem dX1_go_47 : decode cX1_go 47 = .ok (.iaload, 1) := by decide +kernel
theorem dX1_go_48 : decode cX1_go 48 = .ok (.aload_n 0, 1) := by decide +kernel
theorem dX1_go_49 : decode cX1_go 49 = .ok (.getfield 35, 3) := by decide +kernel
theorem dX1_go_52 : decode cX1_go 52 = .ok (.getfield 53, 3) := by decide +kernel
theorem dX1_go_55 : decode cX1_go 55 = .ok (.aload_n 0, 1) := by decide +kernel
theorem dX1_go_56 : decode cX1_go 56 = .ok (.getfield 25, 3) := by decide +kernel
theorem dX1_go_59 : decode cX1_go 59 = .ok (.aload_n 0, 1) := by decide +kernel
theorem dX1_go_60 : decode cX1_go 60 = .ok (.getfield 31, 3) := by decide +kernel
theorem dX1_go_63 : decode cX1_go 63 = .ok (.iconst 1, 1) := by decide +kernel
theorem dX1_go_64 : decode cX1_go 64 = .ok (.isub, 1) := by decide +kernel
theorem dX1_go_65 : decode cX1_go 65 = .ok (.iaload, 1) := by decide +kernel
theorem dX1_go_66 : decode cX1_go 66 = .ok (.iaload, 1) := by decide +kernel
theorem dX1_go_67 : decode cX1_go 67 = .ok (.if_icmp .lt 11, 3) := by decide +kernel
theorem dX1_go_70 : decode cX1_go 70 = .ok (.aload_n 0, 1) := by decide +kernel
theorem dX1_go_71 : decode cX1_go 71 = .ok (.iconst 0, 1) := by decide +kernel
theorem dX1_go_72 : decode cX1_go 72 = .ok (.invokevirtual 58, 3) := by decide +kernel
theorem dX1_go_75 : decode cX1_go 75 = .ok (.goto 40, 3) := by decide +kernel
theorem dX1_go_78 : decode cX1_go 78 = .ok (.aload_n 0, 1) := by decide +kernel
theorem dX1_go_79 : decode cX1_go 79 = .ok (.aload_n 0, 1) := by decide +kernel
theorem dX1_go_80 : decode cX1_go 80 = .ok (.getfield 35, 3) := by decide +kernel
theorem dX1_go_83 : decode cX1_go 83 = .ok (.getfield 62, 3) := by decide +kernel
theorem dX1_go_86 : decode cX1_go 86 = .ok (.aload_n 0, 1) := by decide +kernel
theorem dX1_go_87 : decode cX1_go 87 = .ok (.invokevirtual 65, 3) := by decide +kernel
theorem dX1_go_90 : decode cX1_go 90 = .ok (.iaload, 1) := by decide +kernel
theorem dX1_go_91 : decode cX1_go 91 = .ok (.invokevirtual 69, 3) := by decide +kernel
theorem dX1_go_94 : decode cX1_go 94 = .ok (.ifCond .eq 13, 3) := by decide +kernel
theorem dX1_go_97 : decode cX1_go 97 = .ok (.aload_n 0, 1) := by decide +kernel
theorem dX1_go_98 : decode cX1_go 98 = .ok (.iconst 2, 1) := by decide +kernel
theorem dX1_go_99 : decode cX1_go 99 = .ok (.iconst 0, 1) := by decide +kernel
theorem dX1_go_100 : decode cX1_go 100 = .ok (.iconst 0, 1) := by decide +kernel
theorem dX1_go_101 : decode cX1_go 101 = .ok (.invokevirtual 73, 3) := by decide +kernel
theorem dX1_go_104 : decode cX1_go 104 = .ok (.goto 11, 3) := by decide +kernel
theorem dX1_go_107 : decode cX1_go 107 = .ok (.aload_n 0, 1) := by decide +kernel
theorem dX1_go_108 : decode cX1_go 108 = .ok (.aload_n 0, 1) := by decide +kernel
theorem dX1_go_109 : decode cX1_go 109 = .ok (.invokevirtual 65, 3) := by decide +kernel
theorem dX1_go_112 : decode cX1_go 112 = .ok (.invokevirtual 76, 3) := by decide +kernel
theorem dX1_go_115 : decode cX1_go 115 = .ok (.iinc 4 1, 3) := by decide +kernel
theorem dX1_go_118 : decode cX1_go 118 = .ok (.goto (-96), 3) := by decide +kernel
theorem dX1_go_121 : decode cX1_go 121 = .ok (.return_, 1) := by decide +kernel
set_option maxRecDepth 20000 in
theorem ggX1_placeOfTop_X0_placeOf : GoodIn wsX1_placeOfTop wsX0_placeOf := goodIn_r _ [9] (by decide +kernel) (by decide +kernel)
set_option maxRecDepth 20000 in
theorem gX1_placeOfTop_X0_placeOf : GoodIn wsX1_placeOfTop (wsV RX1 79 RX0 yX0_placeOf wsX0_placeOf) := goodIn_app (goodIn_of _ (by decide +kernel)) ggX1_placeOfTop_X0_placeOf
theorem dX1_placeOfTop_0 : decode cX1_placeOfTop 0 = .ok (.aload_n 0, 1) := by decide +kernel
theorem dX1_placeOfTop_1 : decode cX1_placeOfTop 1 = .ok (.getfield 35, 3) := by decide +kernel
theorem dX1_placeOfTop_4 : decode cX1_placeOfTop 4 = .ok (.aload_n 0, 1) := by decide +kernel
theorem dX1_placeOfTop_5 : decode cX1_placeOfTop 5 = .ok (.getfield 25, 3) := by decide +kernel
theorem dX1_placeOfTop_8 : decode cX1_placeOfTop 8 = .ok (.aload_n 0, 1) := by decide +kernel
theorem dX1_placeOfTop_9 : decode cX1_placeOfTop 9 = .ok (.getfield 31, 3) := by decide +kernel
theorem dX1_placeOfTop_12 : decode cX1_placeOfTop 12 = .ok (.iconst 1, 1) := by decide +kernel
theorem dX1_placeOfTop_13 : decode cX1_placeOfTop 13 = .ok (.isub, 1) := by decide +kernel
theorem dX1_placeOfTop_14 : decode cX1_placeOfTop 14 = .ok (.iaload, 1) := by decide +kernel
theorem dX1_placeOfTop_15 : decode cX1_placeOfTop 15 = .ok (.aload_n 0, 1) := by decide +kernel
theorem dX1_placeOfTop_16 : decode cX1_placeOfTop 16 = .ok (.getfield 22, 3) := by decide +kernel
theorem dX1_placeOfTop_19 : decode cX1_placeOfTop 19 = .ok (.aload_n 0, 1) := by decide +kernel
theorem dX1_placeOfTop_20 : decode cX1_placeOfTop 20 = .ok (.getfield 31, 3) := by decide +kernel
theorem dX1_placeOfTop_23 : decode cX1_placeOfTop 23 = .ok (.iconst 1, 1) := by decide +kernel
theorem dX1_placeOfTop_24 : decode cX1_placeOfTop 24 = .ok (.isub, 1) := by decide +kernel
theorem dX1_placeOfTop_25 : decode cX1_placeOfTop 25 = .ok (.iaload, 1) := by decide +kernel
theorem dX1_placeOfTop_26 : decode cX1_placeOfTop 26 = .ok (.invokevirtual 79, 3) := by decide +kernel
theorem dX1_placeOfTop_29 : decode cX1_placeOfTop 29 = .ok (.ireturn, 1) := by decide +kernel
theorem dX1_isSpentBy_0 : decode cX1_isSpentBy 0 = .ok (.aload_n 0, 1) := by decide +kernel
theorem dX1_isSpentBy_1 : decode cX1_isSpentBy 1 = .ok (.getfield 12, 3) := by decide +kernel
theorem dX1_isSpentBy_4 : decode cX1_isSpentBy 4 = .ok (.getfield 83, 3) := by decide +kernel
theorem dX1_isSpentBy_7 : decode cX1_isSpentBy 7 = .ok (.bipush 100, 2) := by decide +kernel
theorem dX1_isSpentBy_9 : decode cX1_isSpentBy 9 = .ok (.if_icmp .eq 21, 3) := by decide +kernel
theorem dX1_isSpentBy_12 : decode cX1_isSpentBy 12 = .ok (.iload_n 1, 1) := by decide +kernel
theorem dX1_isSpentBy_13 : decode cX1_isSpentBy 13 = .ok (.bipush 12, 2) := by decide +kernel
theorem dX1_isSpentBy_15 : decode cX1_isSpentBy 15 = .ok (.if_icmp .ne 19, 3) := by decide +kernel
theorem dX1_isSpentBy_18 : decode cX1_isSpentBy 18 = .ok (.aload_n 0, 1) := by decide +kernel
theorem dX1_isSpentBy_19 : decode cX1_isSpentBy 19 = .ok (.getfield 12, 3) := by decide +kernel
theorem dX1_isSpentBy_22 : decode cX1_isSpentBy 22 = .ok (.getfield 85, 3) := by decide +kernel
theorem dX1_isSpentBy_25 : decode cX1_isSpentBy 25 = .ok (.bipush 40, 2) := by decide +kernel
theorem dX1_isSpentBy_27 : decode cX1_isSpentBy 27 = .ok (.if_icmp .ne 7, 3) := by decide +kernel
theorem dX1_isSpentBy_30 : decode cX1_isSpentBy 30 = .ok (.iconst 1, 1) := by decide +kernel
theorem dX1_isSpentBy_31 : decode cX1_isSpentBy 31 = .ok (.goto 4, 3) := by decide +kernel
theorem dX1_isSpentBy_34 : decode cX1_isSpentBy 34 = .ok (.iconst 0, 1) := by decide +kernel
theorem dX1_isSpentBy_35 : decode cX1_isSpentBy 35 = .ok (.ireturn, 1) := by decide +kernel
set_option maxRecDepth 20000 in
theorem ggX1_perform_X1_put : GoodIn wsX1_perform wsX1_put := goodIn_r _ [14, 15, 9, 8, 91, 92, 93, 94, 95, 96, 97, 98, 99] (by decide +kernel) (by decide +kernel)
set_option maxRecDepth 20000 in
theorem gX1_perform_X1_put : GoodIn wsX1_perform (wsV RX1 97 RX1 yX1_put wsX1_put) := goodIn_app (goodIn_of _ (by decide +kernel)) ggX1_perform_X1_put
set_option maxRecDepth 20000 in
theorem ggX1_perform_X1_get : GoodIn wsX1_perform wsX1_get := goodIn_r _ [19, 15, 9, 91, 92, 93, 94, 95, 96, 97, 98, 99] (by decide +kernel) (by decide +kernel)
set_option maxRecDepth 20000 in
theorem gX1_perform_X1_get : GoodIn wsX1_perform (wsV RX1 101 RX1 yX1_get wsX1_get) := goodIn_app (goodIn_of _ (by decide +kernel)) ggX1_perform_X1_get
set_option maxRecDepth 20000 in
theorem ggX1_perform_X5_addTell : GoodIn wsX1_perform wsX5_addTell := goodIn_r _ [24, 25, 26, 27, 106, 107, 108, 109, 110, 111, 112, 113, 114, 115, 116, 117, 118] (by decide +kernel) (by decide +kernel)
set_option maxRecDepth 20000 in
theorem gX1_perform_X5_addTell : GoodIn wsX1_perform (wsV RX1 105 RX5 yX5_addTell wsX5_addTell) := goodIn_app (goodIn_of _ (by decide +kernel)) ggX1_perform_X5_addTell
set_option maxRecDepth 20000 in
theorem ggX1_perform_X1_ask : GoodIn wsX1_perform wsX1_ask := goodIn_r _ [31, 1, 32, 33, 9, 34, 35, 36, 37, 38, 39, 40, 41, 42, 13, 43, 5, 44, 45, 46, 23, 47, 48, 49, 50, 51, 52, 53, 54, 55, 56, 57, 58, 59, 60, 61, 62, 63, 64, 65, 26, 10, 11, 12, 14, 15, 8, 66, 67, 68, 69, 70, 71, 91, 92, 93, 94, 95, 96, 97, 98, 99, 100, 101, 102, 103, 104, 105, 106, 107, 108, 109, 110, 111, 112, 113, 114, 115, 116, 117, 118] (by decide +kernel) (by decide +kernel)
set_option maxRecDepth 20000 in
theorem gX1_perform_X1_ask : GoodIn wsX1_perform (wsV RX1 108 RX1 yX1_ask wsX1_ask) := goodIn_app (goodIn_of _ (by decide +kernel)) ggX1_perform_X1_ask
set_option maxRecDepth 20000 in
theorem ggX1_perform_X1_giveBack : GoodIn wsX1_perform wsX1_giveBack := goodIn_r _ [75, 9, 5, 1, 2, 44, 45, 46, 23, 47, 48, 49, 50, 76, 77, 78, 13, 79, 70, 8, 80, 81, 82, 37, 83, 10, 11, 12, 14, 15, 91, 92, 93, 94, 95, 96, 97, 98, 99, 100, 101, 102, 103, 104, 105, 106, 107, 108, 109, 110, 111, 112, 113, 114, 115, 116, 117, 118] (by decide +kernel) (by decide +kernel)
set_option maxRecDepth 20000 in
theorem gX1_perform_X1_giveBack : GoodIn wsX1_perform (wsV RX1 58 RX1 yX1_giveBack wsX1_giveBack) := goodIn_app (goodIn_of _ (by decide +kernel)) ggX1_perform_X1_giveBack
set_option maxRecDepth 20000 in
theorem ggX1_perform_X1_stop : GoodIn wsX1_perform wsX1_stop := goodIn_r _ [43, 9, 5, 44, 45, 46, 23, 47, 48, 49, 50, 91, 92, 93, 94, 95, 96, 97, 98, 99, 106, 107, 108, 109, 110, 111, 112, 113, 114, 115, 116, 117, 118] (by decide +kernel) (by decide +kernel)
set_option maxRecDepth 20000 in
theorem gX1_perform_X1_stop : GoodIn wsX1_perform (wsV RX1 73 RX1 yX1_stop wsX1_stop) := goodIn_app (goodIn_of _ (by decide +kernel)) ggX1_perform_X1_stop
set_option maxRecDepth 20000 in
theorem ggX1_perform_X1_calculate : GoodIn wsX1_perform wsX1_calculate := goodIn_r _ [87, 32, 40, 41, 42, 13, 43, 9, 5, 44, 45, 46, 23, 47, 48, 49, 50, 88, 89, 90, 10, 11, 12, 14, 15, 8, 91, 92, 93, 94, 95, 96, 97, 98, 99, 106, 107, 108, 109, 110, 111, 112, 113, 114, 115, 116, 117, 118] (by decide +kernel) (by decide +kernel)
set_option maxRecDepth 20000 in
theorem gX1_perform_X1_calculate : GoodIn wsX1_perform (wsV RX1 112 RX1 yX1_calculate wsX1_calculate) := goodIn_app (goodIn_of _ (by decide +kernel)) ggX1_perform_X1_calculate
theorem dX1_perform_0 : decode cX1_perform 0 = .ok (.aload_n 0, 1) := by decide +kernel
theorem dX1_perform_1 : decode cX1_perform 1 = .ok (.getfield 35, 3) := by decide +kernel
theorem dX1_perform_4 : decode cX1_perform 4 = .ok (.getfield 88, 3) := by decide +kernel
theorem dX1_perform_7 : decode cX1_perform 7 = .ok (.iload_n 1, 1) := by decide +kernel
theorem dX1_perform_8 : decode cX1_perform 8 = .ok (.iaload, 1) := by decide +kernel
theorem dX1_perform_9 : decode cX1_perform 9 = .ok (.istore_n 2, 1) := by decide +kernel
theorem dX1_perform_10 : decode cX1_perform 10 = .ok (.aload_n 0, 1) := by decide +kernel
theorem dX1_perform_11 : decode cX1_perform 11 = .ok (.getfield 35, 3) := by decide +kernel
theorem dX1_perform_14 : decode cX1_perform 14 = .ok (.getfield 91, 3) := by decide +kernel
theorem dX1_perform_17 : decode cX1_perform 17 = .ok (.iload_n 1, 1) := by decide +kernel
theorem dX1_perform_18 : decode cX1_perform 18 = .ok (.iaload, 1) := by decide +kernel
theorem dX1_perform_19 : decode cX1_perform 19 = .ok (.istore_n 3, 1) := by decide +kernel
theorem dX1_perform_20 : decode cX1_perform 20 = .ok (.aload_n 0, 1) := by decide +kernel
theorem dX1_perform_21 : decode cX1_perform 21 = .ok (.getfield 35, 3) := by decide +kernel
theorem dX1_perform_24 : decode cX1_perform 24 = .ok (.getfield 94, 3) := by decide +kernel
theorem dX1_perform_27 : decode cX1_perform 27 = .ok (.iload_n 1, 1) := by decide +kernel
theorem dX1_perform_28 : decode cX1_perform 28 = .ok (.iaload, 1) := by decide +kernel
theorem dX1_perform_29 : decode cX1_perform 29 = .ok (.istore 4, 2) := by decide +kernel
theorem dX1_perform_31 : decode cX1_perform 31 = .ok (.aload_n 0, 1) := by decide +kernel
theorem dX1_perform_32 : decode cX1_perform 32 = .ok (.getfield 12, 3) := by decide +kernel
theorem dX1_perform_35 : decode cX1_perform 35 = .ok (.dup, 1) := by decide +kernel
theorem dX1_perform_36 : decode cX1_perform 36 = .ok (.getfield 83, 3) := by decide +kernel
theorem dX1_perform_39 : decode cX1_perform 39 = .ok (.iconst 1, 1) := by decide +kernel
theorem dX1_perform_40 : decode cX1_perform 40 = .ok (.iadd, 1) := by decide +kernel
theorem dX1_perform_41 : decode cX1_perform 41 = .ok (.putfield 83, 3) := by decide +kernel
theorem dX1_perform_44 : decode cX1_perform 44 = .ok (.aload_n 0, 1) := by decide +kernel
theorem dX1_perform_45 : decode cX1_perform 45 = .ok (.getfield 35, 3) := by decide +kernel
theorem dX1_perform_48 : decode cX1_perform 48 = .ok (.getfield 62, 3) := by decide +kernel
theorem dX1_perform_51 : decode cX1_perform 51 = .ok (.iload_n 1, 1) := by decide +kernel
theorem dX1_perform_52 : decode cX1_perform 52 = .ok (.iaload, 1) := by decide +kernel
theorem dX1_perform_53 : decode cX1_perform 53 = .ok (.tableswitch 245 0 15 #[79, 88, 245, 245, 245, 245, 245, 245, 245, 245, 101, 140, 155, 186, 219, 231], 79) := by decide +kernel
theorem dX1_perform_132 : decode cX1_perform 132 = .ok (.aload_n 0, 1) := by decide +kernel
theorem dX1_perform_133 : decode cX1_perform 133 = .ok (.iload_n 2, 1) := by decide +kernel
theorem dX1_perform_134 : decode cX1_perform 134 = .ok (.iload_n 3, 1) := by decide +kernel
theorem dX1_perform_135 : decode cX1_perform 135 = .ok (.invokevirtual 97, 3) := by decide +kernel
theorem dX1_perform_138 : decode cX1_perform 138 = .ok (.goto 185, 3) := by decide +kernel
theorem dX1_perform_141 : decode cX1_perform 141 = .ok (.aload_n 0, 1) := by decide +kernel
theorem dX1_perform_142 : decode cX1_perform 142 = .ok (.iload_n 2, 1) := by decide +kernel
theorem dX1_perform_143 : decode cX1_perform 143 = .ok (.aload_n 0, 1) := by decide +kernel
theorem dX1_perform_144 : decode cX1_perform 144 = .ok (.iload_n 3, 1) := by decide +kernel
theorem dX1_perform_145 : decode cX1_perform 145 = .ok (.invokevirtual 101, 3) := by decide +kernel
theorem dX1_perform_148 : decode cX1_perform 148 = .ok (.invokevirtual 97, 3) := by decide +kernel
theorem dX1_perform_151 : decode cX1_perform 151 = .ok (.goto 172, 3) := by decide +kernel
theorem dX1_perform_154 : decode cX1_perform 154 = .ok (.aload_n 0, 1) := by decide +kernel
theorem dX1_perform_155 : decode cX1_perform 155 = .ok (.getfield 22, 3) := by decide +kernel
theorem dX1_perform_158 : decode cX1_perform 158 = .ok (.aload_n 0, 1) := by decide +kernel
theorem dX1_perform_159 : decode cX1_perform 159 = .ok (.getfield 31, 3) := by decide +kernel
theorem dX1_perform_162 : decode cX1_perform 162 = .ok (.iconst 1, 1) := by decide +kernel
theorem dX1_perform_163 : decode cX1_perform 163 = .ok (.isub, 1) := by decide +kernel
theorem dX1_perform_164 : decode cX1_perform 164 = .ok (.aload_n 0, 1) := by decide +kernel
theorem dX1_perform_165 : decode cX1_perform 165 = .ok (.iload_n 2, 1) := by decide +kernel
theorem dX1_perform_166 : decode cX1_perform 166 = .ok (.invokevirtual 101, 3) := by decide +kernel
theorem dX1_perform_169 : decode cX1_perform 169 = .ok (.ifCond .ne 7, 3) := by decide +kernel
theorem dX1_perform_172 : decode cX1_perform 172 = .ok (.iload_n 3, 1) := by decide +kernel
theorem dX1_perform_173 : decode cX1_perform 173 = .ok (.goto 16, 3) := by decide +kernel
theorem dX1_perform_176 : decode cX1_perform 176 = .ok (.aload_n 0, 1) := by decide +kernel
theorem dX1_perform_177 : decode cX1_perform 177 = .ok (.getfield 22, 3) := by decide +kernel
theorem dX1_perform_180 : decode cX1_perform 180 = .ok (.aload_n 0, 1) := by decide +kernel
theorem dX1_perform_181 : decode cX1_perform 181 = .ok (.getfield 31, 3) := by decide +kernel
theorem dX1_perform_184 : decode cX1_perform 184 = .ok (.iconst 1, 1) := by decide +kernel
theorem dX1_perform_185 : decode cX1_perform 185 = .ok (.isub, 1) := by decide +kernel
theorem dX1_perform_186 : decode cX1_perform 186 = .ok (.iaload, 1) := by decide +kernel
theorem dX1_perform_187 : decode cX1_perform 187 = .ok (.iconst 1, 1) := by decide +kernel
theorem dX1_perform_188 : decode cX1_perform 188 = .ok (.iadd, 1) := by decide +kernel
theorem dX1_perform_189 : decode cX1_perform 189 = .ok (.iastore, 1) := by decide +kernel
theorem dX1_perform_190 : decode cX1_perform 190 = .ok (.goto 133, 3) := by decide +kernel
theorem dX1_perform_193 : decode cX1_perform 193 = .ok (.aload_n 0, 1) := by decide +kernel
theorem dX1_perform_194 : decode cX1_perform 194 = .ok (.getfield 22, 3) := by decide +kernel
theorem dX1_perform_197 : decode cX1_perform 197 = .ok (.aload_n 0, 1) := by decide +kernel
theorem dX1_perform_198 : decode cX1_perform 198 = .ok (.getfield 31, 3) := by decide +kernel
theorem dX1_perform_201 : decode cX1_perform 201 = .ok (.iconst 1, 1) := by decide +kernel
theorem dX1_perform_202 : decode cX1_perform 202 = .ok (.isub, 1) := by decide +kernel
theorem dX1_perform_203 : decode cX1_perform 203 = .ok (.iload_n 2, 1) := by decide +kernel
theorem dX1_perform_204 : decode cX1_perform 204 = .ok (.iastore, 1) := by decide +kernel
theorem dX1_perform_205 : decode cX1_perform 205 = .ok (.goto 118, 3) := by decide +kernel
theorem dX1_perform_208 : decode cX1_perform 208 = .ok (.aload_n 0, 1) := by decide +kernel
theorem dX1_perform_209 : decode cX1_perform 209 = .ok (.getfield 12, 3) := by decide +kernel
theorem dX1_perform_212 : decode cX1_perform 212 = .ok (.iload_n 2, 1) := by decide +kernel
theorem dX1_perform_213 : decode cX1_perform 213 = .ok (.aload_n 0, 1) := by decide +kernel
theorem dX1_perform_214 : decode cX1_perform 214 = .ok (.iload_n 3, 1) := by decide +kernel
theorem dX1_perform_215 : decode cX1_perform 215 = .ok (.invokevirtual 101, 3) := by decide +kernel
theorem dX1_perform_218 : decode cX1_perform 218 = .ok (.invokevirtual 105, 3) := by decide +kernel
theorem dX1_perform_221 : decode cX1_perform 221 = .ok (.aload_n 0, 1) := by decide +kernel
theorem dX1_perform_222 : decode cX1_perform 222 = .ok (.getfield 22, 3) := by decide +kernel
theorem dX1_perform_225 : decode cX1_perform 225 = .ok (.aload_n 0, 1) := by decide +kernel
theorem dX1_perform_226 : decode cX1_perform 226 = .ok (.getfield 31, 3) := by decide +kernel
theorem dX1_perform_229 : decode cX1_perform 229 = .ok (.iconst 1, 1) := by decide +kernel
theorem dX1_perform_230 : decode cX1_perform 230 = .ok (.isub, 1) := by decide +kernel
theorem dX1_perform_231 : decode cX1_perform 231 = .ok (.dup2, 1) := by decide +kernel
theorem dX1_perform_232 : decode cX1_perform 232 = .ok (.iaload, 1) := by decide +kernel
theorem dX1_perform_233 : decode cX1_perform 233 = .ok (.iconst 1, 1) := by decide +kernel
theorem dX1_perform_234 : decode cX1_perform 234 = .ok (.iadd, 1) := by decide +kernel
theorem dX1_perform_235 : decode cX1_perform 235 = .ok (.iastore, 1) := by decide +kernel
theorem dX1_perform_236 : decode cX1_perform 236 = .ok (.goto 87, 3) := by decide +kernel
theorem dX1_perform_239 : decode cX1_perform 239 = .ok (.aload_n 0, 1) := by decide +kernel
theorem dX1_perform_240 : decode cX1_perform 240 = .ok (.iload_n 2, 1) := by decide +kernel
theorem dX1_perform_241 : decode cX1_perform 241 = .ok (.iload_n 3, 1) := by decide +kernel
theorem dX1_perform_242 : decode cX1_perform 242 = .ok (.aload_n 0, 1) := by decide +kernel
theorem dX1_perform_243 : decode cX1_perform 243 = .ok (.iload 4, 2) := by decide +kernel
theorem dX1_perform_245 : decode cX1_perform 245 = .ok (.invokevirtual 101, 3) := by decide +kernel
theorem dX1_perform_248 : decode cX1_perform 248 = .ok (.aload_n 0, 1) := by decide +kernel
theorem dX1_perform_249 : decode cX1_perform 249 = .ok (.iload 4, 2) := by decide +kernel
theorem dX1_perform_251 : decode cX1_perform 251 = .ok (.iconst 5, 1) := by decide +kernel
theorem dX1_perform_252 : decode cX1_perform 252 = .ok (.if_icmp .ne 7, 3) := by decide +kernel
theorem dX1_perform_255 : decode cX1_perform 255 = .ok (.iconst 0, 1) := by decide +kernel
theorem dX1_perform_256 : decode cX1_perform 256 = .ok (.goto 7, 3) := by decide +kernel
theorem dX1_perform_259 : decode cX1_perform 259 = .ok (.iload 4, 2) := by decide +kernel
theorem dX1_perform_261 : decode cX1_perform 261 = .ok (.iconst 1, 1) := by decide +kernel
theorem dX1_perform_262 : decode cX1_perform 262 = .ok (.iadd, 1) := by decide +kernel
theorem dX1_perform_263 : decode cX1_perform 263 = .ok (.invokevirtual 101, 3) := by decide +kernel
theorem dX1_perform_266 : decode cX1_perform 266 = .ok (.invokevirtual 108, 3) := by decide +kernel
theorem dX1_perform_269 : decode cX1_perform 269 = .ok (.goto 54, 3) := by decide +kernel
theorem dX1_perform_272 : decode cX1_perform 272 = .ok (.aload_n 0, 1) := by decide +kernel
theorem dX1_perform_273 : decode cX1_perform 273 = .ok (.aload_n 0, 1) := by decide +kernel
theorem dX1_perform_274 : decode cX1_perform 274 = .ok (.iload_n 2, 1) := by decide +kernel
theorem dX1_perform_275 : decode cX1_perform 275 = .ok (.invokevirtual 101, 3) := by decide +kernel
theorem dX1_perform_278 : decode cX1_perform 278 = .ok (.invokevirtual 58, 3) := by decide +kernel
theorem dX1_perform_281 : decode cX1_perform 281 = .ok (.goto 42, 3) := by decide +kernel
theorem dX1_perform_284 : decode cX1_perform 284 = .ok (.aload_n 0, 1) := by decide +kernel
theorem dX1_perform_285 : decode cX1_perform 285 = .ok (.iconst 1, 1) := by decide +kernel
theorem dX1_perform_286 : decode cX1_perform 286 = .ok (.iload_n 2, 1) := by decide +kernel
theorem dX1_perform_287 : decode cX1_perform 287 = .ok (.aload_n 0, 1) := by decide +kernel
theorem dX1_perform_288 : decode cX1_perform 288 = .ok (.iload_n 3, 1) := by decide +kernel
theorem dX1_perform_289 : decode cX1_perform 289 = .ok (.invokevirtual 101, 3) := by decide +kernel
theorem dX1_perform_292 : decode cX1_perform 292 = .ok (.invokevirtual 73, 3) := by decide +kernel
theorem dX1_perform_295 : decode cX1_perform 295 = .ok (.goto 28, 3) := by decide +kernel
theorem dX1_perform_298 : decode cX1_perform 298 = .ok (.aload_n 0, 1) := by decide +kernel
theorem dX1_perform_299 : decode cX1_perform 299 = .ok (.aload_n 0, 1) := by decide +kernel
theorem dX1_perform_300 : decode cX1_perform 300 = .ok (.getfield 35, 3) := by decide +kernel
theorem dX1_perform_303 : decode cX1_perform 303 = .ok (.getfield 62, 3) := by decide +kernel
theorem dX1_perform_306 : decode cX1_perform 306 = .ok (.iload_n 1, 1) := by decide +kernel
theorem dX1_perform_307 : decode cX1_perform 307 = .ok (.iaload, 1) := by decide +kernel
theorem dX1_perform_308 : decode cX1_perform 308 = .ok (.iload_n 2, 1) := by decide +kernel
theorem dX1_perform_309 : decode cX1_perform 309 = .ok (.aload_n 0, 1) := by decide +kernel
theorem dX1_perform_310 : decode cX1_perform 310 = .ok (.iload_n 3, 1) := by decide +kernel
theorem dX1_perform_311 : decode cX1_perform 311 = .ok (.invokevirtual 101, 3) := by decide +kernel
theorem dX1_perform_314 : decode cX1_perform 314 = .ok (.aload_n 0, 1) := by decide +kernel
theorem dX1_perform_315 : decode cX1_perform 315 = .ok (.iload 4, 2) := by decide +kernel
theorem dX1_perform_317 : decode cX1_perform 317 = .ok (.invokevirtual 101, 3) := by decide +kernel
theorem dX1_perform_320 : decode cX1_perform 320 = .ok (.invokevirtual 112, 3) := by decide +kernel
theorem dX1_perform_323 : decode cX1_perform 323 = .ok (.return_, 1) := by decide +kernel
set_option maxRecDepth 20000 in
theorem ggX1_calculate_X1_stop : GoodIn wsX1_calculate wsX1_stop := goodIn_r _ [6, 7, 8, 9, 10, 11, 12, 13, 14, 15, 16, 26, 27, 28, 29, 30, 31, 32, 33, 34, 35, 36, 37, 38, 39, 40, 41, 42, 43, 44, 45, 46, 47] (by decide +kernel) (by decide +kernel)
set_option maxRecDepth 20000 in
theorem gX1_calculate_X1_stop : GoodIn wsX1_calculate (wsV RX1 73 RX1 yX1_stop wsX1_stop) := goodIn_app (goodIn_of _ (by decide +kernel)) ggX1_calculate_X1_stop
set_option maxRecDepth 20000 in
theorem ggX1_calculate_X1_result : GoodIn wsX1_calculate wsX1_result := goodIn_r _ [19] (by decide +kernel) (by decide +kernel)
set_option maxRecDepth 20000 in
theorem gX1_calculate_X1_result : GoodIn wsX1_calculate (va_wsS RX1 115 yX1_result wsX1_result) := goodIn_app (goodIn_of _ (by decide +kernel)) ggX1_calculate_X1_result
set_option maxRecDepth 20000 in
theorem ggX1_calculate_X1_put : GoodIn wsX1_calculate wsX1_put := goodIn_r _ [23, 24, 7, 25, 26, 27, 28, 29, 30, 31, 32, 33, 34] (by decide +kernel) (by decide +kernel)
set_option maxRecDepth 20000 in
theorem gX1_calculate_X1_put : GoodIn wsX1_calculate (wsV RX1 97 RX1 yX1_put wsX1_put) := goodIn_app (goodIn_of _ (by decide +kernel)) ggX1_calculate_X1_put
theorem dX1_calculate_0 : decode cX1_calculate 0 = .ok (.iload 4, 2) := by decide +kernel
theorem dX1_calculate_2 : decode cX1_calculate 2 = .ok (.ifCond .ne 24, 3) := by decide +kernel
theorem dX1_calculate_5 : decode cX1_calculate 5 = .ok (.iload_n 1, 1) := by decide +kernel
theorem dX1_calculate_6 : decode cX1_calculate 6 = .ok (.iconst 5, 1) := by decide +kernel
theorem dX1_calculate_7 : decode cX1_calculate 7 = .ok (.if_icmp .eq 9, 3) := by decide +kernel
theorem dX1_calculate_10 : decode cX1_calculate 10 = .ok (.iload_n 1, 1) := by decide +kernel
theorem dX1_calculate_11 : decode cX1_calculate 11 = .ok (.bipush 6, 2) := by decide +kernel
theorem dX1_calculate_13 : decode cX1_calculate 13 = .ok (.if_icmp .ne 13, 3) := by decide +kernel
theorem dX1_calculate_16 : decode cX1_calculate 16 = .ok (.aload_n 0, 1) := by decide +kernel
theorem dX1_calculate_17 : decode cX1_calculate 17 = .ok (.iconst 1, 1) := by decide +kernel
theorem dX1_calculate_18 : decode cX1_calculate 18 = .ok (.iconst 1, 1) := by decide +kernel
theorem dX1_calculate_19 : decode cX1_calculate 19 = .ok (.iconst 0, 1) := by decide +kernel
theorem dX1_calculate_20 : decode cX1_calculate 20 = .ok (.invokevirtual 73, 3) := by decide +kernel
theorem dX1_calculate_23 : decode cX1_calculate 23 = .ok (.goto 20, 3) := by decide +kernel
theorem dX1_calculate_26 : decode cX1_calculate 26 = .ok (.aload_n 0, 1) := by decide +kernel
theorem dX1_calculate_27 : decode cX1_calculate 27 = .ok (.iload_n 2, 1) := by decide +kernel
theorem dX1_calculate_28 : decode cX1_calculate 28 = .ok (.iload_n 1, 1) := by decide +kernel
theorem dX1_calculate_29 : decode cX1_calculate 29 = .ok (.iload_n 3, 1) := by decide +kernel
theorem dX1_calculate_30 : decode cX1_calculate 30 = .ok (.iload 4, 2) := by decide +kernel
theorem dX1_calculate_32 : decode cX1_calculate 32 = .ok (.invokestatic 115, 3) := by decide +kernel
theorem dX1_calculate_35 : decode cX1_calculate 35 = .ok (.aload_n 0, 1) := by decide +kernel
theorem dX1_calculate_36 : decode cX1_calculate 36 = .ok (.getfield 39, 3) := by decide +kernel
theorem dX1_calculate_39 : decode cX1_calculate 39 = .ok (.iand, 1) := by decide +kernel
theorem dX1_calculate_40 : decode cX1_calculate 40 = .ok (.invokevirtual 97, 3) := by decide +kernel
theorem dX1_calculate_43 : decode cX1_calculate 43 = .ok (.return_, 1) := by decide +kernel
theorem dX1_result_0 : decode cX1_result 0 = .ok (.iload_n 0, 1) := by decide +kernel
theorem dX1_result_1 : decode cX1_result 1 = .ok (.tableswitch 102 2 9 #[47, 51, 55, 59, 71, 83, 87, 91], 47) := by decide +kernel
theorem dX1_result_48 : decode cX1_result 48 = .ok (.iload_n 1, 1) := by decide +kernel
theorem dX1_result_49 : decode cX1_result 49 = .ok (.iload_n 2, 1) := by decide +kernel
theorem dX1_result_50 : decode cX1_result 50 = .ok (.iadd, 1) := by decide +kernel
theorem dX1_result_51 : decode cX1_result 51 = .ok (.ireturn, 1) := by decide +kernel
theorem dX1_result_52 : decode cX1_result 52 = .ok (.iload_n 1, 1) := by decide +kernel
theorem dX1_result_53 : decode cX1_result 53 = .ok (.iload_n 2, 1) := by decide +kernel
theorem dX1_result_54 : decode cX1_result 54 = .ok (.isub, 1) := by decide +kernel
theorem dX1_result_55 : decode cX1_result 55 = .ok (.ireturn, 1) := by decide +kernel
theorem dX1_result_56 : decode cX1_result 56 = .ok (.iload_n 1, 1) := by decide +kernel
theorem dX1_result_57 : decode cX1_result 57 = .ok (.iload_n 2, 1) := by decide +kernel
theorem dX1_result_58 : decode cX1_result 58 = .ok (.imul, 1) := by decide +kernel
theorem dX1_result_59 : decode cX1_result 59 = .ok (.ireturn, 1) := by decide +kernel
theorem dX1_result_60 : decode cX1_result 60 = .ok (.iload_n 2, 1) := by decide +kernel
theorem dX1_result_61 : decode cX1_result 61 = .ok (.ifCond .ne 7, 3) := by decide +kernel
theorem dX1_result_64 : decode cX1_result 64 = .ok (.iconst 0, 1) := by decide +kernel
theorem dX1_result_65 : decode cX1_result 65 = .ok (.goto 6, 3) := by decide +kernel
theorem dX1_result_68 : decode cX1_result 68 = .ok (.iload_n 1, 1) := by decide +kernel
theorem dX1_result_69 : decode cX1_result 69 = .ok (.iload_n 2, 1) := by decide +kernel
theorem dX1_result_70 : decode cX1_result 70 = .ok (.idiv, 1) := by decide +kernel
theorem dX1_result_71 : decode cX1_result 71 = .ok (.ireturn, 1) := by decide +kernel
theorem dX1_result_72 : decode cX1_result 72 = .ok (.iload_n 2, 1) := by decide +kernel
theorem dX1_result_73 : decode cX1_result 73 = .ok (.ifCond .ne 7, 3) := by decide +kernel
theorem dX1_result_76 : decode cX1_result 76 = .ok (.iconst 0, 1) := by decide +kernel
theorem dX1_result_77 : decode cX1_result 77 = .ok (.goto 6, 3) := by decide +kernel
theorem dX1_result_80 : decode cX1_result 80 = .ok (.iload_n 1, 1) := by decide +kernel
theorem dX1_result_81 : decode cX1_result 81 = .ok (.iload_n 2, 1) := by decide +kernel
theorem dX1_result_82 : decode cX1_result 82 = .ok (.irem, 1) := by decide +kernel
theorem dX1_result_83 : decode cX1_result 83 = .ok (.ireturn, 1) := by decide +kernel
theorem dX1_result_84 : decode cX1_result 84 = .ok (.iload_n 1, 1) := by decide +kernel
theorem dX1_result_85 : decode cX1_result 85 = .ok (.iload_n 2, 1) := by decide +kernel
theorem dX1_result_86 : decode cX1_result 86 = .ok (.iand, 1) := by decide +kernel
theorem dX1_result_87 : decode cX1_result 87 = .ok (.ireturn, 1) := by decide +kernel
theorem dX1_result_88 : decode cX1_result 88 = .ok (.iload_n 1, 1) := by decide +kernel
theorem dX1_result_89 : decode cX1_result 89 = .ok (.iload_n 2, 1) := by decide +kernel
theorem dX1_result_90 : decode cX1_result 90 = .ok (.ixor, 1) := by decide +kernel
theorem dX1_result_91 : decode cX1_result 91 = .ok (.ireturn, 1) := by decide +kernel
theorem dX1_result_92 : decode cX1_result 92 = .ok (.iload_n 1, 1) := by decide +kernel
theorem dX1_result_93 : decode cX1_result 93 = .ok (.iload_n 2, 1) := by decide +kernel
theorem dX1_result_94 : decode cX1_result 94 = .ok (.if_icmp .ge 7, 3) := by decide +kernel
theorem dX1_result_97 : decode cX1_result 97 = .ok (.iconst 1, 1) := by decide +kernel
theorem dX1_result_98 : decode cX1_result 98 = .ok (.goto 4, 3) := by decide +kernel
theorem dX1_result_101 : decode cX1_result 101 = .ok (.iconst 0, 1) := by decide +kernel
theorem dX1_result_102 : decode cX1_result 102 = .ok (.ireturn, 1) := by decide +kernel
theorem dX1_result_103 : decode cX1_result 103 = .ok (.iconst 0, 1) := by decide +kernel
theorem dX1_result_104 : decode cX1_result 104 = .ok (.ireturn, 1) := by decide +kernel
set_option maxRecDepth 20000 in
theorem ggX1_ask_X0_has : GoodIn wsX1_ask wsX0_has := goodIn_r _ [9, 10, 62, 63, 64, 65, 66, 67] (by decide +kernel) (by decide +kernel)
set_option maxRecDepth 20000 in
theorem gX1_ask_X0_has : GoodIn wsX1_ask (wsV RX1 119 RX0 yX0_has wsX0_has) := goodIn_app (goodIn_of _ (by decide +kernel)) ggX1_ask_X0_has
set_option maxRecDepth 20000 in
theorem ggX1_ask_X1_stop : GoodIn wsX1_ask wsX1_stop := goodIn_r _ [15, 4, 16, 17, 18, 19, 20, 21, 22, 23, 24, 53, 54, 55, 56, 57, 58, 59, 60, 61, 68, 69, 70, 71, 72, 73, 74, 75, 76, 77, 78, 79, 80] (by decide +kernel) (by decide +kernel)
set_option maxRecDepth 20000 in
theorem gX1_ask_X1_stop : GoodIn wsX1_ask (wsV RX1 73 RX1 yX1_stop wsX1_stop) := goodIn_app (goodIn_of _ (by decide +kernel)) ggX1_ask_X1_stop
set_option maxRecDepth 20000 in
theorem ggX1_ask_X1_answer : GoodIn wsX1_ask wsX1_answer := goodIn_r _ [28, 16, 29, 30, 2, 11, 12, 13, 14, 15, 4, 17, 18, 19, 20, 21, 22, 23, 24, 31, 32, 33, 34, 35, 36, 37, 38, 39, 40, 41, 42, 43, 44, 45, 46, 53, 54, 55, 56, 57, 58, 59, 60, 61, 68, 69, 70, 71, 72, 73, 74, 75, 76, 77, 78, 79, 80] (by decide +kernel) (by decide +kernel)
set_option maxRecDepth 20000 in
theorem gX1_ask_X1_answer : GoodIn wsX1_ask (wsV RX1 122 RX1 yX1_answer wsX1_answer) := goodIn_app (goodIn_of _ (by decide +kernel)) ggX1_ask_X1_answer
set_option maxRecDepth 20000 in
theorem ggX1_ask_X1_enter : GoodIn wsX1_ask wsX1_enter := goodIn_r _ [50, 4, 45, 46, 51, 16, 52, 53, 54, 55, 56, 57, 58, 59, 60, 61, 68, 69, 70, 71, 72, 73, 74, 75, 76, 77, 78, 79, 80] (by decide +kernel) (by decide +kernel)
set_option maxRecDepth 20000 in
theorem gX1_ask_X1_enter : GoodIn wsX1_ask (wsV RX1 49 RX1 yX1_enter wsX1_enter) := goodIn_app (goodIn_of _ (by decide +kernel)) ggX1_ask_X1_enter
theorem dX1_ask_0 : decode cX1_ask 0 = .ok (.aload_n 0, 1) := by decide +kernel
theorem dX1_ask_1 : decode cX1_ask 1 = .ok (.getfield 35, 3) := by decide +kernel
theorem dX1_ask_4 : decode cX1_ask 4 = .ok (.iload_n 2, 1) := by decide +kernel
theorem dX1_ask_5 : decode cX1_ask 5 = .ok (.invokevirtual 119, 3) := by decide +kernel
theorem dX1_ask_8 : decode cX1_ask 8 = .ok (.ifCond .ne 19, 3) := by decide +kernel
theorem dX1_ask_11 : decode cX1_ask 11 = .ok (.aload_n 0, 1) := by decide +kernel
theorem dX1_ask_12 : decode cX1_ask 12 = .ok (.iconst 1, 1) := by decide +kernel
theorem dX1_ask_13 : decode cX1_ask 13 = .ok (.bipush 8, 2) := by decide +kernel
theorem dX1_ask_15 : decode cX1_ask 15 = .ok (.iload_n 2, 1) := by decide +kernel
theorem dX1_ask_16 : decode cX1_ask 16 = .ok (.aload_n 0, 1) := by decide +kernel
theorem dX1_ask_17 : decode cX1_ask 17 = .ok (.getfield 39, 3) := by decide +kernel
theorem dX1_ask_20 : decode cX1_ask 20 = .ok (.iand, 1) := by decide +kernel
theorem dX1_ask_21 : decode cX1_ask 21 = .ok (.invokevirtual 73, 3) := by decide +kernel
theorem dX1_ask_24 : decode cX1_ask 24 = .ok (.goto 49, 3) := by decide +kernel
theorem dX1_ask_27 : decode cX1_ask 27 = .ok (.aload_n 0, 1) := by decide +kernel
theorem dX1_ask_28 : decode cX1_ask 28 = .ok (.getfield 42, 3) := by decide +kernel
theorem dX1_ask_31 : decode cX1_ask 31 = .ok (.ifCond .eq 15, 3) := by decide +kernel
theorem dX1_ask_34 : decode cX1_ask 34 = .ok (.aload_n 0, 1) := by decide +kernel
theorem dX1_ask_35 : decode cX1_ask 35 = .ok (.iload_n 1, 1) := by decide +kernel
theorem dX1_ask_36 : decode cX1_ask 36 = .ok (.iload_n 2, 1) := by decide +kernel
theorem dX1_ask_37 : decode cX1_ask 37 = .ok (.iload_n 3, 1) := by decide +kernel
theorem dX1_ask_38 : decode cX1_ask 38 = .ok (.iload 4, 2) := by decide +kernel
theorem dX1_ask_40 : decode cX1_ask 40 = .ok (.invokevirtual 122, 3) := by decide +kernel
theorem dX1_ask_43 : decode cX1_ask 43 = .ok (.goto 30, 3) := by decide +kernel
theorem dX1_ask_46 : decode cX1_ask 46 = .ok (.aload_n 0, 1) := by decide +kernel
theorem dX1_ask_47 : decode cX1_ask 47 = .ok (.getfield 31, 3) := by decide +kernel
theorem dX1_ask_50 : decode cX1_ask 50 = .ok (.bipush 8, 2) := by decide +kernel
theorem dX1_ask_52 : decode cX1_ask 52 = .ok (.if_icmp .ne 13, 3) := by decide +kernel
theorem dX1_ask_55 : decode cX1_ask 55 = .ok (.aload_n 0, 1) := by decide +kernel
theorem dX1_ask_56 : decode cX1_ask 56 = .ok (.iconst 2, 1) := by decide +kernel
theorem dX1_ask_57 : decode cX1_ask 57 = .ok (.iconst 0, 1) := by decide +kernel
theorem dX1_ask_58 : decode cX1_ask 58 = .ok (.iconst 0, 1) := by decide +kernel
theorem dX1_ask_59 : decode cX1_ask 59 = .ok (.invokevirtual 73, 3) := by decide +kernel
theorem dX1_ask_62 : decode cX1_ask 62 = .ok (.goto 11, 3) := by decide +kernel
theorem dX1_ask_65 : decode cX1_ask 65 = .ok (.aload_n 0, 1) := by decide +kernel
theorem dX1_ask_66 : decode cX1_ask 66 = .ok (.iload_n 2, 1) := by decide +kernel
theorem dX1_ask_67 : decode cX1_ask 67 = .ok (.iload_n 3, 1) := by decide +kernel
theorem dX1_ask_68 : decode cX1_ask 68 = .ok (.iload 4, 2) := by decide +kernel
theorem dX1_ask_70 : decode cX1_ask 70 = .ok (.invokevirtual 49, 3) := by decide +kernel
theorem dX1_ask_73 : decode cX1_ask 73 = .ok (.return_, 1) := by decide +kernel
set_option maxRecDepth 20000 in
theorem ggX1_answer_X1_stop : GoodIn wsX1_answer wsX1_stop := goodIn_r _ [9, 10, 1, 11, 12, 13, 14, 15, 16, 17, 18, 35, 36, 37, 38, 39, 40, 41, 42, 43, 44, 45, 46, 47, 48, 49, 50, 51, 52, 53, 54, 55, 56] (by decide +kernel) (by decide +kernel)
set_option maxRecDepth 20000 in
theorem gX1_answer_X1_stop : GoodIn wsX1_answer (wsV RX1 73 RX1 yX1_stop wsX1_stop) := goodIn_app (goodIn_of _ (by decide +kernel)) ggX1_answer_X1_stop
set_option maxRecDepth 20000 in
theorem ggX1_answer_X5_addCalling : GoodIn wsX1_answer wsX5_addCalling := goodIn_r _ [22, 23, 24, 25, 26, 27, 28, 44, 45, 46, 47, 48, 49, 50, 51, 52, 53, 54, 55, 56] (by decide +kernel) (by decide +kernel)
set_option maxRecDepth 20000 in
theorem gX1_answer_X5_addCalling : GoodIn wsX1_answer (wsV RX1 128 RX5 yX5_addCalling wsX5_addCalling) := goodIn_app (goodIn_of _ (by decide +kernel)) ggX1_answer_X5_addCalling
set_option maxRecDepth 20000 in
theorem ggX1_answer_X1_put : GoodIn wsX1_answer wsX1_put := goodIn_r _ [32, 33, 10, 34, 35, 36, 37, 38, 39, 40, 41, 42, 43] (by decide +kernel) (by decide +kernel)
set_option maxRecDepth 20000 in
theorem gX1_answer_X1_put : GoodIn wsX1_answer (wsV RX1 97 RX1 yX1_put wsX1_put) := goodIn_app (goodIn_of _ (by decide +kernel)) ggX1_answer_X1_put
theorem dX1_answer_0 : decode cX1_answer 0 = .ok (.aload_n 0, 1) := by decide +kernel
theorem dX1_answer_1 : decode cX1_answer 1 = .ok (.getfield 12, 3) := by decide +kernel
theorem dX1_answer_4 : decode cX1_answer 4 = .ok (.getfield 125, 3) := by decide +kernel
theorem dX1_answer_7 : decode cX1_answer 7 = .ok (.iconst 2, 1) := by decide +kernel
theorem dX1_answer_8 : decode cX1_answer 8 = .ok (.if_icmp .ne 11, 3) := by decide +kernel
theorem dX1_answer_11 : decode cX1_answer 11 = .ok (.aload_n 0, 1) := by decide +kernel
theorem dX1_answer_12 : decode cX1_answer 12 = .ok (.iconst 2, 1) := by decide +kernel
theorem dX1_answer_13 : decode cX1_answer 13 = .ok (.iconst 0, 1) := by decide +kernel
theorem dX1_answer_14 : decode cX1_answer 14 = .ok (.iconst 0, 1) := by decide +kernel
theorem dX1_answer_15 : decode cX1_answer 15 = .ok (.invokevirtual 73, 3) := by decide +kernel
theorem dX1_answer_18 : decode cX1_answer 18 = .ok (.return_, 1) := by decide +kernel
theorem dX1_answer_19 : decode cX1_answer 19 = .ok (.aload_n 0, 1) := by decide +kernel
theorem dX1_answer_20 : decode cX1_answer 20 = .ok (.getfield 28, 3) := by decide +kernel
theorem dX1_answer_23 : decode cX1_answer 23 = .ok (.aload_n 0, 1) := by decide +kernel
theorem dX1_answer_24 : decode cX1_answer 24 = .ok (.getfield 12, 3) := by decide +kernel
theorem dX1_answer_27 : decode cX1_answer 27 = .ok (.getfield 125, 3) := by decide +kernel
theorem dX1_answer_30 : decode cX1_answer 30 = .ok (.iaload, 1) := by decide +kernel
theorem dX1_answer_31 : decode cX1_answer 31 = .ok (.istore 5, 2) := by decide +kernel
theorem dX1_answer_33 : decode cX1_answer 33 = .ok (.aload_n 0, 1) := by decide +kernel
theorem dX1_answer_34 : decode cX1_answer 34 = .ok (.getfield 12, 3) := by decide +kernel
theorem dX1_answer_37 : decode cX1_answer 37 = .ok (.iload_n 2, 1) := by decide +kernel
theorem dX1_answer_38 : decode cX1_answer 38 = .ok (.iload_n 3, 1) := by decide +kernel
theorem dX1_answer_39 : decode cX1_answer 39 = .ok (.iload 4, 2) := by decide +kernel
theorem dX1_answer_41 : decode cX1_answer 41 = .ok (.invokevirtual 128, 3) := by decide +kernel
theorem dX1_answer_44 : decode cX1_answer 44 = .ok (.iload 5, 2) := by decide +kernel
theorem dX1_answer_46 : decode cX1_answer 46 = .ok (.aload_n 0, 1) := by decide +kernel
theorem dX1_answer_47 : decode cX1_answer 47 = .ok (.getfield 39, 3) := by decide +kernel
theorem dX1_answer_50 : decode cX1_answer 50 = .ok (.if_icmp .le 14, 3) := by decide +kernel
theorem dX1_answer_53 : decode cX1_answer 53 = .ok (.aload_n 0, 1) := by decide +kernel
theorem dX1_answer_54 : decode cX1_answer 54 = .ok (.iconst 1, 1) := by decide +kernel
theorem dX1_answer_55 : decode cX1_answer 55 = .ok (.bipush 9, 2) := by decide +kernel
theorem dX1_answer_57 : decode cX1_answer 57 = .ok (.iconst 0, 1) := by decide +kernel
theorem dX1_answer_58 : decode cX1_answer 58 = .ok (.invokevirtual 73, 3) := by decide +kernel
theorem dX1_answer_61 : decode cX1_answer 61 = .ok (.goto 10, 3) := by decide +kernel
theorem dX1_answer_64 : decode cX1_answer 64 = .ok (.aload_n 0, 1) := by decide +kernel
theorem dX1_answer_65 : decode cX1_answer 65 = .ok (.iload_n 1, 1) := by decide +kernel
theorem dX1_answer_66 : decode cX1_answer 66 = .ok (.iload 5, 2) := by decide +kernel
theorem dX1_answer_68 : decode cX1_answer 68 = .ok (.invokevirtual 97, 3) := by decide +kernel
theorem dX1_answer_71 : decode cX1_answer 71 = .ok (.return_, 1) := by decide +kernel
theorem dX1_enter_0 : decode cX1_enter 0 = .ok (.aload_n 0, 1) := by decide +kernel
theorem dX1_enter_1 : decode cX1_enter 1 = .ok (.getfield 31, 3) := by decide +kernel
theorem dX1_enter_4 : decode cX1_enter 4 = .ok (.bipush 6, 2) := by decide +kernel
theorem dX1_enter_6 : decode cX1_enter 6 = .ok (.imul, 1) := by decide +kernel
theorem dX1_enter_7 : decode cX1_enter 7 = .ok (.istore 4, 2) := by decide +kernel
theorem dX1_enter_9 : decode cX1_enter 9 = .ok (.iconst 0, 1) := by decide +kernel
theorem dX1_enter_10 : decode cX1_enter 10 = .ok (.istore 5, 2) := by decide +kernel
theorem dX1_enter_12 : decode cX1_enter 12 = .ok (.iload 5, 2) := by decide +kernel
theorem dX1_enter_14 : decode cX1_enter 14 = .ok (.bipush 6, 2) := by decide +kernel
theorem dX1_enter_16 : decode cX1_enter 16 = .ok (.if_icmp .ge 20, 3) := by decide +kernel
theorem dX1_enter_19 : decode cX1_enter 19 = .ok (.aload_n 0, 1) := by decide +kernel
theorem dX1_enter_20 : decode cX1_enter 20 = .ok (.getfield 18, 3) := by decide +kernel
theorem dX1_enter_23 : decode cX1_enter 23 = .ok (.iload 4, 2) := by decide +kernel
theorem dX1_enter_25 : decode cX1_enter 25 = .ok (.iload 5, 2) := by decide +kernel
theorem dX1_enter_27 : decode cX1_enter 27 = .ok (.iadd, 1) := by decide +kernel
theorem dX1_enter_28 : decode cX1_enter 28 = .ok (.iconst 0, 1) := by decide +kernel
theorem dX1_enter_29 : decode cX1_enter 29 = .ok (.iastore, 1) := by decide +kernel
theorem dX1_enter_30 : decode cX1_enter 30 = .ok (.iinc 5 1, 3) := by decide +kernel
theorem dX1_enter_33 : decode cX1_enter 33 = .ok (.goto (-21), 3) := by decide +kernel
theorem dX1_enter_36 : decode cX1_enter 36 = .ok (.aload_n 0, 1) := by decide +kernel
theorem dX1_enter_37 : decode cX1_enter 37 = .ok (.getfield 18, 3) := by decide +kernel
theorem dX1_enter_40 : decode cX1_enter 40 = .ok (.iload 4, 2) := by decide +kernel
theorem dX1_enter_42 : decode cX1_enter 42 = .ok (.iload_n 2, 1) := by decide +kernel
theorem dX1_enter_43 : decode cX1_enter 43 = .ok (.iastore, 1) := by decide +kernel
theorem dX1_enter_44 : decode cX1_enter 44 = .ok (.aload_n 0, 1) := by decide +kernel
theorem dX1_enter_45 : decode cX1_enter 45 = .ok (.getfield 18, 3) := by decide +kernel
theorem dX1_enter_48 : decode cX1_enter 48 = .ok (.iload 4, 2) := by decide +kernel
theorem dX1_enter_50 : decode cX1_enter 50 = .ok (.iconst 1, 1) := by decide +kernel
theorem dX1_enter_51 : decode cX1_enter 51 = .ok (.iadd, 1) := by decide +kernel
theorem dX1_enter_52 : decode cX1_enter 52 = .ok (.iload_n 3, 1) := by decide +kernel
theorem dX1_enter_53 : decode cX1_enter 53 = .ok (.iastore, 1) := by decide +kernel
theorem dX1_enter_54 : decode cX1_enter 54 = .ok (.aload_n 0, 1) := by decide +kernel
theorem dX1_enter_55 : decode cX1_enter 55 = .ok (.getfield 22, 3) := by decide +kernel
theorem dX1_enter_58 : decode cX1_enter 58 = .ok (.aload_n 0, 1) := by decide +kernel
theorem dX1_enter_59 : decode cX1_enter 59 = .ok (.getfield 31, 3) := by decide +kernel
theorem dX1_enter_62 : decode cX1_enter 62 = .ok (.iconst 0, 1) := by decide +kernel
theorem dX1_enter_63 : decode cX1_enter 63 = .ok (.iastore, 1) := by decide +kernel
theorem dX1_enter_64 : decode cX1_enter 64 = .ok (.aload_n 0, 1) := by decide +kernel
theorem dX1_enter_65 : decode cX1_enter 65 = .ok (.getfield 25, 3) := by decide +kernel
theorem dX1_enter_68 : decode cX1_enter 68 = .ok (.aload_n 0, 1) := by decide +kernel
theorem dX1_enter_69 : decode cX1_enter 69 = .ok (.getfield 31, 3) := by decide +kernel
theorem dX1_enter_72 : decode cX1_enter 72 = .ok (.iload_n 1, 1) := by decide +kernel
theorem dX1_enter_73 : decode cX1_enter 73 = .ok (.iastore, 1) := by decide +kernel
theorem dX1_enter_74 : decode cX1_enter 74 = .ok (.aload_n 0, 1) := by decide +kernel
theorem dX1_enter_75 : decode cX1_enter 75 = .ok (.dup, 1) := by decide +kernel
theorem dX1_enter_76 : decode cX1_enter 76 = .ok (.getfield 31, 3) := by decide +kernel
theorem dX1_enter_79 : decode cX1_enter 79 = .ok (.iconst 1, 1) := by decide +kernel
theorem dX1_enter_80 : decode cX1_enter 80 = .ok (.iadd, 1) := by decide +kernel
theorem dX1_enter_81 : decode cX1_enter 81 = .ok (.putfield 31, 3) := by decide +kernel
theorem dX1_enter_84 : decode cX1_enter 84 = .ok (.aload_n 0, 1) := by decide +kernel
theorem dX1_enter_85 : decode cX1_enter 85 = .ok (.getfield 31, 3) := by decide +kernel
theorem dX1_enter_88 : decode cX1_enter 88 = .ok (.aload_n 0, 1) := by decide +kernel
theorem dX1_enter_89 : decode cX1_enter 89 = .ok (.getfield 12, 3) := by decide +kernel
theorem dX1_enter_92 : decode cX1_enter 92 = .ok (.getfield 131, 3) := by decide +kernel
theorem dX1_enter_95 : decode cX1_enter 95 = .ok (.if_icmp .le 14, 3) := by decide +kernel
theorem dX1_enter_98 : decode cX1_enter 98 = .ok (.aload_n 0, 1) := by decide +kernel
theorem dX1_enter_99 : decode cX1_enter 99 = .ok (.getfield 12, 3) := by decide +kernel
theorem dX1_enter_102 : decode cX1_enter 102 = .ok (.aload_n 0, 1) := by decide +kernel
theorem dX1_enter_103 : decode cX1_enter 103 = .ok (.getfield 31, 3) := by decide +kernel
theorem dX1_enter_106 : decode cX1_enter 106 = .ok (.putfield 131, 3) := by decide +kernel
theorem dX1_enter_109 : decode cX1_enter 109 = .ok (.return_, 1) := by decide +kernel
set_option maxRecDepth 20000 in
theorem ggX1_giveBack_X5_finish : GoodIn wsX1_giveBack wsX5_finish := goodIn_r _ [9, 10, 11, 12, 45, 46, 47, 48, 49, 50, 51, 52, 53, 54, 55, 56, 57] (by decide +kernel) (by decide +kernel)
set_option maxRecDepth 20000 in
theorem gX1_giveBack_X5_finish : GoodIn wsX1_giveBack (wsV RX1 134 RX5 yX5_finish wsX5_finish) := goodIn_app (goodIn_of _ (by decide +kernel)) ggX1_giveBack_X5_finish
set_option maxRecDepth 20000 in
theorem ggX1_giveBack_X1_placeOfTop : GoodIn wsX1_giveBack wsX1_placeOfTop := goodIn_r _ [17, 3, 18, 1, 19, 20, 21, 22, 23, 24, 30, 31, 32, 33, 34, 35, 36, 37, 38] (by decide +kernel) (by decide +kernel)
set_option maxRecDepth 20000 in
theorem gX1_giveBack_X1_placeOfTop : GoodIn wsX1_giveBack (wsV RX1 65 RX1 yX1_placeOfTop wsX1_placeOfTop) := goodIn_app (goodIn_of _ (by decide +kernel)) ggX1_giveBack_X1_placeOfTop
set_option maxRecDepth 20000 in
theorem ggX1_giveBack_X1_put : GoodIn wsX1_giveBack wsX1_put := goodIn_r _ [28, 29, 1, 19, 30, 31, 32, 33, 34, 35, 36, 37, 38] (by decide +kernel) (by decide +kernel)
set_option maxRecDepth 20000 in
theorem gX1_giveBack_X1_put : GoodIn wsX1_giveBack (wsV RX1 97 RX1 yX1_put wsX1_put) := goodIn_app (goodIn_of _ (by decide +kernel)) ggX1_giveBack_X1_put
theorem dX1_giveBack_0 : decode cX1_giveBack 0 = .ok (.aload_n 0, 1) := by decide +kernel
theorem dX1_giveBack_1 : decode cX1_giveBack 1 = .ok (.dup, 1) := by decide +kernel
theorem dX1_giveBack_2 : decode cX1_giveBack 2 = .ok (.getfield 31, 3) := by decide +kernel
theorem dX1_giveBack_5 : decode cX1_giveBack 5 = .ok (.iconst 1, 1) := by decide +kernel
theorem dX1_giveBack_6 : decode cX1_giveBack 6 = .ok (.isub, 1) := by decide +kernel
theorem dX1_giveBack_7 : decode cX1_giveBack 7 = .ok (.putfield 31, 3) := by decide +kernel
theorem dX1_giveBack_10 : decode cX1_giveBack 10 = .ok (.aload_n 0, 1) := by decide +kernel
theorem dX1_giveBack_11 : decode cX1_giveBack 11 = .ok (.getfield 31, 3) := by decide +kernel
theorem dX1_giveBack_14 : decode cX1_giveBack 14 = .ok (.ifCond .ne 16, 3) := by decide +kernel
theorem dX1_giveBack_17 : decode cX1_giveBack 17 = .ok (.aload_n 0, 1) := by decide +kernel
theorem dX1_giveBack_18 : decode cX1_giveBack 18 = .ok (.getfield 12, 3) := by decide +kernel
theorem dX1_giveBack_21 : decode cX1_giveBack 21 = .ok (.iconst 0, 1) := by decide +kernel
theorem dX1_giveBack_22 : decode cX1_giveBack 22 = .ok (.iconst 0, 1) := by decide +kernel
theorem dX1_giveBack_23 : decode cX1_giveBack 23 = .ok (.iload_n 1, 1) := by decide +kernel
theorem dX1_giveBack_24 : decode cX1_giveBack 24 = .ok (.invokevirtual 134, 3) := by decide +kernel
theorem dX1_giveBack_27 : decode cX1_giveBack 27 = .ok (.goto 20, 3) := by decide +kernel
theorem dX1_giveBack_30 : decode cX1_giveBack 30 = .ok (.aload_n 0, 1) := by decide +kernel
theorem dX1_giveBack_31 : decode cX1_giveBack 31 = .ok (.aload_n 0, 1) := by decide +kernel
theorem dX1_giveBack_32 : decode cX1_giveBack 32 = .ok (.getfield 35, 3) := by decide +kernel
theorem dX1_giveBack_35 : decode cX1_giveBack 35 = .ok (.getfield 88, 3) := by decide +kernel
theorem dX1_giveBack_38 : decode cX1_giveBack 38 = .ok (.aload_n 0, 1) := by decide +kernel
theorem dX1_giveBack_39 : decode cX1_giveBack 39 = .ok (.invokevirtual 65, 3) := by decide +kernel
theorem dX1_giveBack_42 : decode cX1_giveBack 42 = .ok (.iaload, 1) := by decide +kernel
theorem dX1_giveBack_43 : decode cX1_giveBack 43 = .ok (.iload_n 1, 1) := by decide +kernel
theorem dX1_giveBack_44 : decode cX1_giveBack 44 = .ok (.invokevirtual 97, 3) := by decide +kernel
theorem dX1_giveBack_47 : decode cX1_giveBack 47 = .ok (.return_, 1) := by decide +kernel
set_option maxRecDepth 20000 in
theorem ggX1_stop_X5_finish : GoodIn wsX1_stop wsX5_finish := goodIn_r _ [7, 8, 9, 10, 20, 21, 22, 23, 24, 25, 26, 27, 28, 29, 30, 31, 32] (by decide +kernel) (by decide +kernel)
set_option maxRecDepth 20000 in
theorem gX1_stop_X5_finish : GoodIn wsX1_stop (wsV RX1 134 RX5 yX5_finish wsX5_finish) := goodIn_app (goodIn_of _ (by decide +kernel)) ggX1_stop_X5_finish
theorem dX1_stop_0 : decode cX1_stop 0 = .ok (.aload_n 0, 1) := by decide +kernel
theorem dX1_stop_1 : decode cX1_stop 1 = .ok (.iconst 0, 1) := by decide +kernel
theorem dX1_stop_2 : decode cX1_stop 2 = .ok (.putfield 31, 3) := by decide +kernel
theorem dX1_stop_5 : decode cX1_stop 5 = .ok (.aload_n 0, 1) := by decide +kernel
theorem dX1_stop_6 : decode cX1_stop 6 = .ok (.getfield 12, 3) := by decide +kernel
theorem dX1_stop_9 : decode cX1_stop 9 = .ok (.iload_n 1, 1) := by decide +kernel
theorem dX1_stop_10 : decode cX1_stop 10 = .ok (.iload_n 2, 1) := by decide +kernel
theorem dX1_stop_11 : decode cX1_stop 11 = .ok (.iload_n 3, 1) := by decide +kernel
theorem dX1_stop_12 : decode cX1_stop 12 = .ok (.invokevirtual 134, 3) := by decide +kernel
theorem dX1_stop_15 : decode cX1_stop 15 = .ok (.return_, 1) := by decide +kernel
theorem dX1_get_0 : decode cX1_get 0 = .ok (.aload_n 0, 1) := by decide +kernel
theorem dX1_get_1 : decode cX1_get 1 = .ok (.getfield 18, 3) := by decide +kernel
theorem dX1_get_4 : decode cX1_get 4 = .ok (.aload_n 0, 1) := by decide +kernel
theorem dX1_get_5 : decode cX1_get 5 = .ok (.getfield 31, 3) := by decide +kernel
theorem dX1_get_8 : decode cX1_get 8 = .ok (.iconst 1, 1) := by decide +kernel
theorem dX1_get_9 : decode cX1_get 9 = .ok (.isub, 1) := by decide +kernel
theorem dX1_get_10 : decode cX1_get 10 = .ok (.bipush 6, 2) := by decide +kernel
theorem dX1_get_12 : decode cX1_get 12 = .ok (.imul, 1) := by decide +kernel
theorem dX1_get_13 : decode cX1_get 13 = .ok (.iload_n 1, 1) := by decide +kernel
theorem dX1_get_14 : decode cX1_get 14 = .ok (.iadd, 1) := by decide +kernel
theorem dX1_get_15 : decode cX1_get 15 = .ok (.iaload, 1) := by decide +kernel
theorem dX1_get_16 : decode cX1_get 16 = .ok (.ireturn, 1) := by decide +kernel
theorem dX1_put_0 : decode cX1_put 0 = .ok (.aload_n 0, 1) := by decide +kernel
theorem dX1_put_1 : decode cX1_put 1 = .ok (.getfield 18, 3) := by decide +kernel
theorem dX1_put_4 : decode cX1_put 4 = .ok (.aload_n 0, 1) := by decide +kernel
theorem dX1_put_5 : decode cX1_put 5 = .ok (.getfield 31, 3) := by decide +kernel
theorem dX1_put_8 : decode cX1_put 8 = .ok (.iconst 1, 1) := by decide +kernel
theorem dX1_put_9 : decode cX1_put 9 = .ok (.isub, 1) := by decide +kernel
theorem dX1_put_10 : decode cX1_put 10 = .ok (.bipush 6, 2) := by decide +kernel
theorem dX1_put_12 : decode cX1_put 12 = .ok (.imul, 1) := by decide +kernel
theorem dX1_put_13 : decode cX1_put 13 = .ok (.iload_n 1, 1) := by decide +kernel
theorem dX1_put_14 : decode cX1_put 14 = .ok (.iadd, 1) := by decide +kernel
theorem dX1_put_15 : decode cX1_put 15 = .ok (.iload_n 2, 1) := by decide +kernel
theorem dX1_put_16 : decode cX1_put 16 = .ok (.iastore, 1) := by decide +kernel
theorem dX1_put_17 : decode cX1_put 17 = .ok (.aload_n 0, 1) := by decide +kernel
theorem dX1_put_18 : decode cX1_put 18 = .ok (.getfield 22, 3) := by decide +kernel
theorem dX1_put_21 : decode cX1_put 21 = .ok (.aload_n 0, 1) := by decide +kernel
theorem dX1_put_22 : decode cX1_put 22 = .ok (.getfield 31, 3) := by decide +kernel
theorem dX1_put_25 : decode cX1_put 25 = .ok (.iconst 1, 1) := by decide +kernel
theorem dX1_put_26 : decode cX1_put 26 = .ok (.isub, 1) := by decide +kernel
theorem dX1_put_27 : decode cX1_put 27 = .ok (.dup2, 1) := by decide +kernel
theorem dX1_put_28 : decode cX1_put 28 = .ok (.iaload, 1) := by decide +kernel
theorem dX1_put_29 : decode cX1_put 29 = .ok (.iconst 1, 1) := by decide +kernel
theorem dX1_put_30 : decode cX1_put 30 = .ok (.iadd, 1) := by decide +kernel
theorem dX1_put_31 : decode cX1_put 31 = .ok (.iastore, 1) := by decide +kernel
theorem dX1_put_32 : decode cX1_put 32 = .ok (.return_, 1) := by decide +kernel
theorem dX2_init_0 : decode cX2_init 0 = .ok (.aload_n 0, 1) := by decide +kernel
theorem dX2_init_1 : decode cX2_init 1 = .ok (.invokespecial 3, 3) := by decide +kernel
theorem dX2_init_4 : decode cX2_init 4 = .ok (.aload_n 0, 1) := by decide +kernel
theorem dX2_init_5 : decode cX2_init 5 = .ok (.iconst 0, 1) := by decide +kernel
theorem dX2_init_6 : decode cX2_init 6 = .ok (.putfield 9, 3) := by decide +kernel
theorem dX2_init_9 : decode cX2_init 9 = .ok (.aload_n 0, 1) := by decide +kernel
theorem dX2_init_10 : decode cX2_init 10 = .ok (.bipush 6, 2) := by decide +kernel
theorem dX2_init_12 : decode cX2_init 12 = .ok (.newarray .int, 2) := by decide +kernel
theorem dX2_init_14 : decode cX2_init 14 = .ok (.putfield 15, 3) := by decide +kernel
theorem dX2_init_17 : decode cX2_init 17 = .ok (.aload_n 0, 1) := by decide +kernel
theorem dX2_init_18 : decode cX2_init 18 = .ok (.bipush 6, 2) := by decide +kernel
theorem dX2_init_20 : decode cX2_init 20 = .ok (.newarray .int, 2) := by decide +kernel
theorem dX2_init_22 : decode cX2_init 22 = .ok (.putfield 19, 3) := by decide +kernel
theorem dX2_init_25 : decode cX2_init 25 = .ok (.return_, 1) := by decide +kernel
theorem dX2_has_0 : decode cX2_has 0 = .ok (.iconst 0, 1) := by decide +kernel
theorem dX2_has_1 : decode cX2_has 1 = .ok (.istore_n 3, 1) := by decide +kernel
theorem dX2_has_2 : decode cX2_has 2 = .ok (.iload_n 3, 1) := by decide +kernel
theorem dX2_has_3 : decode cX2_has 3 = .ok (.aload_n 0, 1) := by decide +kernel
theorem dX2_has_4 : decode cX2_has 4 = .ok (.getfield 9, 3) := by decide +kernel
theorem dX2_has_7 : decode cX2_has 7 = .ok (.if_icmp .ge 31, 3) := by decide +kernel
theorem dX2_has_10 : decode cX2_has 10 = .ok (.aload_n 0, 1) := by decide +kernel
theorem dX2_has_11 : decode cX2_has 11 = .ok (.getfield 15, 3) := by decide +kernel
theorem dX2_has_14 : decode cX2_has 14 = .ok (.iload_n 3, 1) := by decide +kernel
theorem dX2_has_15 : decode cX2_has 15 = .ok (.iaload, 1) := by decide +kernel
theorem dX2_has_16 : decode cX2_has 16 = .ok (.iload_n 1, 1) := by decide +kernel
theorem dX2_has_17 : decode cX2_has 17 = .ok (.if_icmp .ne 15, 3) := by decide +kernel
theorem dX2_has_20 : decode cX2_has 20 = .ok (.aload_n 0, 1) := by decide +kernel
theorem dX2_has_21 : decode cX2_has 21 = .ok (.getfield 19, 3) := by decide +kernel
theorem dX2_has_24 : decode cX2_has 24 = .ok (.iload_n 3, 1) := by decide +kernel
theorem dX2_has_25 : decode cX2_has 25 = .ok (.iaload, 1) := by decide +kernel
theorem dX2_has_26 : decode cX2_has 26 = .ok (.iload_n 2, 1) := by decide +kernel
theorem dX2_has_27 : decode cX2_has 27 = .ok (.if_icmp .ne 5, 3) := by decide +kernel
theorem dX2_has_30 : decode cX2_has 30 = .ok (.iconst 1, 1) := by decide +kernel
theorem dX2_has_31 : decode cX2_has 31 = .ok (.ireturn, 1) := by decide +kernel
theorem dX2_has_32 : decode cX2_has 32 = .ok (.iinc 3 1, 3) := by decide +kernel
theorem dX2_has_35 : decode cX2_has 35 = .ok (.goto (-33), 3) := by decide +kernel
theorem dX2_has_38 : decode cX2_has 38 = .ok (.iconst 0, 1) := by decide +kernel
theorem dX2_has_39 : decode cX2_has 39 = .ok (.ireturn, 1) := by decide +kernel
theorem dX2_add_0 : decode cX2_add 0 = .ok (.aload_n 0, 1) := by decide +kernel
theorem dX2_add_1 : decode cX2_add 1 = .ok (.getfield 15, 3) := by decide +kernel
theorem dX2_add_4 : decode cX2_add 4 = .ok (.aload_n 0, 1) := by decide +kernel
theorem dX2_add_5 : decode cX2_add 5 = .ok (.getfield 9, 3) := by decide +kernel
theorem dX2_add_8 : decode cX2_add 8 = .ok (.iload_n 1, 1) := by decide +kernel
theorem dX2_add_9 : decode cX2_add 9 = .ok (.iastore, 1) := by decide +kernel
theorem dX2_add_10 : decode cX2_add 10 = .ok (.aload_n 0, 1) := by decide +kernel
theorem dX2_add_11 : decode cX2_add 11 = .ok (.getfield 19, 3) := by decide +kernel
theorem dX2_add_14 : decode cX2_add 14 = .ok (.aload_n 0, 1) := by decide +kernel
theorem dX2_add_15 : decode cX2_add 15 = .ok (.getfield 9, 3) := by decide +kernel
theorem dX2_add_18 : decode cX2_add 18 = .ok (.iload_n 2, 1) := by decide +kernel
theorem dX2_add_19 : decode cX2_add 19 = .ok (.iastore, 1) := by decide +kernel
theorem dX2_add_20 : decode cX2_add 20 = .ok (.aload_n 0, 1) := by decide +kernel
theorem dX2_add_21 : decode cX2_add 21 = .ok (.dup, 1) := by decide +kernel
theorem dX2_add_22 : decode cX2_add 22 = .ok (.getfield 9, 3) := by decide +kernel
theorem dX2_add_25 : decode cX2_add 25 = .ok (.dup_x1, 1) := by decide +kernel
theorem dX2_add_26 : decode cX2_add 26 = .ok (.iconst 1, 1) := by decide +kernel
theorem dX2_add_27 : decode cX2_add 27 = .ok (.iadd, 1) := by decide +kernel
theorem dX2_add_28 : decode cX2_add 28 = .ok (.putfield 9, 3) := by decide +kernel
theorem dX2_add_31 : decode cX2_add 31 = .ok (.ireturn, 1) := by decide +kernel
theorem dX3_init_0 : decode cX3_init 0 = .ok (.aload_n 0, 1) := by decide +kernel
theorem dX3_init_1 : decode cX3_init 1 = .ok (.invokespecial 3, 3) := by decide +kernel
theorem dX3_init_4 : decode cX3_init 4 = .ok (.aload_n 0, 1) := by decide +kernel
theorem dX3_init_5 : decode cX3_init 5 = .ok (.iconst 4, 1) := by decide +kernel
theorem dX3_init_6 : decode cX3_init 6 = .ok (.newarray .int, 2) := by decide +kernel
theorem dX3_init_8 : decode cX3_init 8 = .ok (.dup, 1) := by decide +kernel
theorem dX3_init_9 : decode cX3_init 9 = .ok (.iconst 0, 1) := by decide +kernel
theorem dX3_init_10 : decode cX3_init 10 = .ok (.iconst 0, 1) := by decide +kernel
theorem dX3_init_11 : decode cX3_init 11 = .ok (.iastore, 1) := by decide +kernel
theorem dX3_init_12 : decode cX3_init 12 = .ok (.dup, 1) := by decide +kernel
theorem dX3_init_13 : decode cX3_init 13 = .ok (.iconst 1, 1) := by decide +kernel
theorem dX3_init_14 : decode cX3_init 14 = .ok (.iconst 1, 1) := by decide +kernel
theorem dX3_init_15 : decode cX3_init 15 = .ok (.iastore, 1) := by decide +kernel
theorem dX3_init_16 : decode cX3_init 16 = .ok (.dup, 1) := by decide +kernel
theorem dX3_init_17 : decode cX3_init 17 = .ok (.iconst 2, 1) := by decide +kernel
theorem dX3_init_18 : decode cX3_init 18 = .ok (.iconst 2, 1) := by decide +kernel
theorem dX3_init_19 : decode cX3_init 19 = .ok (.iastore, 1) := by decide +kernel
theorem dX3_init_20 : decode cX3_init 20 = .ok (.dup, 1) := by decide +kernel
theorem dX3_init_21 : decode cX3_init 21 = .ok (.iconst 3, 1) := by decide +kernel
theorem dX3_init_22 : decode cX3_init 22 = .ok (.iconst 3, 1) := by decide +kernel
theorem dX3_init_23 : decode cX3_init 23 = .ok (.iastore, 1) := by decide +kernel
theorem dX3_init_24 : decode cX3_init 24 = .ok (.putfield 9, 3) := by decide +kernel
theorem dX3_init_27 : decode cX3_init 27 = .ok (.aload_n 0, 1) := by decide +kernel
theorem dX3_init_28 : decode cX3_init 28 = .ok (.iconst 4, 1) := by decide +kernel
theorem dX3_init_29 : decode cX3_init 29 = .ok (.newarray .int, 2) := by decide +kernel
theorem dX3_init_31 : decode cX3_init 31 = .ok (.putfield 15, 3) := by decide +kernel
theorem dX3_init_34 : decode cX3_init 34 = .ok (.aload_n 0, 1) := by decide +kernel
theorem dX3_init_35 : decode cX3_init 35 = .ok (.iconst 4, 1) := by decide +kernel
theorem dX3_init_36 : decode cX3_init 36 = .ok (.newarray .int, 2) := by decide +kernel
theorem dX3_init_38 : decode cX3_init 38 = .ok (.dup, 1) := by decide +kernel
theorem dX3_init_39 : decode cX3_init 39 = .ok (.iconst 0, 1) := by decide +kernel
theorem dX3_init_40 : decode cX3_init 40 = .ok (.iconst 0, 1) := by decide +kernel
theorem dX3_init_41 : decode cX3_init 41 = .ok (.iastore, 1) := by decide +kernel
theorem dX3_init_42 : decode cX3_init 42 = .ok (.dup, 1) := by decide +kernel
theorem dX3_init_43 : decode cX3_init 43 = .ok (.iconst 1, 1) := by decide +kernel
theorem dX3_init_44 : decode cX3_init 44 = .ok (.iconst 1, 1) := by decide +kernel
theorem dX3_init_45 : decode cX3_init 45 = .ok (.iastore, 1) := by decide +kernel
theorem dX3_init_46 : decode cX3_init 46 = .ok (.dup, 1) := by decide +kernel
theorem dX3_init_47 : decode cX3_init 47 = .ok (.iconst 2, 1) := by decide +kernel
theorem dX3_init_48 : decode cX3_init 48 = .ok (.iconst 2, 1) := by decide +kernel
theorem dX3_init_49 : decode cX3_init 49 = .ok (.iastore, 1) := by decide +kernel
theorem dX3_init_50 : decode cX3_init 50 = .ok (.dup, 1) := by decide +kernel
theorem dX3_init_51 : decode cX3_init 51 = .ok (.iconst 3, 1) := by decide +kernel
theorem dX3_init_52 : decode cX3_init 52 = .ok (.iconst 3, 1) := by decide +kernel
theorem dX3_init_53 : decode cX3_init 53 = .ok (.iastore, 1) := by decide +kernel
theorem dX3_init_54 : decode cX3_init 54 = .ok (.putfield 18, 3) := by decide +kernel
theorem dX3_init_57 : decode cX3_init 57 = .ok (.return_, 1) := by decide +kernel
set_option maxRecDepth 20000 in
theorem ggX3_swapIn_X3_name : GoodIn wsX3_swapIn wsX3_name := goodIn_r _ [7, 1, 2, 8, 9, 10] (by decide +kernel) (by decide +kernel)
set_option maxRecDepth 20000 in
theorem gX3_swapIn_X3_name : GoodIn wsX3_swapIn (wsV RX3 21 RX3 yX3_name wsX3_name) := goodIn_app (goodIn_of _ (by decide +kernel)) ggX3_swapIn_X3_name
theorem dX3_swapIn_0 : decode cX3_swapIn 0 = .ok (.aload_n 0, 1) := by decide +kernel
theorem dX3_swapIn_1 : decode cX3_swapIn 1 = .ok (.getfield 9, 3) := by decide +kernel
theorem dX3_swapIn_4 : decode cX3_swapIn 4 = .ok (.iload_n 1, 1) := by decide +kernel
theorem dX3_swapIn_5 : decode cX3_swapIn 5 = .ok (.iaload, 1) := by decide +kernel
theorem dX3_swapIn_6 : decode cX3_swapIn 6 = .ok (.istore_n 3, 1) := by decide +kernel
theorem dX3_swapIn_7 : decode cX3_swapIn 7 = .ok (.aload_n 0, 1) := by decide +kernel
theorem dX3_swapIn_8 : decode cX3_swapIn 8 = .ok (.aload_n 0, 1) := by decide +kernel
theorem dX3_swapIn_9 : decode cX3_swapIn 9 = .ok (.getfield 18, 3) := by decide +kernel
theorem dX3_swapIn_12 : decode cX3_swapIn 12 = .ok (.iload_n 2, 1) := by decide +kernel
theorem dX3_swapIn_13 : decode cX3_swapIn 13 = .ok (.iaload, 1) := by decide +kernel
theorem dX3_swapIn_14 : decode cX3_swapIn 14 = .ok (.iload_n 3, 1) := by decide +kernel
theorem dX3_swapIn_15 : decode cX3_swapIn 15 = .ok (.invokevirtual 21, 3) := by decide +kernel
theorem dX3_swapIn_18 : decode cX3_swapIn 18 = .ok (.aload_n 0, 1) := by decide +kernel
theorem dX3_swapIn_19 : decode cX3_swapIn 19 = .ok (.iload_n 1, 1) := by decide +kernel
theorem dX3_swapIn_20 : decode cX3_swapIn 20 = .ok (.iload_n 2, 1) := by decide +kernel
theorem dX3_swapIn_21 : decode cX3_swapIn 21 = .ok (.invokevirtual 21, 3) := by decide +kernel
theorem dX3_swapIn_24 : decode cX3_swapIn 24 = .ok (.iload_n 3, 1) := by decide +kernel
theorem dX3_swapIn_25 : decode cX3_swapIn 25 = .ok (.ireturn, 1) := by decide +kernel
set_option maxRecDepth 20000 in
theorem ggX3_takeNames_X3_name : GoodIn wsX3_takeNames wsX3_name := goodIn_r _ [5, 6, 7, 8, 9, 10] (by decide +kernel) (by decide +kernel)
set_option maxRecDepth 20000 in
theorem gX3_takeNames_X3_name : GoodIn wsX3_takeNames (wsV RX3 21 RX3 yX3_name wsX3_name) := goodIn_app (goodIn_of _ (by decide +kernel)) ggX3_takeNames_X3_name
theorem dX3_takeNames_0 : decode cX3_takeNames 0 = .ok (.aload_n 0, 1) := by decide +kernel
theorem dX3_takeNames_1 : decode cX3_takeNames 1 = .ok (.iconst 0, 1) := by decide +kernel
theorem dX3_takeNames_2 : decode cX3_takeNames 2 = .ok (.iload_n 1, 1) := by decide +kernel
theorem dX3_takeNames_3 : decode cX3_takeNames 3 = .ok (.sipush 1000, 3) := by decide +kernel
theorem dX3_takeNames_6 : decode cX3_takeNames 6 = .ok (.idiv, 1) := by decide +kernel
theorem dX3_takeNames_7 : decode cX3_takeNames 7 = .ok (.invokevirtual 21, 3) := by decide +kernel
theorem dX3_takeNames_10 : decode cX3_takeNames 10 = .ok (.aload_n 0, 1) := by decide +kernel
theorem dX3_takeNames_11 : decode cX3_takeNames 11 = .ok (.iconst 1, 1) := by decide +kernel
theorem dX3_takeNames_12 : decode cX3_takeNames 12 = .ok (.iload_n 1, 1) := by decide +kernel
theorem dX3_takeNames_13 : decode cX3_takeNames 13 = .ok (.bipush 100, 2) := by decide +kernel
theorem dX3_takeNames_15 : decode cX3_takeNames 15 = .ok (.idiv, 1) := by decide +kernel
theorem dX3_takeNames_16 : decode cX3_takeNames 16 = .ok (.bipush 10, 2) := by decide +kernel
theorem dX3_takeNames_18 : decode cX3_takeNames 18 = .ok (.irem, 1) := by decide +kernel
theorem dX3_takeNames_19 : decode cX3_takeNames 19 = .ok (.invokevirtual 21, 3) := by decide +kernel
theorem dX3_takeNames_22 : decode cX3_takeNames 22 = .ok (.aload_n 0, 1) := by decide +kernel
theorem dX3_takeNames_23 : decode cX3_takeNames 23 = .ok (.iconst 2, 1) := by decide +kernel
theorem dX3_takeNames_24 : decode cX3_takeNames 24 = .ok (.iload_n 1, 1) := by decide +kernel
theorem dX3_takeNames_25 : decode cX3_takeNames 25 = .ok (.bipush 10, 2) := by decide +kernel
theorem dX3_takeNames_27 : decode cX3_takeNames 27 = .ok (.idiv, 1) := by decide +kernel
theorem dX3_takeNames_28 : decode cX3_takeNames 28 = .ok (.bipush 10, 2) := by decide +kernel
theorem dX3_takeNames_30 : decode cX3_takeNames 30 = .ok (.irem, 1) := by decide +kernel
theorem dX3_takeNames_31 : decode cX3_takeNames 31 = .ok (.invokevirtual 21, 3) := by decide +kernel
theorem dX3_takeNames_34 : decode cX3_takeNames 34 = .ok (.aload_n 0, 1) := by decide +kernel
theorem dX3_takeNames_35 : decode cX3_takeNames 35 = .ok (.iconst 3, 1) := by decide +kernel
theorem dX3_takeNames_36 : decode cX3_takeNames 36 = .ok (.iload_n 1, 1) := by decide +kernel
theorem dX3_takeNames_37 : decode cX3_takeNames 37 = .ok (.bipush 10, 2) := by decide +kernel
theorem dX3_takeNames_39 : decode cX3_takeNames 39 = .ok (.irem, 1) := by decide +kernel
theorem dX3_takeNames_40 : decode cX3_takeNames 40 = .ok (.invokevirtual 21, 3) := by decide +kernel
theorem dX3_takeNames_43 : decode cX3_takeNames 43 = .ok (.return_, 1) := by decide +kernel
theorem dX3_takeGroups_0 : decode cX3_takeGroups 0 = .ok (.aload_n 1, 1) := by decide +kernel
theorem dX3_takeGroups_1 : decode cX3_takeGroups 1 = .ok (.getfield 15, 3) := by decide +kernel
theorem dX3_takeGroups_4 : decode cX3_takeGroups 4 = .ok (.iconst 0, 1) := by decide +kernel
theorem dX3_takeGroups_5 : decode cX3_takeGroups 5 = .ok (.aload_n 0, 1) := by decide +kernel
theorem dX3_takeGroups_6 : decode cX3_takeGroups 6 = .ok (.getfield 15, 3) := by decide +kernel
theorem dX3_takeGroups_9 : decode cX3_takeGroups 9 = .ok (.iconst 0, 1) := by decide +kernel
theorem dX3_takeGroups_10 : decode cX3_takeGroups 10 = .ok (.iconst 4, 1) := by decide +kernel
theorem dX3_takeGroups_11 : decode cX3_takeGroups 11 = .ok (.invokestatic 25, 3) := by decide +kernel
theorem dX3_takeGroups_14 : decode cX3_takeGroups 14 = .ok (.return_, 1) := by decide +kernel
theorem dX3_name_0 : decode cX3_name 0 = .ok (.aload_n 0, 1) := by decide +kernel
theorem dX3_name_1 : decode cX3_name 1 = .ok (.getfield 9, 3) := by decide +kernel
theorem dX3_name_4 : decode cX3_name 4 = .ok (.iload_n 1, 1) := by decide +kernel
theorem dX3_name_5 : decode cX3_name 5 = .ok (.iload_n 2, 1) := by decide +kernel
theorem dX3_name_6 : decode cX3_name 6 = .ok (.iastore, 1) := by decide +kernel
theorem dX3_name_7 : decode cX3_name 7 = .ok (.aload_n 0, 1) := by decide +kernel
theorem dX3_name_8 : decode cX3_name 8 = .ok (.getfield 18, 3) := by decide +kernel
theorem dX3_name_11 : decode cX3_name 11 = .ok (.iload_n 2, 1) := by decide +kernel
theorem dX3_name_12 : decode cX3_name 12 = .ok (.iload_n 1, 1) := by decide +kernel
theorem dX3_name_13 : decode cX3_name 13 = .ok (.iastore, 1) := by decide +kernel
theorem dX3_name_14 : decode cX3_name 14 = .ok (.return_, 1) := by decide +kernel
set_option maxRecDepth 20000 in
theorem ggX3_alike_X3_alikeIn : GoodIn wsX3_alike wsX3_alikeIn := goodIn_r _ [5, 6, 7, 8, 9, 10, 11, 12, 4, 13, 14, 15, 16, 17, 18, 19, 20, 21, 22, 23, 24, 25, 26, 27, 28, 29] (by decide +kernel) (by decide +kernel)
set_option maxRecDepth 20000 in
theorem gX3_alike_X3_alikeIn : GoodIn wsX3_alike (wsV RX3 31 RX3 yX3_alikeIn wsX3_alikeIn) := goodIn_app (goodIn_of _ (by decide +kernel)) ggX3_alike_X3_alikeIn
theorem dX3_alike_0 : decode cX3_alike 0 = .ok (.iload_n 3, 1) := by decide +kernel
theorem dX3_alike_1 : decode cX3_alike 1 = .ok (.iload_n 2, 1) := by decide +kernel
theorem dX3_alike_2 : decode cX3_alike 2 = .ok (.isub, 1) := by decide +kernel
theorem dX3_alike_3 : decode cX3_alike 3 = .ok (.iload 6, 2) := by decide +kernel
theorem dX3_alike_5 : decode cX3_alike 5 = .ok (.iload 5, 2) := by decide +kernel
theorem dX3_alike_7 : decode cX3_alike 7 = .ok (.isub, 1) := by decide +kernel
theorem dX3_alike_8 : decode cX3_alike 8 = .ok (.if_icmp .eq 5, 3) := by decide +kernel
theorem dX3_alike_11 : decode cX3_alike 11 = .ok (.iconst 0, 1) := by decide +kernel
theorem dX3_alike_12 : decode cX3_alike 12 = .ok (.ireturn, 1) := by decide +kernel
theorem dX3_alike_13 : decode cX3_alike 13 = .ok (.iconst 0, 1) := by decide +kernel
theorem dX3_alike_14 : decode cX3_alike 14 = .ok (.istore 7, 2) := by decide +kernel
theorem dX3_alike_16 : decode cX3_alike 16 = .ok (.iload 7, 2) := by decide +kernel
theorem dX3_alike_18 : decode cX3_alike 18 = .ok (.iconst 4, 1) := by decide +kernel
theorem dX3_alike_19 : decode cX3_alike 19 = .ok (.if_icmp .ge 29, 3) := by decide +kernel
theorem dX3_alike_22 : decode cX3_alike 22 = .ok (.aload_n 0, 1) := by decide +kernel
theorem dX3_alike_23 : decode cX3_alike 23 = .ok (.iload 7, 2) := by decide +kernel
theorem dX3_alike_25 : decode cX3_alike 25 = .ok (.aload_n 1, 1) := by decide +kernel
theorem dX3_alike_26 : decode cX3_alike 26 = .ok (.iload_n 2, 1) := by decide +kernel
theorem dX3_alike_27 : decode cX3_alike 27 = .ok (.aload 4, 2) := by decide +kernel
theorem dX3_alike_29 : decode cX3_alike 29 = .ok (.iload 5, 2) := by decide +kernel
theorem dX3_alike_31 : decode cX3_alike 31 = .ok (.iload_n 3, 1) := by decide +kernel
theorem dX3_alike_32 : decode cX3_alike 32 = .ok (.iload_n 2, 1) := by decide +kernel
theorem dX3_alike_33 : decode cX3_alike 33 = .ok (.isub, 1) := by decide +kernel
theorem dX3_alike_34 : decode cX3_alike 34 = .ok (.invokevirtual 31, 3) := by decide +kernel
theorem dX3_alike_37 : decode cX3_alike 37 = .ok (.ifCond .ne 5, 3) := by decide +kernel
theorem dX3_alike_40 : decode cX3_alike 40 = .ok (.iconst 0, 1) := by decide +kernel
theorem dX3_alike_41 : decode cX3_alike 41 = .ok (.ireturn, 1) := by decide +kernel
theorem dX3_alike_42 : decode cX3_alike 42 = .ok (.iinc 7 1, 3) := by decide +kernel
theorem dX3_alike_45 : decode cX3_alike 45 = .ok (.goto (-29), 3) := by decide +kernel
theorem dX3_alike_48 : decode cX3_alike 48 = .ok (.iconst 1, 1) := by decide +kernel
theorem dX3_alike_49 : decode cX3_alike 49 = .ok (.ireturn, 1) := by decide +kernel
set_option maxRecDepth 20000 in
theorem ggX3_alikeIn_X3_nextIn : GoodIn wsX3_alikeIn wsX3_nextIn := goodIn_r _ [9, 2, 3, 1, 23, 24, 25, 10, 11, 12, 13, 14, 15, 16, 17, 18, 19, 20, 21, 22] (by decide +kernel) (by decide +kernel)
set_option maxRecDepth 20000 in
theorem gX3_alikeIn_X3_nextIn : GoodIn wsX3_alikeIn (wsV RX3 40 RX3 yX3_nextIn wsX3_nextIn) := goodIn_app (goodIn_of _ (by decide +kernel)) ggX3_alikeIn_X3_nextIn
theorem dX3_alikeIn_0 : decode cX3_alikeIn 0 = .ok (.iload 5, 2) := by decide +kernel
theorem dX3_alikeIn_2 : decode cX3_alikeIn 2 = .ok (.istore 7, 2) := by decide +kernel
theorem dX3_alikeIn_4 : decode cX3_alikeIn 4 = .ok (.iload 5, 2) := by decide +kernel
theorem dX3_alikeIn_6 : decode cX3_alikeIn 6 = .ok (.iload 6, 2) := by decide +kernel
theorem dX3_alikeIn_8 : decode cX3_alikeIn 8 = .ok (.iadd, 1) := by decide +kernel
theorem dX3_alikeIn_9 : decode cX3_alikeIn 9 = .ok (.istore 8, 2) := by decide +kernel
theorem dX3_alikeIn_11 : decode cX3_alikeIn 11 = .ok (.iload_n 3, 1) := by decide +kernel
theorem dX3_alikeIn_12 : decode cX3_alikeIn 12 = .ok (.istore 9, 2) := by decide +kernel
theorem dX3_alikeIn_14 : decode cX3_alikeIn 14 = .ok (.iload 9, 2) := by decide +kernel
theorem dX3_alikeIn_16 : decode cX3_alikeIn 16 = .ok (.iload_n 3, 1) := by decide +kernel
theorem dX3_alikeIn_17 : decode cX3_alikeIn 17 = .ok (.iload 6, 2) := by decide +kernel
theorem dX3_alikeIn_19 : decode cX3_alikeIn 19 = .ok (.iadd, 1) := by decide +kernel
theorem dX3_alikeIn_20 : decode cX3_alikeIn 20 = .ok (.if_icmp .ge 90, 3) := by decide +kernel
theorem dX3_alikeIn_23 : decode cX3_alikeIn 23 = .ok (.aload_n 2, 1) := by decide +kernel
theorem dX3_alikeIn_24 : decode cX3_alikeIn 24 = .ok (.getfield 35, 3) := by decide +kernel
theorem dX3_alikeIn_27 : decode cX3_alikeIn 27 = .ok (.iload 9, 2) := by decide +kernel
theorem dX3_alikeIn_29 : decode cX3_alikeIn 29 = .ok (.iaload, 1) := by decide +kernel
theorem dX3_alikeIn_30 : decode cX3_alikeIn 30 = .ok (.istore 10, 2) := by decide +kernel
theorem dX3_alikeIn_32 : decode cX3_alikeIn 32 = .ok (.aload_n 0, 1) := by decide +kernel
theorem dX3_alikeIn_33 : decode cX3_alikeIn 33 = .ok (.getfield 15, 3) := by decide +kernel
theorem dX3_alikeIn_36 : decode cX3_alikeIn 36 = .ok (.iload 10, 2) := by decide +kernel
theorem dX3_alikeIn_38 : decode cX3_alikeIn 38 = .ok (.iaload, 1) := by decide +kernel
theorem dX3_alikeIn_39 : decode cX3_alikeIn 39 = .ok (.iload_n 1, 1) := by decide +kernel
theorem dX3_alikeIn_40 : decode cX3_alikeIn 40 = .ok (.if_icmp .ne 64, 3) := by decide +kernel
theorem dX3_alikeIn_43 : decode cX3_alikeIn 43 = .ok (.aload_n 0, 1) := by decide +kernel
theorem dX3_alikeIn_44 : decode cX3_alikeIn 44 = .ok (.iload_n 1, 1) := by decide +kernel
theorem dX3_alikeIn_45 : decode cX3_alikeIn 45 = .ok (.aload 4, 2) := by decide +kernel
theorem dX3_alikeIn_47 : decode cX3_alikeIn 47 = .ok (.iload 7, 2) := by decide +kernel
theorem dX3_alikeIn_49 : decode cX3_alikeIn 49 = .ok (.iload 8, 2) := by decide +kernel
theorem dX3_alikeIn_51 : decode cX3_alikeIn 51 = .ok (.invokevirtual 40, 3) := by decide +kernel
theorem dX3_alikeIn_54 : decode cX3_alikeIn 54 = .ok (.istore 7, 2) := by decide +kernel
theorem dX3_alikeIn_56 : decode cX3_alikeIn 56 = .ok (.iload 7, 2) := by decide +kernel
theorem dX3_alikeIn_58 : decode cX3_alikeIn 58 = .ok (.iload 8, 2) := by decide +kernel
theorem dX3_alikeIn_60 : decode cX3_alikeIn 60 = .ok (.if_icmp .eq 39, 3) := by decide +kernel
theorem dX3_alikeIn_63 : decode cX3_alikeIn 63 = .ok (.aload_n 0, 1) := by decide +kernel
theorem dX3_alikeIn_64 : decode cX3_alikeIn 64 = .ok (.getfield 18, 3) := by decide +kernel
theorem dX3_alikeIn_67 : decode cX3_alikeIn 67 = .ok (.aload 4, 2) := by decide +kernel
theorem dX3_alikeIn_69 : decode cX3_alikeIn 69 = .ok (.getfield 35, 3) := by decide +kernel
theorem dX3_alikeIn_72 : decode cX3_alikeIn 72 = .ok (.iload 7, 2) := by decide +kernel
theorem dX3_alikeIn_74 : decode cX3_alikeIn 74 = .ok (.iaload, 1) := by decide +kernel
theorem dX3_alikeIn_75 : decode cX3_alikeIn 75 = .ok (.iaload, 1) := by decide +kernel
theorem dX3_alikeIn_76 : decode cX3_alikeIn 76 = .ok (.iload 10, 2) := by decide +kernel
theorem dX3_alikeIn_78 : decode cX3_alikeIn 78 = .ok (.if_icmp .ne 21, 3) := by decide +kernel
theorem dX3_alikeIn_81 : decode cX3_alikeIn 81 = .ok (.aload 4, 2) := by decide +kernel
theorem dX3_alikeIn_83 : decode cX3_alikeIn 83 = .ok (.getfield 44, 3) := by decide +kernel
theorem dX3_alikeIn_86 : decode cX3_alikeIn 86 = .ok (.iload 7, 2) := by decide +kernel
theorem dX3_alikeIn_88 : decode cX3_alikeIn 88 = .ok (.iaload, 1) := by decide +kernel
theorem dX3_alikeIn_89 : decode cX3_alikeIn 89 = .ok (.aload_n 2, 1) := by decide +kernel
theorem dX3_alikeIn_90 : decode cX3_alikeIn 90 = .ok (.getfield 44, 3) := by decide +kernel
theorem dX3_alikeIn_93 : decode cX3_alikeIn 93 = .ok (.iload 9, 2) := by decide +kernel
theorem dX3_alikeIn_95 : decode cX3_alikeIn 95 = .ok (.iaload, 1) := by decide +kernel
theorem dX3_alikeIn_96 : decode cX3_alikeIn 96 = .ok (.if_icmp .eq 5, 3) := by decide +kernel
theorem dX3_alikeIn_99 : decode cX3_alikeIn 99 = .ok (.iconst 0, 1) := by decide +kernel
theorem dX3_alikeIn_100 : decode cX3_alikeIn 100 = .ok (.ireturn, 1) := by decide +kernel
theorem dX3_alikeIn_101 : decode cX3_alikeIn 101 = .ok (.iinc 7 1, 3) := by decide +kernel
theorem dX3_alikeIn_104 : decode cX3_alikeIn 104 = .ok (.iinc 9 1, 3) := by decide +kernel
theorem dX3_alikeIn_107 : decode cX3_alikeIn 107 = .ok (.goto (-93), 3) := by decide +kernel
theorem dX3_alikeIn_110 : decode cX3_alikeIn 110 = .ok (.aload_n 0, 1) := by decide +kernel
theorem dX3_alikeIn_111 : decode cX3_alikeIn 111 = .ok (.iload_n 1, 1) := by decide +kernel
theorem dX3_alikeIn_112 : decode cX3_alikeIn 112 = .ok (.aload 4, 2) := by decide +kernel
theorem dX3_alikeIn_114 : decode cX3_alikeIn 114 = .ok (.iload 7, 2) := by decide +kernel
theorem dX3_alikeIn_116 : decode cX3_alikeIn 116 = .ok (.iload 8, 2) := by decide +kernel
theorem dX3_alikeIn_118 : decode cX3_alikeIn 118 = .ok (.invokevirtual 40, 3) := by decide +kernel
theorem dX3_alikeIn_121 : decode cX3_alikeIn 121 = .ok (.iload 8, 2) := by decide +kernel
theorem dX3_alikeIn_123 : decode cX3_alikeIn 123 = .ok (.if_icmp .ne 7, 3) := by decide +kernel
theorem dX3_alikeIn_126 : decode cX3_alikeIn 126 = .ok (.iconst 1, 1) := by decide +kernel
theorem dX3_alikeIn_127 : decode cX3_alikeIn 127 = .ok (.goto 4, 3) := by decide +kernel
theorem dX3_alikeIn_130 : decode cX3_alikeIn 130 = .ok (.iconst 0, 1) := by decide +kernel
theorem dX3_alikeIn_131 : decode cX3_alikeIn 131 = .ok (.ireturn, 1) := by decide +kernel
theorem dX3_nextIn_0 : decode cX3_nextIn 0 = .ok (.iload_n 3, 1) := by decide +kernel
theorem dX3_nextIn_1 : decode cX3_nextIn 1 = .ok (.istore 5, 2) := by decide +kernel
theorem dX3_nextIn_3 : decode cX3_nextIn 3 = .ok (.iload 5, 2) := by decide +kernel
theorem dX3_nextIn_5 : decode cX3_nextIn 5 = .ok (.iload 4, 2) := by decide +kernel
theorem dX3_nextIn_7 : decode cX3_nextIn 7 = .ok (.if_icmp .ge 33, 3) := by decide +kernel
theorem dX3_nextIn_10 : decode cX3_nextIn 10 = .ok (.aload_n 0, 1) := by decide +kernel
theorem dX3_nextIn_11 : decode cX3_nextIn 11 = .ok (.getfield 15, 3) := by decide +kernel
theorem dX3_nextIn_14 : decode cX3_nextIn 14 = .ok (.aload_n 0, 1) := by decide +kernel
theorem dX3_nextIn_15 : decode cX3_nextIn 15 = .ok (.getfield 18, 3) := by decide +kernel
theorem dX3_nextIn_18 : decode cX3_nextIn 18 = .ok (.aload_n 2, 1) := by decide +kernel
theorem dX3_nextIn_19 : decode cX3_nextIn 19 = .ok (.getfield 35, 3) := by decide +kernel
theorem dX3_nextIn_22 : decode cX3_nextIn 22 = .ok (.iload 5, 2) := by decide +kernel
theorem dX3_nextIn_24 : decode cX3_nextIn 24 = .ok (.iaload, 1) := by decide +kernel
theorem dX3_nextIn_25 : decode cX3_nextIn 25 = .ok (.iaload, 1) := by decide +kernel
theorem dX3_nextIn_26 : decode cX3_nextIn 26 = .ok (.iaload, 1) := by decide +kernel
theorem dX3_nextIn_27 : decode cX3_nextIn 27 = .ok (.iload_n 1, 1) := by decide +kernel
theorem dX3_nextIn_28 : decode cX3_nextIn 28 = .ok (.if_icmp .ne 6, 3) := by decide +kernel
theorem dX3_nextIn_31 : decode cX3_nextIn 31 = .ok (.iload 5, 2) := by decide +kernel
theorem dX3_nextIn_33 : decode cX3_nextIn 33 = .ok (.ireturn, 1) := by decide +kernel
theorem dX3_nextIn_34 : decode cX3_nextIn 34 = .ok (.iinc 5 1, 3) := by decide +kernel
theorem dX3_nextIn_37 : decode cX3_nextIn 37 = .ok (.goto (-34), 3) := by decide +kernel
theorem dX3_nextIn_40 : decode cX3_nextIn 40 = .ok (.iload 4, 2) := by decide +kernel
theorem dX3_nextIn_42 : decode cX3_nextIn 42 = .ok (.ireturn, 1) := by decide +kernel
theorem dX4_init_0 : decode cX4_init 0 = .ok (.aload_n 0, 1) := by decide +kernel
theorem dX4_init_1 : decode cX4_init 1 = .ok (.invokespecial 3, 3) := by decide +kernel
theorem dX4_init_4 : decode cX4_init 4 = .ok (.aload_n 0, 1) := by decide +kernel
theorem dX4_init_5 : decode cX4_init 5 = .ok (.iconst (-1), 1) := by decide +kernel
theorem dX4_init_6 : decode cX4_init 6 = .ok (.putfield 9, 3) := by decide +kernel
theorem dX4_init_9 : decode cX4_init 9 = .ok (.aload_n 0, 1) := by decide +kernel
theorem dX4_init_10 : decode cX4_init 10 = .ok (.iconst 5, 1) := by decide +kernel
theorem dX4_init_11 : decode cX4_init 11 = .ok (.newarray .int, 2) := by decide +kernel
theorem dX4_init_13 : decode cX4_init 13 = .ok (.dup, 1) := by decide +kernel
theorem dX4_init_14 : decode cX4_init 14 = .ok (.iconst 0, 1) := by decide +kernel
theorem dX4_init_15 : decode cX4_init 15 = .ok (.iconst (-1), 1) := by decide +kernel
theorem dX4_init_16 : decode cX4_init 16 = .ok (.iastore, 1) := by decide +kernel
theorem dX4_init_17 : decode cX4_init 17 = .ok (.dup, 1) := by decide +kernel
theorem dX4_init_18 : decode cX4_init 18 = .ok (.iconst 1, 1) := by decide +kernel
theorem dX4_init_19 : decode cX4_init 19 = .ok (.iconst (-1), 1) := by decide +kernel
theorem dX4_init_20 : decode cX4_init 20 = .ok (.iastore, 1) := by decide +kernel
theorem dX4_init_21 : decode cX4_init 21 = .ok (.dup, 1) := by decide +kernel
theorem dX4_init_22 : decode cX4_init 22 = .ok (.iconst 2, 1) := by decide +kernel
theorem dX4_init_23 : decode cX4_init 23 = .ok (.iconst (-1), 1) := by decide +kernel
theorem dX4_init_24 : decode cX4_init 24 = .ok (.iastore, 1) := by decide +kernel
theorem dX4_init_25 : decode cX4_init 25 = .ok (.dup, 1) := by decide +kernel
theorem dX4_init_26 : decode cX4_init 26 = .ok (.iconst 3, 1) := by decide +kernel
theorem dX4_init_27 : decode cX4_init 27 = .ok (.iconst (-1), 1) := by decide +kernel
theorem dX4_init_28 : decode cX4_init 28 = .ok (.iastore, 1) := by decide +kernel
theorem dX4_init_29 : decode cX4_init 29 = .ok (.dup, 1) := by decide +kernel
theorem dX4_init_30 : decode cX4_init 30 = .ok (.iconst 4, 1) := by decide +kernel
theorem dX4_init_31 : decode cX4_init 31 = .ok (.iconst (-1), 1) := by decide +kernel
theorem dX4_init_32 : decode cX4_init 32 = .ok (.iastore, 1) := by decide +kernel
theorem dX4_init_33 : decode cX4_init 33 = .ok (.putfield 15, 3) := by decide +kernel
theorem dX4_init_36 : decode cX4_init 36 = .ok (.return_, 1) := by decide +kernel
set_option maxRecDepth 20000 in
theorem ggX4_begin_X4_keep : GoodIn wsX4_begin wsX4_keep := goodIn_r _ [5, 6, 7, 8, 9] (by decide +kernel) (by decide +kernel)
set_option maxRecDepth 20000 in
theorem gX4_begin_X4_keep : GoodIn wsX4_begin (wsV RX4 19 RX4 yX4_keep wsX4_keep) := goodIn_app (goodIn_of _ (by decide +kernel)) ggX4_begin_X4_keep
theorem dX4_begin_0 : decode cX4_begin 0 = .ok (.aload_n 0, 1) := by decide +kernel
theorem dX4_begin_1 : decode cX4_begin 1 = .ok (.iload_n 1, 1) := by decide +kernel
theorem dX4_begin_2 : decode cX4_begin 2 = .ok (.ifCond .ne 7, 3) := by decide +kernel
theorem dX4_begin_5 : decode cX4_begin 5 = .ok (.iconst (-1), 1) := by decide +kernel
theorem dX4_begin_6 : decode cX4_begin 6 = .ok (.goto 4, 3) := by decide +kernel
theorem dX4_begin_9 : decode cX4_begin 9 = .ok (.iconst 1, 1) := by decide +kernel
theorem dX4_begin_10 : decode cX4_begin 10 = .ok (.iconst (-1), 1) := by decide +kernel
theorem dX4_begin_11 : decode cX4_begin 11 = .ok (.iconst (-1), 1) := by decide +kernel
theorem dX4_begin_12 : decode cX4_begin 12 = .ok (.iconst (-1), 1) := by decide +kernel
theorem dX4_begin_13 : decode cX4_begin 13 = .ok (.iconst (-1), 1) := by decide +kernel
theorem dX4_begin_14 : decode cX4_begin 14 = .ok (.iconst (-1), 1) := by decide +kernel
theorem dX4_begin_15 : decode cX4_begin 15 = .ok (.invokevirtual 19, 3) := by decide +kernel
theorem dX4_begin_18 : decode cX4_begin 18 = .ok (.return_, 1) := by decide +kernel
theorem dX4_yieldsTo_0 : decode cX4_yieldsTo 0 = .ok (.iload_n 1, 1) := by decide +kernel
theorem dX4_yieldsTo_1 : decode cX4_yieldsTo 1 = .ok (.ifCond .eq 16, 3) := by decide +kernel
theorem dX4_yieldsTo_4 : decode cX4_yieldsTo 4 = .ok (.iload_n 1, 1) := by decide +kernel
theorem dX4_yieldsTo_5 : decode cX4_yieldsTo 5 = .ok (.iconst 2, 1) := by decide +kernel
theorem dX4_yieldsTo_6 : decode cX4_yieldsTo 6 = .ok (.if_icmp .ne 15, 3) := by decide +kernel
theorem dX4_yieldsTo_9 : decode cX4_yieldsTo 9 = .ok (.aload_n 0, 1) := by decide +kernel
theorem dX4_yieldsTo_10 : decode cX4_yieldsTo 10 = .ok (.getfield 9, 3) := by decide +kernel
theorem dX4_yieldsTo_13 : decode cX4_yieldsTo 13 = .ok (.iconst 1, 1) := by decide +kernel
theorem dX4_yieldsTo_14 : decode cX4_yieldsTo 14 = .ok (.if_icmp .ne 7, 3) := by decide +kernel
theorem dX4_yieldsTo_17 : decode cX4_yieldsTo 17 = .ok (.iconst 1, 1) := by decide +kernel
theorem dX4_yieldsTo_18 : decode cX4_yieldsTo 18 = .ok (.goto 4, 3) := by decide +kernel
theorem dX4_yieldsTo_21 : decode cX4_yieldsTo 21 = .ok (.iconst 0, 1) := by decide +kernel
theorem dX4_yieldsTo_22 : decode cX4_yieldsTo 22 = .ok (.ireturn, 1) := by decide +kernel
theorem dX4_keep_0 : decode cX4_keep 0 = .ok (.aload_n 0, 1) := by decide +kernel
theorem dX4_keep_1 : decode cX4_keep 1 = .ok (.iload_n 1, 1) := by decide +kernel
theorem dX4_keep_2 : decode cX4_keep 2 = .ok (.putfield 9, 3) := by decide +kernel
theorem dX4_keep_5 : decode cX4_keep 5 = .ok (.aload_n 0, 1) := by decide +kernel
theorem dX4_keep_6 : decode cX4_keep 6 = .ok (.getfield 15, 3) := by decide +kernel
theorem dX4_keep_9 : decode cX4_keep 9 = .ok (.iconst 0, 1) := by decide +kernel
theorem dX4_keep_10 : decode cX4_keep 10 = .ok (.iload_n 2, 1) := by decide +kernel
theorem dX4_keep_11 : decode cX4_keep 11 = .ok (.iastore, 1) := by decide +kernel
theorem dX4_keep_12 : decode cX4_keep 12 = .ok (.aload_n 0, 1) := by decide +kernel
theorem dX4_keep_13 : decode cX4_keep 13 = .ok (.getfield 15, 3) := by decide +kernel
theorem dX4_keep_16 : decode cX4_keep 16 = .ok (.iconst 1, 1) := by decide +kernel
theorem dX4_keep_17 : decode cX4_keep 17 = .ok (.iload_n 3, 1) := by decide +kernel
theorem dX4_keep_18 : decode cX4_keep 18 = .ok (.iastore, 1) := by decide +kernel
theorem dX4_keep_19 : decode cX4_keep 19 = .ok (.aload_n 0, 1) := by decide +kernel
theorem dX4_keep_20 : decode cX4_keep 20 = .ok (.getfield 15, 3) := by decide +kernel
theorem dX4_keep_23 : decode cX4_keep 23 = .ok (.iconst 2, 1) := by decide +kernel
theorem dX4_keep_24 : decode cX4_keep 24 = .ok (.iload 4, 2) := by decide +kernel
theorem dX4_keep_26 : decode cX4_keep 26 = .ok (.iastore, 1) := by decide +kernel
theorem dX4_keep_27 : decode cX4_keep 27 = .ok (.aload_n 0, 1) := by decide +kernel
theorem dX4_keep_28 : decode cX4_keep 28 = .ok (.getfield 15, 3) := by decide +kernel
theorem dX4_keep_31 : decode cX4_keep 31 = .ok (.iconst 3, 1) := by decide +kernel
theorem dX4_keep_32 : decode cX4_keep 32 = .ok (.iload 5, 2) := by decide +kernel
theorem dX4_keep_34 : decode cX4_keep 34 = .ok (.iastore, 1) := by decide +kernel
theorem dX4_keep_35 : decode cX4_keep 35 = .ok (.aload_n 0, 1) := by decide +kernel
theorem dX4_keep_36 : decode cX4_keep 36 = .ok (.getfield 15, 3) := by decide +kernel
theorem dX4_keep_39 : decode cX4_keep 39 = .ok (.iconst 4, 1) := by decide +kernel
theorem dX4_keep_40 : decode cX4_keep 40 = .ok (.iload 6, 2) := by decide +kernel
theorem dX4_keep_42 : decode cX4_keep 42 = .ok (.iastore, 1) := by decide +kernel
theorem dX4_keep_43 : decode cX4_keep 43 = .ok (.return_, 1) := by decide +kernel
theorem dX5_init_0 : decode cX5_init 0 = .ok (.aload_n 0, 1) := by decide +kernel
theorem dX5_init_1 : decode cX5_init 1 = .ok (.invokespecial 3, 3) := by decide +kernel
theorem dX5_init_4 : decode cX5_init 4 = .ok (.aload_n 0, 1) := by decide +kernel
theorem dX5_init_5 : decode cX5_init 5 = .ok (.iconst 0, 1) := by decide +kernel
theorem dX5_init_6 : decode cX5_init 6 = .ok (.putfield 9, 3) := by decide +kernel
theorem dX5_init_9 : decode cX5_init 9 = .ok (.aload_n 0, 1) := by decide +kernel
theorem dX5_init_10 : decode cX5_init 10 = .ok (.iconst 0, 1) := by decide +kernel
theorem dX5_init_11 : decode cX5_init 11 = .ok (.putfield 15, 3) := by decide +kernel
theorem dX5_init_14 : decode cX5_init 14 = .ok (.aload_n 0, 1) := by decide +kernel
theorem dX5_init_15 : decode cX5_init 15 = .ok (.iconst 0, 1) := by decide +kernel
theorem dX5_init_16 : decode cX5_init 16 = .ok (.putfield 18, 3) := by decide +kernel
theorem dX5_init_19 : decode cX5_init 19 = .ok (.aload_n 0, 1) := by decide +kernel
theorem dX5_init_20 : decode cX5_init 20 = .ok (.iconst 0, 1) := by decide +kernel
theorem dX5_init_21 : decode cX5_init 21 = .ok (.putfield 21, 3) := by decide +kernel
theorem dX5_init_24 : decode cX5_init 24 = .ok (.aload_n 0, 1) := by decide +kernel
theorem dX5_init_25 : decode cX5_init 25 = .ok (.iconst 0, 1) := by decide +kernel
theorem dX5_init_26 : decode cX5_init 26 = .ok (.putfield 24, 3) := by decide +kernel
theorem dX5_init_29 : decode cX5_init 29 = .ok (.aload_n 0, 1) := by decide +kernel
theorem dX5_init_30 : decode cX5_init 30 = .ok (.iconst 0, 1) := by decide +kernel
theorem dX5_init_31 : decode cX5_init 31 = .ok (.putfield 27, 3) := by decide +kernel
theorem dX5_init_34 : decode cX5_init 34 = .ok (.aload_n 0, 1) := by decide +kernel
theorem dX5_init_35 : decode cX5_init 35 = .ok (.bipush 40, 2) := by decide +kernel
theorem dX5_init_37 : decode cX5_init 37 = .ok (.newarray .int, 2) := by decide +kernel
theorem dX5_init_39 : decode cX5_init 39 = .ok (.putfield 30, 3) := by decide +kernel
theorem dX5_init_42 : decode cX5_init 42 = .ok (.aload_n 0, 1) := by decide +kernel
theorem dX5_init_43 : decode cX5_init 43 = .ok (.bipush 40, 2) := by decide +kernel
theorem dX5_init_45 : decode cX5_init 45 = .ok (.newarray .int, 2) := by decide +kernel
theorem dX5_init_47 : decode cX5_init 47 = .ok (.putfield 34, 3) := by decide +kernel
theorem dX5_init_50 : decode cX5_init 50 = .ok (.aload_n 0, 1) := by decide +kernel
theorem dX5_init_51 : decode cX5_init 51 = .ok (.iconst 0, 1) := by decide +kernel
theorem dX5_init_52 : decode cX5_init 52 = .ok (.putfield 37, 3) := by decide +kernel
theorem dX5_init_55 : decode cX5_init 55 = .ok (.aload_n 0, 1) := by decide +kernel
theorem dX5_init_56 : decode cX5_init 56 = .ok (.iconst 2, 1) := by decide +kernel
theorem dX5_init_57 : decode cX5_init 57 = .ok (.newarray .int, 2) := by decide +kernel
theorem dX5_init_59 : decode cX5_init 59 = .ok (.putfield 40, 3) := by decide +kernel
theorem dX5_init_62 : decode cX5_init 62 = .ok (.aload_n 0, 1) := by decide +kernel
theorem dX5_init_63 : decode cX5_init 63 = .ok (.iconst 2, 1) := by decide +kernel
theorem dX5_init_64 : decode cX5_init 64 = .ok (.newarray .int, 2) := by decide +kernel
theorem dX5_init_66 : decode cX5_init 66 = .ok (.putfield 43, 3) := by decide +kernel
theorem dX5_init_69 : decode cX5_init 69 = .ok (.aload_n 0, 1) := by decide +kernel
theorem dX5_init_70 : decode cX5_init 70 = .ok (.iconst 2, 1) := by decide +kernel
theorem dX5_init_71 : decode cX5_init 71 = .ok (.newarray .int, 2) := by decide +kernel
theorem dX5_init_73 : decode cX5_init 73 = .ok (.putfield 46, 3) := by decide +kernel
theorem dX5_init_76 : decode cX5_init 76 = .ok (.aload_n 0, 1) := by decide +kernel
theorem dX5_init_77 : decode cX5_init 77 = .ok (.iconst 2, 1) := by decide +kernel
theorem dX5_init_78 : decode cX5_init 78 = .ok (.newarray .int, 2) := by decide +kernel
theorem dX5_init_80 : decode cX5_init 80 = .ok (.putfield 49, 3) := by decide +kernel
theorem dX5_init_83 : decode cX5_init 83 = .ok (.return_, 1) := by decide +kernel
set_option maxRecDepth 20000 in
theorem ggX5_forget_X5_finish : GoodIn wsX5_forget wsX5_finish := goodIn_r _ [9, 10, 11, 12, 13, 14, 15, 16, 17, 18, 19, 20, 21, 22, 23, 24, 25] (by decide +kernel) (by decide +kernel)
set_option maxRecDepth 20000 in
theorem gX5_forget_X5_finish : GoodIn wsX5_forget (wsV RX5 52 RX5 yX5_finish wsX5_finish) := goodIn_app (goodIn_of _ (by decide +kernel)) ggX5_forget_X5_finish
theorem dX5_forget_0 : decode cX5_forget 0 = .ok (.aload_n 0, 1) := by decide +kernel
theorem dX5_forget_1 : decode cX5_forget 1 = .ok (.iconst 2, 1) := by decide +kernel
theorem dX5_forget_2 : decode cX5_forget 2 = .ok (.iconst 0, 1) := by decide +kernel
theorem dX5_forget_3 : decode cX5_forget 3 = .ok (.iconst 0, 1) := by decide +kernel
theorem dX5_forget_4 : decode cX5_forget 4 = .ok (.invokevirtual 52, 3) := by decide +kernel
theorem dX5_forget_7 : decode cX5_forget 7 = .ok (.aload_n 0, 1) := by decide +kernel
theorem dX5_forget_8 : decode cX5_forget 8 = .ok (.iconst 0, 1) := by decide +kernel
theorem dX5_forget_9 : decode cX5_forget 9 = .ok (.putfield 21, 3) := by decide +kernel
theorem dX5_forget_12 : decode cX5_forget 12 = .ok (.aload_n 0, 1) := by decide +kernel
theorem dX5_forget_13 : decode cX5_forget 13 = .ok (.iconst 0, 1) := by decide +kernel
theorem dX5_forget_14 : decode cX5_forget 14 = .ok (.putfield 24, 3) := by decide +kernel
theorem dX5_forget_17 : decode cX5_forget 17 = .ok (.aload_n 0, 1) := by decide +kernel
theorem dX5_forget_18 : decode cX5_forget 18 = .ok (.iconst 0, 1) := by decide +kernel
theorem dX5_forget_19 : decode cX5_forget 19 = .ok (.putfield 27, 3) := by decide +kernel
theorem dX5_forget_22 : decode cX5_forget 22 = .ok (.aload_n 0, 1) := by decide +kernel
theorem dX5_forget_23 : decode cX5_forget 23 = .ok (.iconst 0, 1) := by decide +kernel
theorem dX5_forget_24 : decode cX5_forget 24 = .ok (.putfield 37, 3) := by decide +kernel
theorem dX5_forget_27 : decode cX5_forget 27 = .ok (.return_, 1) := by decide +kernel
theorem dX5_finish_0 : decode cX5_finish 0 = .ok (.aload_n 0, 1) := by decide +kernel
theorem dX5_finish_1 : decode cX5_finish 1 = .ok (.iload_n 1, 1) := by decide +kernel
theorem dX5_finish_2 : decode cX5_finish 2 = .ok (.putfield 9, 3) := by decide +kernel
theorem dX5_finish_5 : decode cX5_finish 5 = .ok (.aload_n 0, 1) := by decide +kernel
theorem dX5_finish_6 : decode cX5_finish 6 = .ok (.iload_n 2, 1) := by decide +kernel
theorem dX5_finish_7 : decode cX5_finish 7 = .ok (.putfield 15, 3) := by decide +kernel
theorem dX5_finish_10 : decode cX5_finish 10 = .ok (.aload_n 0, 1) := by decide +kernel
theorem dX5_finish_11 : decode cX5_finish 11 = .ok (.iload_n 3, 1) := by decide +kernel
theorem dX5_finish_12 : decode cX5_finish 12 = .ok (.putfield 18, 3) := by decide +kernel
theorem dX5_finish_15 : decode cX5_finish 15 = .ok (.return_, 1) := by decide +kernel
theorem dX5_addTell_0 : decode cX5_addTell 0 = .ok (.aload_n 0, 1) := by decide +kernel
theorem dX5_addTell_1 : decode cX5_addTell 1 = .ok (.getfield 30, 3) := by decide +kernel
theorem dX5_addTell_4 : decode cX5_addTell 4 = .ok (.aload_n 0, 1) := by decide +kernel
theorem dX5_addTell_5 : decode cX5_addTell 5 = .ok (.getfield 27, 3) := by decide +kernel
theorem dX5_addTell_8 : decode cX5_addTell 8 = .ok (.iload_n 1, 1) := by decide +kernel
theorem dX5_addTell_9 : decode cX5_addTell 9 = .ok (.iastore, 1) := by decide +kernel
theorem dX5_addTell_10 : decode cX5_addTell 10 = .ok (.aload_n 0, 1) := by decide +kernel
theorem dX5_addTell_11 : decode cX5_addTell 11 = .ok (.getfield 34, 3) := by decide +kernel
theorem dX5_addTell_14 : decode cX5_addTell 14 = .ok (.aload_n 0, 1) := by decide +kernel
theorem dX5_addTell_15 : decode cX5_addTell 15 = .ok (.getfield 27, 3) := by decide +kernel
theorem dX5_addTell_18 : decode cX5_addTell 18 = .ok (.iload_n 2, 1) := by decide +kernel
theorem dX5_addTell_19 : decode cX5_addTell 19 = .ok (.iastore, 1) := by decide +kernel
theorem dX5_addTell_20 : decode cX5_addTell 20 = .ok (.aload_n 0, 1) := by decide +kernel
theorem dX5_addTell_21 : decode cX5_addTell 21 = .ok (.dup, 1) := by decide +kernel
theorem dX5_addTell_22 : decode cX5_addTell 22 = .ok (.getfield 27, 3) := by decide +kernel
theorem dX5_addTell_25 : decode cX5_addTell 25 = .ok (.iconst 1, 1) := by decide +kernel
theorem dX5_addTell_26 : decode cX5_addTell 26 = .ok (.iadd, 1) := by decide +kernel
theorem dX5_addTell_27 : decode cX5_addTell 27 = .ok (.putfield 27, 3) := by decide +kernel
theorem dX5_addTell_30 : decode cX5_addTell 30 = .ok (.return_, 1) := by decide +kernel
theorem dX5_addCalling_0 : decode cX5_addCalling 0 = .ok (.aload_n 0, 1) := by decide +kernel
theorem dX5_addCalling_1 : decode cX5_addCalling 1 = .ok (.getfield 40, 3) := by decide +kernel
theorem dX5_addCalling_4 : decode cX5_addCalling 4 = .ok (.aload_n 0, 1) := by decide +kernel
theorem dX5_addCalling_5 : decode cX5_addCalling 5 = .ok (.getfield 37, 3) := by decide +kernel
theorem dX5_addCalling_8 : decode cX5_addCalling 8 = .ok (.iload_n 1, 1) := by decide +kernel
theorem dX5_addCalling_9 : decode cX5_addCalling 9 = .ok (.iastore, 1) := by decide +kernel
theorem dX5_addCalling_10 : decode cX5_addCalling 10 = .ok (.aload_n 0, 1) := by decide +kernel
theorem dX5_addCalling_11 : decode cX5_addCalling 11 = .ok (.getfield 43, 3) := by decide +kernel
theorem dX5_addCalling_14 : decode cX5_addCalling 14 = .ok (.aload_n 0, 1) := by decide +kernel
theorem dX5_addCalling_15 : decode cX5_addCalling 15 = .ok (.getfield 37, 3) := by decide +kernel
theorem dX5_addCalling_18 : decode cX5_addCalling 18 = .ok (.iload_n 2, 1) := by decide +kernel
theorem dX5_addCalling_19 : decode cX5_addCalling 19 = .ok (.iastore, 1) := by decide +kernel
theorem dX5_addCalling_20 : decode cX5_addCalling 20 = .ok (.aload_n 0, 1) := by decide +kernel
theorem dX5_addCalling_21 : decode cX5_addCalling 21 = .ok (.getfield 46, 3) := by decide +kernel
theorem dX5_addCalling_24 : decode cX5_addCalling 24 = .ok (.aload_n 0, 1) := by decide +kernel
theorem dX5_addCalling_25 : decode cX5_addCalling 25 = .ok (.getfield 37, 3) := by decide +kernel
theorem dX5_addCalling_28 : decode cX5_addCalling 28 = .ok (.iload_n 3, 1) := by decide +kernel
theorem dX5_addCalling_29 : decode cX5_addCalling 29 = .ok (.iastore, 1) := by decide +kernel
theorem dX5_addCalling_30 : decode cX5_addCalling 30 = .ok (.aload_n 0, 1) := by decide +kernel
theorem dX5_addCalling_31 : decode cX5_addCalling 31 = .ok (.getfield 49, 3) := by decide +kernel
theorem dX5_addCalling_34 : decode cX5_addCalling 34 = .ok (.aload_n 0, 1) := by decide +kernel
theorem dX5_addCalling_35 : decode cX5_addCalling 35 = .ok (.getfield 37, 3) := by decide +kernel
theorem dX5_addCalling_38 : decode cX5_addCalling 38 = .ok (.aload_n 0, 1) := by decide +kernel
theorem dX5_addCalling_39 : decode cX5_addCalling 39 = .ok (.getfield 27, 3) := by decide +kernel
theorem dX5_addCalling_42 : decode cX5_addCalling 42 = .ok (.iastore, 1) := by decide +kernel
theorem dX5_addCalling_43 : decode cX5_addCalling 43 = .ok (.aload_n 0, 1) := by decide +kernel
theorem dX5_addCalling_44 : decode cX5_addCalling 44 = .ok (.dup, 1) := by decide +kernel
theorem dX5_addCalling_45 : decode cX5_addCalling 45 = .ok (.getfield 37, 3) := by decide +kernel
theorem dX5_addCalling_48 : decode cX5_addCalling 48 = .ok (.iconst 1, 1) := by decide +kernel
theorem dX5_addCalling_49 : decode cX5_addCalling 49 = .ok (.iadd, 1) := by decide +kernel
theorem dX5_addCalling_50 : decode cX5_addCalling 50 = .ok (.putfield 37, 3) := by decide +kernel
theorem dX5_addCalling_53 : decode cX5_addCalling 53 = .ok (.return_, 1) := by decide +kernel
theorem dX5_endsLike_0 : decode cX5_endsLike 0 = .ok (.aload_n 0, 1) := by decide +kernel
theorem dX5_endsLike_1 : decode cX5_endsLike 1 = .ok (.getfield 15, 3) := by decide +kernel
theorem dX5_endsLike_4 : decode cX5_endsLike 4 = .ok (.aload_n 1, 1) := by decide +kernel
theorem dX5_endsLike_5 : decode cX5_endsLike 5 = .ok (.getfield 15, 3) := by decide +kernel
theorem dX5_endsLike_8 : decode cX5_endsLike 8 = .ok (.if_icmp .ne 18, 3) := by decide +kernel
theorem dX5_endsLike_11 : decode cX5_endsLike 11 = .ok (.aload_n 0, 1) := by decide +kernel
theorem dX5_endsLike_12 : decode cX5_endsLike 12 = .ok (.getfield 18, 3) := by decide +kernel
theorem dX5_endsLike_15 : decode cX5_endsLike 15 = .ok (.aload_n 1, 1) := by decide +kernel
theorem dX5_endsLike_16 : decode cX5_endsLike 16 = .ok (.getfield 18, 3) := by decide +kernel
theorem dX5_endsLike_19 : decode cX5_endsLike 19 = .ok (.if_icmp .ne 7, 3) := by decide +kernel
theorem dX5_endsLike_22 : decode cX5_endsLike 22 = .ok (.iconst 1, 1) := by decide +kernel
theorem dX5_endsLike_23 : decode cX5_endsLike 23 = .ok (.goto 4, 3) := by decide +kernel
theorem dX5_endsLike_26 : decode cX5_endsLike 26 = .ok (.iconst 0, 1) := by decide +kernel
theorem dX5_endsLike_27 : decode cX5_endsLike 27 = .ok (.ireturn, 1) := by decide +kernel
theorem dX5_sameInputs_0 : decode cX5_sameInputs 0 = .ok (.aload_n 0, 1) := by decide +kernel
theorem dX5_sameInputs_1 : decode cX5_sameInputs 1 = .ok (.getfield 43, 3) := by decide +kernel
theorem dX5_sameInputs_4 : decode cX5_sameInputs 4 = .ok (.iload_n 2, 1) := by decide +kernel
theorem dX5_sameInputs_5 : decode cX5_sameInputs 5 = .ok (.iaload, 1) := by decide +kernel
theorem dX5_sameInputs_6 : decode cX5_sameInputs 6 = .ok (.aload_n 1, 1) := by decide +kernel
theorem dX5_sameInputs_7 : decode cX5_sameInputs 7 = .ok (.getfield 43, 3) := by decide +kernel
theorem dX5_sameInputs_10 : decode cX5_sameInputs 10 = .ok (.iload_n 2, 1) := by decide +kernel
theorem dX5_sameInputs_11 : decode cX5_sameInputs 11 = .ok (.iaload, 1) := by decide +kernel
theorem dX5_sameInputs_12 : decode cX5_sameInputs 12 = .ok (.if_icmp .ne 22, 3) := by decide +kernel
end
section
theorem dX5_sameInputs_15 : decode cX5_sameInputs 15 = .ok (.aload_n 0, 1) := by decide +kernel
theorem dX5_sameInputs_16 : decode cX5_sameInputs 16 = .ok (.getfield 46, 3) := by decide +kernel
theorem dX5_sameInputs_19 : decode cX5_sameInputs 19 = .ok (.iload_n 2, 1) := by decide +kernel
theorem dX5_sameInputs_20 : decode cX5_sameInputs 20 = .ok (.iaload, 1) := by decide +kernel
theorem dX5_sameInputs_21 : decode cX5_sameInputs 21 = .ok (.aload_n 1, 1) := by decide +kernel
theorem dX5_sameInputs_22 : decode cX5_sameInputs 22 = .ok (.getfield 46, 3) := by decide +kernel
theorem dX5_sameInputs_25 : decode cX5_sameInputs 25 = .ok (.iload_n 2, 1) := by decide +kernel
theorem dX5_sameInputs_26 : decode cX5_sameInputs 26 = .ok (.iaload, 1) := by decide +kernel
theorem dX5_sameInputs_27 : decode cX5_sameInputs 27 = .ok (.if_icmp .ne 7, 3) := by decide +kernel
theorem dX5_sameInputs_30 : decode cX5_sameInputs 30 = .ok (.iconst 1, 1) := by decide +kernel
theorem dX5_sameInputs_31 : decode cX5_sameInputs 31 = .ok (.goto 4, 3) := by decide +kernel
theorem dX5_sameInputs_34 : decode cX5_sameInputs 34 = .ok (.iconst 0, 1) := by decide +kernel
theorem dX5_sameInputs_35 : decode cX5_sameInputs 35 = .ok (.ireturn, 1) := by decide +kernel
set_option maxRecDepth 20000 in
theorem ggX6_init_X0_init : GoodIn wsX6_init wsX0_init := goodIn_r _ [37, 38, 2, 3, 39, 40, 41, 42, 43, 44, 45, 95, 96, 97, 98, 99, 100] (by decide +kernel) (by decide +kernel)
set_option maxRecDepth 20000 in
theorem gX6_init_X0_init_n9 : GoodIn wsX6_init (wsX0_init) := ggX6_init_X0_init
set_option maxRecDepth 20000 in
theorem ggX6_init_X3_init : GoodIn wsX6_init wsX3_init := goodIn_r _ [47, 48, 2, 3, 40, 49, 50, 51, 118, 119, 120] (by decide +kernel) (by decide +kernel)
set_option maxRecDepth 20000 in
theorem gX6_init_X3_init_n21 : GoodIn wsX6_init (wsX3_init) := ggX6_init_X3_init
set_option maxRecDepth 20000 in
theorem ggX6_init_X2_init : GoodIn wsX6_init wsX2_init := goodIn_r _ [53, 54, 2, 3, 55, 40, 56, 57, 121, 122, 123] (by decide +kernel) (by decide +kernel)
set_option maxRecDepth 20000 in
theorem gX6_init_X2_init_n31 : GoodIn wsX6_init (wsX2_init) := ggX6_init_X2_init
set_option maxRecDepth 20000 in
theorem ggX6_init_X4_init : GoodIn wsX6_init wsX4_init := goodIn_r _ [59, 60, 2, 3, 61, 40, 62, 124, 125] (by decide +kernel) (by decide +kernel)
set_option maxRecDepth 20000 in
theorem gX6_init_X4_init_n38 : GoodIn wsX6_init (wsX4_init) := ggX6_init_X4_init
set_option maxRecDepth 20000 in
theorem ggX6_init_X1_init : GoodIn wsX6_init wsX1_init := goodIn_r _ [65, 66, 2, 3, 67, 68, 69, 70, 40, 71, 72, 73, 74, 75, 76, 77, 78, 79, 80, 81, 82, 83, 84, 85, 86, 87, 88, 89, 90, 91, 92, 93, 94, 135, 136, 137, 138, 139, 140, 141, 142, 143, 144, 145, 146, 147, 126, 127, 128, 129, 130, 131, 132, 133, 134] (by decide +kernel) (by decide +kernel)
set_option maxRecDepth 20000 in
theorem gX6_init_X1_init : GoodIn wsX6_init (wsX1_init) := ggX6_init_X1_init
theorem dX6_init_0 : decode cX6_init 0 = .ok (.aload_n 0, 1) := by decide +kernel
theorem dX6_init_1 : decode cX6_init 1 = .ok (.invokespecial 1, 3) := by decide +kernel
theorem dX6_init_4 : decode cX6_init 4 = .ok (.aload_n 0, 1) := by decide +kernel
theorem dX6_init_5 : decode cX6_init 5 = .ok (.new 7, 3) := by decide +kernel
theorem dX6_init_8 : decode cX6_init 8 = .ok (.dup, 1) := by decide +kernel
theorem dX6_init_9 : decode cX6_init 9 = .ok (.invokespecial 9, 3) := by decide +kernel
theorem dX6_init_12 : decode cX6_init 12 = .ok (.putfield 10, 3) := by decide +kernel
theorem dX6_init_15 : decode cX6_init 15 = .ok (.aload_n 0, 1) := by decide +kernel
theorem dX6_init_16 : decode cX6_init 16 = .ok (.new 7, 3) := by decide +kernel
theorem dX6_init_19 : decode cX6_init 19 = .ok (.dup, 1) := by decide +kernel
theorem dX6_init_20 : decode cX6_init 20 = .ok (.invokespecial 9, 3) := by decide +kernel
theorem dX6_init_23 : decode cX6_init 23 = .ok (.putfield 16, 3) := by decide +kernel
theorem dX6_init_26 : decode cX6_init 26 = .ok (.aload_n 0, 1) := by decide +kernel
theorem dX6_init_27 : decode cX6_init 27 = .ok (.new 19, 3) := by decide +kernel
theorem dX6_init_30 : decode cX6_init 30 = .ok (.dup, 1) := by decide +kernel
theorem dX6_init_31 : decode cX6_init 31 = .ok (.invokespecial 21, 3) := by decide +kernel
theorem dX6_init_34 : decode cX6_init 34 = .ok (.putfield 22, 3) := by decide +kernel
theorem dX6_init_37 : decode cX6_init 37 = .ok (.aload_n 0, 1) := by decide +kernel
theorem dX6_init_38 : decode cX6_init 38 = .ok (.new 19, 3) := by decide +kernel
theorem dX6_init_41 : decode cX6_init 41 = .ok (.dup, 1) := by decide +kernel
theorem dX6_init_42 : decode cX6_init 42 = .ok (.invokespecial 21, 3) := by decide +kernel
theorem dX6_init_45 : decode cX6_init 45 = .ok (.putfield 26, 3) := by decide +kernel
theorem dX6_init_48 : decode cX6_init 48 = .ok (.aload_n 0, 1) := by decide +kernel
theorem dX6_init_49 : decode cX6_init 49 = .ok (.new 29, 3) := by decide +kernel
theorem dX6_init_52 : decode cX6_init 52 = .ok (.dup, 1) := by decide +kernel
theorem dX6_init_53 : decode cX6_init 53 = .ok (.invokespecial 31, 3) := by decide +kernel
theorem dX6_init_56 : decode cX6_init 56 = .ok (.putfield 32, 3) := by decide +kernel
theorem dX6_init_59 : decode cX6_init 59 = .ok (.aload_n 0, 1) := by decide +kernel
theorem dX6_init_60 : decode cX6_init 60 = .ok (.new 36, 3) := by decide +kernel
theorem dX6_init_63 : decode cX6_init 63 = .ok (.dup, 1) := by decide +kernel
theorem dX6_init_64 : decode cX6_init 64 = .ok (.invokespecial 38, 3) := by decide +kernel
theorem dX6_init_67 : decode cX6_init 67 = .ok (.putfield 39, 3) := by decide +kernel
theorem dX6_init_70 : decode cX6_init 70 = .ok (.aload_n 0, 1) := by decide +kernel
theorem dX6_init_71 : decode cX6_init 71 = .ok (.iconst (-1), 1) := by decide +kernel
theorem dX6_init_72 : decode cX6_init 72 = .ok (.putfield 43, 3) := by decide +kernel
theorem dX6_init_75 : decode cX6_init 75 = .ok (.aload_n 0, 1) := by decide +kernel
theorem dX6_init_76 : decode cX6_init 76 = .ok (.iconst (-1), 1) := by decide +kernel
theorem dX6_init_77 : decode cX6_init 77 = .ok (.putfield 47, 3) := by decide +kernel
theorem dX6_init_80 : decode cX6_init 80 = .ok (.aload_n 0, 1) := by decide +kernel
theorem dX6_init_81 : decode cX6_init 81 = .ok (.iconst (-1), 1) := by decide +kernel
theorem dX6_init_82 : decode cX6_init 82 = .ok (.putfield 50, 3) := by decide +kernel
theorem dX6_init_85 : decode cX6_init 85 = .ok (.aload_n 0, 1) := by decide +kernel
theorem dX6_init_86 : decode cX6_init 86 = .ok (.iconst (-1), 1) := by decide +kernel
theorem dX6_init_87 : decode cX6_init 87 = .ok (.putfield 53, 3) := by decide +kernel
theorem dX6_init_90 : decode cX6_init 90 = .ok (.aload_n 0, 1) := by decide +kernel
theorem dX6_init_91 : decode cX6_init 91 = .ok (.iload_n 1, 1) := by decide +kernel
theorem dX6_init_92 : decode cX6_init 92 = .ok (.iconst 1, 1) := by decide +kernel
theorem dX6_init_93 : decode cX6_init 93 = .ok (.iand, 1) := by decide +kernel
theorem dX6_init_94 : decode cX6_init 94 = .ok (.ifCond .eq 7, 3) := by decide +kernel
theorem dX6_init_97 : decode cX6_init 97 = .ok (.iconst 3, 1) := by decide +kernel
theorem dX6_init_98 : decode cX6_init 98 = .ok (.goto 4, 3) := by decide +kernel
theorem dX6_init_101 : decode cX6_init 101 = .ok (.iconst 2, 1) := by decide +kernel
theorem dX6_init_102 : decode cX6_init 102 = .ok (.putfield 56, 3) := by decide +kernel
theorem dX6_init_105 : decode cX6_init 105 = .ok (.aload_n 0, 1) := by decide +kernel
theorem dX6_init_106 : decode cX6_init 106 = .ok (.iconst 1, 1) := by decide +kernel
theorem dX6_init_107 : decode cX6_init 107 = .ok (.aload_n 0, 1) := by decide +kernel
theorem dX6_init_108 : decode cX6_init 108 = .ok (.getfield 56, 3) := by decide +kernel
theorem dX6_init_111 : decode cX6_init 111 = .ok (.ishl, 1) := by decide +kernel
theorem dX6_init_112 : decode cX6_init 112 = .ok (.iconst 1, 1) := by decide +kernel
theorem dX6_init_113 : decode cX6_init 113 = .ok (.isub, 1) := by decide +kernel
theorem dX6_init_114 : decode cX6_init 114 = .ok (.putfield 59, 3) := by decide +kernel
theorem dX6_init_117 : decode cX6_init 117 = .ok (.aload_n 0, 1) := by decide +kernel
theorem dX6_init_118 : decode cX6_init 118 = .ok (.new 62, 3) := by decide +kernel
theorem dX6_init_121 : decode cX6_init 121 = .ok (.dup, 1) := by decide +kernel
theorem dX6_init_122 : decode cX6_init 122 = .ok (.aload_n 0, 1) := by decide +kernel
theorem dX6_init_123 : decode cX6_init 123 = .ok (.getfield 10, 3) := by decide +kernel
theorem dX6_init_126 : decode cX6_init 126 = .ok (.aload_n 0, 1) := by decide +kernel
theorem dX6_init_127 : decode cX6_init 127 = .ok (.getfield 59, 3) := by decide +kernel
theorem dX6_init_130 : decode cX6_init 130 = .ok (.iconst 0, 1) := by decide +kernel
theorem dX6_init_131 : decode cX6_init 131 = .ok (.invokespecial 64, 3) := by decide +kernel
theorem dX6_init_134 : decode cX6_init 134 = .ok (.putfield 67, 3) := by decide +kernel
theorem dX6_init_137 : decode cX6_init 137 = .ok (.aload_n 0, 1) := by decide +kernel
theorem dX6_init_138 : decode cX6_init 138 = .ok (.new 62, 3) := by decide +kernel
theorem dX6_init_141 : decode cX6_init 141 = .ok (.dup, 1) := by decide +kernel
theorem dX6_init_142 : decode cX6_init 142 = .ok (.aload_n 0, 1) := by decide +kernel
theorem dX6_init_143 : decode cX6_init 143 = .ok (.getfield 10, 3) := by decide +kernel
theorem dX6_init_146 : decode cX6_init 146 = .ok (.aload_n 0, 1) := by decide +kernel
theorem dX6_init_147 : decode cX6_init 147 = .ok (.getfield 59, 3) := by decide +kernel
theorem dX6_init_150 : decode cX6_init 150 = .ok (.iconst 0, 1) := by decide +kernel
theorem dX6_init_151 : decode cX6_init 151 = .ok (.invokespecial 64, 3) := by decide +kernel
theorem dX6_init_154 : decode cX6_init 154 = .ok (.putfield 71, 3) := by decide +kernel
theorem dX6_init_157 : decode cX6_init 157 = .ok (.aload_n 0, 1) := by decide +kernel
theorem dX6_init_158 : decode cX6_init 158 = .ok (.new 62, 3) := by decide +kernel
theorem dX6_init_161 : decode cX6_init 161 = .ok (.dup, 1) := by decide +kernel
theorem dX6_init_162 : decode cX6_init 162 = .ok (.aload_n 0, 1) := by decide +kernel
theorem dX6_init_163 : decode cX6_init 163 = .ok (.getfield 16, 3) := by decide +kernel
theorem dX6_init_166 : decode cX6_init 166 = .ok (.aload_n 0, 1) := by decide +kernel
theorem dX6_init_167 : decode cX6_init 167 = .ok (.getfield 59, 3) := by decide +kernel
theorem dX6_init_170 : decode cX6_init 170 = .ok (.iconst 0, 1) := by decide +kernel
theorem dX6_init_171 : decode cX6_init 171 = .ok (.invokespecial 64, 3) := by decide +kernel
theorem dX6_init_174 : decode cX6_init 174 = .ok (.putfield 74, 3) := by decide +kernel
theorem dX6_init_177 : decode cX6_init 177 = .ok (.aload_n 0, 1) := by decide +kernel
theorem dX6_init_178 : decode cX6_init 178 = .ok (.new 62, 3) := by decide +kernel
theorem dX6_init_181 : decode cX6_init 181 = .ok (.dup, 1) := by decide +kernel
theorem dX6_init_182 : decode cX6_init 182 = .ok (.aload_n 0, 1) := by decide +kernel
theorem dX6_init_183 : decode cX6_init 183 = .ok (.getfield 10, 3) := by decide +kernel
theorem dX6_init_186 : decode cX6_init 186 = .ok (.aload_n 0, 1) := by decide +kernel
theorem dX6_init_187 : decode cX6_init 187 = .ok (.getfield 59, 3) := by decide +kernel
theorem dX6_init_190 : decode cX6_init 190 = .ok (.iconst 1, 1) := by decide +kernel
theorem dX6_init_191 : decode cX6_init 191 = .ok (.invokespecial 64, 3) := by decide +kernel
theorem dX6_init_194 : decode cX6_init 194 = .ok (.putfield 77, 3) := by decide +kernel
theorem dX6_init_197 : decode cX6_init 197 = .ok (.aload_n 0, 1) := by decide +kernel
theorem dX6_init_198 : decode cX6_init 198 = .ok (.new 62, 3) := by decide +kernel
theorem dX6_init_201 : decode cX6_init 201 = .ok (.dup, 1) := by decide +kernel
theorem dX6_init_202 : decode cX6_init 202 = .ok (.aload_n 0, 1) := by decide +kernel
theorem dX6_init_203 : decode cX6_init 203 = .ok (.getfield 16, 3) := by decide +kernel
theorem dX6_init_206 : decode cX6_init 206 = .ok (.aload_n 0, 1) := by decide +kernel
theorem dX6_init_207 : decode cX6_init 207 = .ok (.getfield 59, 3) := by decide +kernel
theorem dX6_init_210 : decode cX6_init 210 = .ok (.iconst 1, 1) := by decide +kernel
theorem dX6_init_211 : decode cX6_init 211 = .ok (.invokespecial 64, 3) := by decide +kernel
theorem dX6_init_214 : decode cX6_init 214 = .ok (.putfield 80, 3) := by decide +kernel
theorem dX6_init_217 : decode cX6_init 217 = .ok (.return_, 1) := by decide +kernel
set_option maxRecDepth 20000 in
theorem ggX6_method_X6_within : GoodIn wsX6_method wsX6_within := goodIn_r _ [5] (by decide +kernel) (by decide +kernel)
set_option maxRecDepth 20000 in
theorem gX6_method_X6_within : GoodIn wsX6_method (va_wsS RX6 83 yX6_within wsX6_within) := goodIn_app (goodIn_of _ (by decide +kernel)) ggX6_method_X6_within
set_option maxRecDepth 20000 in
theorem ggX6_method_X6_buildOf : GoodIn wsX6_method wsX6_buildOf := goodIn_r _ [9, 10, 11, 24, 25, 26, 27, 28, 29, 30, 31, 32, 33, 34, 35, 36, 37, 38, 39, 40] (by decide +kernel) (by decide +kernel)
set_option maxRecDepth 20000 in
theorem gX6_method_X6_buildOf : GoodIn wsX6_method (wsV RX6 87 RX6 yX6_buildOf wsX6_buildOf) := goodIn_app (goodIn_of _ (by decide +kernel)) ggX6_method_X6_buildOf
set_option maxRecDepth 20000 in
theorem ggX6_method_X0_addMethod : GoodIn wsX6_method wsX0_addMethod := goodIn_r _ [16, 17, 18, 19, 20, 21, 22, 23] (by decide +kernel) (by decide +kernel)
set_option maxRecDepth 20000 in
theorem gX6_method_X0_addMethod : GoodIn wsX6_method (wsV RX6 94 RX0 yX0_addMethod wsX0_addMethod) := goodIn_app (goodIn_of _ (by decide +kernel)) ggX6_method_X0_addMethod
theorem dX6_method_0 : decode cX6_method 0 = .ok (.iload_n 1, 1) := by decide +kernel
theorem dX6_method_1 : decode cX6_method 1 = .ok (.iconst 0, 1) := by decide +kernel
theorem dX6_method_2 : decode cX6_method 2 = .ok (.iconst 1, 1) := by decide +kernel
theorem dX6_method_3 : decode cX6_method 3 = .ok (.invokestatic 83, 3) := by decide +kernel
theorem dX6_method_6 : decode cX6_method 6 = .ok (.ifCond .ne 6, 3) := by decide +kernel
theorem dX6_method_9 : decode cX6_method 9 = .ok (.bipush (-101), 2) := by decide +kernel
theorem dX6_method_11 : decode cX6_method 11 = .ok (.ireturn, 1) := by decide +kernel
theorem dX6_method_12 : decode cX6_method 12 = .ok (.aload_n 0, 1) := by decide +kernel
theorem dX6_method_13 : decode cX6_method 13 = .ok (.iload_n 1, 1) := by decide +kernel
theorem dX6_method_14 : decode cX6_method 14 = .ok (.invokevirtual 87, 3) := by decide +kernel
theorem dX6_method_17 : decode cX6_method 17 = .ok (.astore_n 2, 1) := by decide +kernel
theorem dX6_method_18 : decode cX6_method 18 = .ok (.aload_n 2, 1) := by decide +kernel
theorem dX6_method_19 : decode cX6_method 19 = .ok (.getfield 91, 3) := by decide +kernel
theorem dX6_method_22 : decode cX6_method 22 = .ok (.bipush 6, 2) := by decide +kernel
theorem dX6_method_24 : decode cX6_method 24 = .ok (.if_icmp .ne 8, 3) := by decide +kernel
theorem dX6_method_27 : decode cX6_method 27 = .ok (.bipush (-104), 2) := by decide +kernel
theorem dX6_method_29 : decode cX6_method 29 = .ok (.goto 7, 3) := by decide +kernel
theorem dX6_method_32 : decode cX6_method 32 = .ok (.aload_n 2, 1) := by decide +kernel
theorem dX6_method_33 : decode cX6_method 33 = .ok (.invokevirtual 94, 3) := by decide +kernel
theorem dX6_method_36 : decode cX6_method 36 = .ok (.ireturn, 1) := by decide +kernel
set_option maxRecDepth 20000 in
theorem ggX6_op_X6_isMethod : GoodIn wsX6_op wsX6_isMethod := goodIn_r _ [6, 7, 8, 5, 9, 10, 11, 12, 13, 14, 15, 16, 17, 18, 19, 20, 21, 47, 48, 49, 50, 51, 52, 53, 54, 55, 56, 57, 58, 59, 60, 61, 62, 63, 41, 42, 43, 44, 45, 46] (by decide +kernel) (by decide +kernel)
set_option maxRecDepth 20000 in
theorem gX6_op_X6_isMethod : GoodIn wsX6_op (wsV RX6 98 RX6 yX6_isMethod wsX6_isMethod) := goodIn_app (goodIn_of _ (by decide +kernel)) ggX6_op_X6_isMethod
set_option maxRecDepth 20000 in
theorem ggX6_op_X6_within : GoodIn wsX6_op wsX6_within := goodIn_r _ [9] (by decide +kernel) (by decide +kernel)
set_option maxRecDepth 20000 in
theorem gX6_op_X6_within : GoodIn wsX6_op (va_wsS RX6 83 yX6_within wsX6_within) := goodIn_app (goodIn_of _ (by decide +kernel)) ggX6_op_X6_within
set_option maxRecDepth 20000 in
theorem ggX6_op_X6_fits : GoodIn wsX6_op wsX6_fits := goodIn_r _ [25, 26, 27, 7, 8, 5, 9, 47, 48, 49, 50, 51, 52, 53, 54, 55, 56, 57, 58, 59, 60, 61, 62, 63] (by decide +kernel) (by decide +kernel)
set_option maxRecDepth 20000 in
theorem gX6_op_X6_fits : GoodIn wsX6_op (wsV RX6 102 RX6 yX6_fits wsX6_fits) := goodIn_app (goodIn_of _ (by decide +kernel)) ggX6_op_X6_fits
set_option maxRecDepth 20000 in
theorem ggX6_op_X6_buildOf : GoodIn wsX6_op wsX6_buildOf := goodIn_r _ [13, 14, 15, 47, 48, 49, 50, 51, 52, 53, 54, 55, 56, 57, 58, 59, 60, 61, 62, 63] (by decide +kernel) (by decide +kernel)
set_option maxRecDepth 20000 in
theorem gX6_op_X6_buildOf : GoodIn wsX6_op (wsV RX6 87 RX6 yX6_buildOf wsX6_buildOf) := goodIn_app (goodIn_of _ (by decide +kernel)) ggX6_op_X6_buildOf
set_option maxRecDepth 20000 in
theorem ggX6_op_X0_addOp : GoodIn wsX6_op wsX0_addOp := goodIn_r _ [31, 32, 33, 34, 35, 36, 37, 38, 39, 19, 40, 41, 42, 43, 44, 45, 46] (by decide +kernel) (by decide +kernel)
set_option maxRecDepth 20000 in
theorem gX6_op_X0_addOp : GoodIn wsX6_op (wsV RX6 109 RX0 yX0_addOp wsX0_addOp) := goodIn_app (goodIn_of _ (by decide +kernel)) ggX6_op_X0_addOp
theorem dX6_op_0 : decode cX6_op 0 = .ok (.aload_n 0, 1) := by decide +kernel
theorem dX6_op_1 : decode cX6_op 1 = .ok (.iload_n 1, 1) := by decide +kernel
theorem dX6_op_2 : decode cX6_op 2 = .ok (.iload_n 2, 1) := by decide +kernel
theorem dX6_op_3 : decode cX6_op 3 = .ok (.invokevirtual 98, 3) := by decide +kernel
theorem dX6_op_6 : decode cX6_op 6 = .ok (.ifCond .eq 19, 3) := by decide +kernel
theorem dX6_op_9 : decode cX6_op 9 = .ok (.iload_n 3, 1) := by decide +kernel
theorem dX6_op_10 : decode cX6_op 10 = .ok (.bipush 12, 2) := by decide +kernel
theorem dX6_op_12 : decode cX6_op 12 = .ok (.if_icmp .ne 16, 3) := by decide +kernel
theorem dX6_op_15 : decode cX6_op 15 = .ok (.iload 4, 2) := by decide +kernel
theorem dX6_op_17 : decode cX6_op 17 = .ok (.iconst 0, 1) := by decide +kernel
theorem dX6_op_18 : decode cX6_op 18 = .ok (.iconst 3, 1) := by decide +kernel
theorem dX6_op_19 : decode cX6_op 19 = .ok (.invokestatic 83, 3) := by decide +kernel
theorem dX6_op_22 : decode cX6_op 22 = .ok (.ifCond .ne 6, 3) := by decide +kernel
theorem dX6_op_25 : decode cX6_op 25 = .ok (.bipush (-101), 2) := by decide +kernel
theorem dX6_op_27 : decode cX6_op 27 = .ok (.ireturn, 1) := by decide +kernel
theorem dX6_op_28 : decode cX6_op 28 = .ok (.iload_n 3, 1) := by decide +kernel
theorem dX6_op_29 : decode cX6_op 29 = .ok (.iconst 0, 1) := by decide +kernel
theorem dX6_op_30 : decode cX6_op 30 = .ok (.bipush 15, 2) := by decide +kernel
theorem dX6_op_32 : decode cX6_op 32 = .ok (.invokestatic 83, 3) := by decide +kernel
theorem dX6_op_35 : decode cX6_op 35 = .ok (.ifCond .eq 36, 3) := by decide +kernel
theorem dX6_op_38 : decode cX6_op 38 = .ok (.aload_n 0, 1) := by decide +kernel
theorem dX6_op_39 : decode cX6_op 39 = .ok (.iload_n 3, 1) := by decide +kernel
theorem dX6_op_40 : decode cX6_op 40 = .ok (.iconst 0, 1) := by decide +kernel
theorem dX6_op_41 : decode cX6_op 41 = .ok (.iload 4, 2) := by decide +kernel
theorem dX6_op_43 : decode cX6_op 43 = .ok (.invokevirtual 102, 3) := by decide +kernel
theorem dX6_op_46 : decode cX6_op 46 = .ok (.ifCond .eq 25, 3) := by decide +kernel
theorem dX6_op_49 : decode cX6_op 49 = .ok (.aload_n 0, 1) := by decide +kernel
theorem dX6_op_50 : decode cX6_op 50 = .ok (.iload_n 3, 1) := by decide +kernel
theorem dX6_op_51 : decode cX6_op 51 = .ok (.iconst 1, 1) := by decide +kernel
theorem dX6_op_52 : decode cX6_op 52 = .ok (.iload 5, 2) := by decide +kernel
theorem dX6_op_54 : decode cX6_op 54 = .ok (.invokevirtual 102, 3) := by decide +kernel
theorem dX6_op_57 : decode cX6_op 57 = .ok (.ifCond .eq 14, 3) := by decide +kernel
theorem dX6_op_60 : decode cX6_op 60 = .ok (.aload_n 0, 1) := by decide +kernel
theorem dX6_op_61 : decode cX6_op 61 = .ok (.iload_n 3, 1) := by decide +kernel
theorem dX6_op_62 : decode cX6_op 62 = .ok (.iconst 2, 1) := by decide +kernel
theorem dX6_op_63 : decode cX6_op 63 = .ok (.iload 6, 2) := by decide +kernel
theorem dX6_op_65 : decode cX6_op 65 = .ok (.invokevirtual 102, 3) := by decide +kernel
theorem dX6_op_68 : decode cX6_op 68 = .ok (.ifCond .ne 6, 3) := by decide +kernel
theorem dX6_op_71 : decode cX6_op 71 = .ok (.bipush (-102), 2) := by decide +kernel
theorem dX6_op_73 : decode cX6_op 73 = .ok (.ireturn, 1) := by decide +kernel
theorem dX6_op_74 : decode cX6_op 74 = .ok (.aload_n 0, 1) := by decide +kernel
theorem dX6_op_75 : decode cX6_op 75 = .ok (.iload_n 1, 1) := by decide +kernel
theorem dX6_op_76 : decode cX6_op 76 = .ok (.invokevirtual 87, 3) := by decide +kernel
theorem dX6_op_79 : decode cX6_op 79 = .ok (.astore 7, 2) := by decide +kernel
theorem dX6_op_81 : decode cX6_op 81 = .ok (.aload 7, 2) := by decide +kernel
theorem dX6_op_83 : decode cX6_op 83 = .ok (.getfield 105, 3) := by decide +kernel
theorem dX6_op_86 : decode cX6_op 86 = .ok (.iload_n 2, 1) := by decide +kernel
theorem dX6_op_87 : decode cX6_op 87 = .ok (.iaload, 1) := by decide +kernel
theorem dX6_op_88 : decode cX6_op 88 = .ok (.bipush 24, 2) := by decide +kernel
theorem dX6_op_90 : decode cX6_op 90 = .ok (.if_icmp .ne 8, 3) := by decide +kernel
theorem dX6_op_93 : decode cX6_op 93 = .ok (.bipush (-104), 2) := by decide +kernel
theorem dX6_op_95 : decode cX6_op 95 = .ok (.goto 16, 3) := by decide +kernel
theorem dX6_op_98 : decode cX6_op 98 = .ok (.aload 7, 2) := by decide +kernel
theorem dX6_op_100 : decode cX6_op 100 = .ok (.iload_n 2, 1) := by decide +kernel
theorem dX6_op_101 : decode cX6_op 101 = .ok (.iload_n 3, 1) := by decide +kernel
theorem dX6_op_102 : decode cX6_op 102 = .ok (.iload 4, 2) := by decide +kernel
theorem dX6_op_104 : decode cX6_op 104 = .ok (.iload 5, 2) := by decide +kernel
theorem dX6_op_106 : decode cX6_op 106 = .ok (.iload 6, 2) := by decide +kernel
theorem dX6_op_108 : decode cX6_op 108 = .ok (.invokevirtual 109, 3) := by decide +kernel
theorem dX6_op_111 : decode cX6_op 111 = .ok (.ireturn, 1) := by decide +kernel
set_option maxRecDepth 20000 in
theorem ggX6_clear_X6_isMethod : GoodIn wsX6_clear wsX6_isMethod := goodIn_r _ [5, 6, 7, 4, 8, 9, 10, 11, 12, 13, 14, 15, 16, 17, 18, 19, 20, 26, 27, 28, 29, 30, 31, 32, 33, 34, 35, 36, 37, 38, 39, 40, 41, 42, 43, 44, 45, 46, 47, 48] (by decide +kernel) (by decide +kernel)
set_option maxRecDepth 20000 in
theorem gX6_clear_X6_isMethod : GoodIn wsX6_clear (wsV RX6 98 RX6 yX6_isMethod wsX6_isMethod) := goodIn_app (goodIn_of _ (by decide +kernel)) ggX6_clear_X6_isMethod
set_option maxRecDepth 20000 in
theorem ggX6_clear_X6_buildOf : GoodIn wsX6_clear wsX6_buildOf := goodIn_r _ [12, 13, 14, 26, 27, 28, 29, 30, 31, 32, 33, 34, 35, 36, 37, 38, 39, 40, 41, 42] (by decide +kernel) (by decide +kernel)
set_option maxRecDepth 20000 in
theorem gX6_clear_X6_buildOf : GoodIn wsX6_clear (wsV RX6 87 RX6 yX6_buildOf wsX6_buildOf) := goodIn_app (goodIn_of _ (by decide +kernel)) ggX6_clear_X6_buildOf
set_option maxRecDepth 20000 in
theorem ggX6_clear_X0_removeOps : GoodIn wsX6_clear wsX0_removeOps := goodIn_r _ [24, 25, 43, 44, 45, 46, 47, 48] (by decide +kernel) (by decide +kernel)
set_option maxRecDepth 20000 in
theorem gX6_clear_X0_removeOps : GoodIn wsX6_clear (wsV RX6 113 RX0 yX0_removeOps wsX0_removeOps) := goodIn_app (goodIn_of _ (by decide +kernel)) ggX6_clear_X0_removeOps
theorem dX6_clear_0 : decode cX6_clear 0 = .ok (.aload_n 0, 1) := by decide +kernel
theorem dX6_clear_1 : decode cX6_clear 1 = .ok (.iload_n 1, 1) := by decide +kernel
theorem dX6_clear_2 : decode cX6_clear 2 = .ok (.iload_n 2, 1) := by decide +kernel
theorem dX6_clear_3 : decode cX6_clear 3 = .ok (.invokevirtual 98, 3) := by decide +kernel
theorem dX6_clear_6 : decode cX6_clear 6 = .ok (.ifCond .eq 15, 3) := by decide +kernel
theorem dX6_clear_9 : decode cX6_clear 9 = .ok (.aload_n 0, 1) := by decide +kernel
theorem dX6_clear_10 : decode cX6_clear 10 = .ok (.iload_n 1, 1) := by decide +kernel
theorem dX6_clear_11 : decode cX6_clear 11 = .ok (.invokevirtual 87, 3) := by decide +kernel
theorem dX6_clear_14 : decode cX6_clear 14 = .ok (.iload_n 2, 1) := by decide +kernel
theorem dX6_clear_15 : decode cX6_clear 15 = .ok (.invokevirtual 113, 3) := by decide +kernel
theorem dX6_clear_18 : decode cX6_clear 18 = .ok (.goto 5, 3) := by decide +kernel
theorem dX6_clear_21 : decode cX6_clear 21 = .ok (.bipush (-101), 2) := by decide +kernel
theorem dX6_clear_23 : decode cX6_clear 23 = .ok (.ireturn, 1) := by decide +kernel
set_option maxRecDepth 20000 in
theorem ggX6_run_X6_isMethod : GoodIn wsX6_run wsX6_isMethod := goodIn_r _ [9, 10, 11, 8, 12, 13, 14, 15, 16, 17, 18, 19, 20, 21, 22, 23, 24, 135, 136, 137, 138, 139, 140, 141, 142, 143, 144, 145, 146, 147, 148, 149, 150, 151, 174, 175, 176, 177, 178, 179] (by decide +kernel) (by decide +kernel)
set_option maxRecDepth 20000 in
theorem gX6_run_X6_isMethod : GoodIn wsX6_run (wsV RX6 98 RX6 yX6_isMethod wsX6_isMethod) := goodIn_app (goodIn_of _ (by decide +kernel)) ggX6_run_X6_isMethod
set_option maxRecDepth 20000 in
theorem ggX6_run_X6_within : GoodIn wsX6_run wsX6_within := goodIn_r _ [12] (by decide +kernel) (by decide +kernel)
set_option maxRecDepth 20000 in
theorem gX6_run_X6_within : GoodIn wsX6_run (va_wsS RX6 83 yX6_within wsX6_within) := goodIn_app (goodIn_of _ (by decide +kernel)) ggX6_run_X6_within
set_option maxRecDepth 20000 in
theorem ggX6_run_X6_buildOf : GoodIn wsX6_run wsX6_buildOf := goodIn_r _ [16, 17, 18, 135, 136, 137, 138, 139, 140, 141, 142, 143, 144, 145, 146, 147, 148, 149, 150, 151] (by decide +kernel) (by decide +kernel)
set_option maxRecDepth 20000 in
theorem gX6_run_X6_buildOf : GoodIn wsX6_run (wsV RX6 87 RX6 yX6_buildOf wsX6_buildOf) := goodIn_app (goodIn_of _ (by decide +kernel)) ggX6_run_X6_buildOf
set_option maxRecDepth 20000 in
theorem ggX6_run_X1_turnTo : GoodIn wsX6_run wsX1_turnTo := goodIn_r _ [29, 30, 152, 153, 154, 155, 156, 157, 158, 159, 160] (by decide +kernel) (by decide +kernel)
set_option maxRecDepth 20000 in
theorem gX6_run_X1_turnTo : GoodIn wsX6_run (wsV RX6 117 RX1 yX1_turnTo wsX1_turnTo) := goodIn_app (goodIn_of _ (by decide +kernel)) ggX6_run_X1_turnTo
set_option maxRecDepth 20000 in
theorem ggX6_run_X1_go : GoodIn wsX6_run wsX1_go := goodIn_r _ [34, 35, 36, 37, 30, 38, 39, 40, 41, 42, 43, 44, 45, 46, 47, 48, 49, 50, 51, 52, 53, 54, 55, 56, 57, 58, 59, 28, 60, 61, 62, 63, 64, 65, 66, 67, 68, 69, 70, 71, 72, 73, 74, 75, 22, 76, 77, 78, 79, 80, 81, 82, 83, 84, 85, 86, 87, 88, 89, 90, 91, 92, 93, 94, 95, 96, 97, 98, 99, 100, 101, 102, 103, 104, 105, 106, 107, 108, 109, 110, 111, 112, 113, 20, 21, 23, 24, 114, 115, 116, 117, 118, 119, 120, 121, 122, 123, 124, 125, 126, 127, 128, 129, 130, 131, 132, 133, 134, 152, 153, 154, 155, 156, 157, 158, 159, 160, 174, 175, 176, 177, 178, 179, 161, 162, 163, 164, 165, 166, 167, 168, 169, 170, 171, 172, 173] (by decide +kernel) (by decide +kernel)
set_option maxRecDepth 20000 in
theorem gX6_run_X1_go : GoodIn wsX6_run (wsV RX6 121 RX1 yX1_go wsX1_go) := goodIn_app (goodIn_of _ (by decide +kernel)) ggX6_run_X1_go
theorem dX6_run_0 : decode cX6_run 0 = .ok (.aload_n 0, 1) := by decide +kernel
theorem dX6_run_1 : decode cX6_run 1 = .ok (.iload_n 1, 1) := by decide +kernel
theorem dX6_run_2 : decode cX6_run 2 = .ok (.iload_n 2, 1) := by decide +kernel
theorem dX6_run_3 : decode cX6_run 3 = .ok (.invokevirtual 98, 3) := by decide +kernel
theorem dX6_run_6 : decode cX6_run 6 = .ok (.ifCond .ne 6, 3) := by decide +kernel
theorem dX6_run_9 : decode cX6_run 9 = .ok (.bipush (-101), 2) := by decide +kernel
theorem dX6_run_11 : decode cX6_run 11 = .ok (.ireturn, 1) := by decide +kernel
theorem dX6_run_12 : decode cX6_run 12 = .ok (.iload_n 3, 1) := by decide +kernel
theorem dX6_run_13 : decode cX6_run 13 = .ok (.iconst 0, 1) := by decide +kernel
theorem dX6_run_14 : decode cX6_run 14 = .ok (.aload_n 0, 1) := by decide +kernel
theorem dX6_run_15 : decode cX6_run 15 = .ok (.getfield 59, 3) := by decide +kernel
theorem dX6_run_18 : decode cX6_run 18 = .ok (.invokestatic 83, 3) := by decide +kernel
theorem dX6_run_21 : decode cX6_run 21 = .ok (.ifCond .eq 16, 3) := by decide +kernel
theorem dX6_run_24 : decode cX6_run 24 = .ok (.iload 4, 2) := by decide +kernel
theorem dX6_run_26 : decode cX6_run 26 = .ok (.iconst 0, 1) := by decide +kernel
theorem dX6_run_27 : decode cX6_run 27 = .ok (.aload_n 0, 1) := by decide +kernel
theorem dX6_run_28 : decode cX6_run 28 = .ok (.getfield 59, 3) := by decide +kernel
theorem dX6_run_31 : decode cX6_run 31 = .ok (.invokestatic 83, 3) := by decide +kernel
theorem dX6_run_34 : decode cX6_run 34 = .ok (.ifCond .ne 6, 3) := by decide +kernel
theorem dX6_run_37 : decode cX6_run 37 = .ok (.bipush (-102), 2) := by decide +kernel
theorem dX6_run_39 : decode cX6_run 39 = .ok (.ireturn, 1) := by decide +kernel
theorem dX6_run_40 : decode cX6_run 40 = .ok (.aload_n 0, 1) := by decide +kernel
theorem dX6_run_41 : decode cX6_run 41 = .ok (.getfield 67, 3) := by decide +kernel
theorem dX6_run_44 : decode cX6_run 44 = .ok (.aload_n 0, 1) := by decide +kernel
theorem dX6_run_45 : decode cX6_run 45 = .ok (.iload_n 1, 1) := by decide +kernel
theorem dX6_run_46 : decode cX6_run 46 = .ok (.invokevirtual 87, 3) := by decide +kernel
theorem dX6_run_49 : decode cX6_run 49 = .ok (.invokevirtual 117, 3) := by decide +kernel
theorem dX6_run_52 : decode cX6_run 52 = .ok (.aload_n 0, 1) := by decide +kernel
theorem dX6_run_53 : decode cX6_run 53 = .ok (.getfield 67, 3) := by decide +kernel
theorem dX6_run_56 : decode cX6_run 56 = .ok (.iload_n 2, 1) := by decide +kernel
theorem dX6_run_57 : decode cX6_run 57 = .ok (.iload_n 3, 1) := by decide +kernel
theorem dX6_run_58 : decode cX6_run 58 = .ok (.iload 4, 2) := by decide +kernel
theorem dX6_run_60 : decode cX6_run 60 = .ok (.invokevirtual 121, 3) := by decide +kernel
theorem dX6_run_63 : decode cX6_run 63 = .ok (.aload_n 0, 1) := by decide +kernel
theorem dX6_run_64 : decode cX6_run 64 = .ok (.getfield 67, 3) := by decide +kernel
theorem dX6_run_67 : decode cX6_run 67 = .ok (.getfield 125, 3) := by decide +kernel
theorem dX6_run_70 : decode cX6_run 70 = .ok (.getfield 129, 3) := by decide +kernel
theorem dX6_run_73 : decode cX6_run 73 = .ok (.ireturn, 1) := by decide +kernel
theorem dX6_ran_0 : decode cX6_ran 0 = .ok (.aload_n 0, 1) := by decide +kernel
theorem dX6_ran_1 : decode cX6_ran 1 = .ok (.getfield 67, 3) := by decide +kernel
theorem dX6_ran_4 : decode cX6_ran 4 = .ok (.getfield 125, 3) := by decide +kernel
theorem dX6_ran_7 : decode cX6_ran 7 = .ok (.astore_n 2, 1) := by decide +kernel
theorem dX6_ran_8 : decode cX6_ran 8 = .ok (.iload_n 1, 1) := by decide +kernel
theorem dX6_ran_9 : decode cX6_ran 9 = .ok (.tableswitch 60 0 4 #[35, 40, 45, 50, 55], 35) := by decide +kernel
theorem dX6_ran_44 : decode cX6_ran 44 = .ok (.aload_n 2, 1) := by decide +kernel
theorem dX6_ran_45 : decode cX6_ran 45 = .ok (.getfield 134, 3) := by decide +kernel
theorem dX6_ran_48 : decode cX6_ran 48 = .ok (.ireturn, 1) := by decide +kernel
theorem dX6_ran_49 : decode cX6_ran 49 = .ok (.aload_n 2, 1) := by decide +kernel
theorem dX6_ran_50 : decode cX6_ran 50 = .ok (.getfield 137, 3) := by decide +kernel
theorem dX6_ran_53 : decode cX6_ran 53 = .ok (.ireturn, 1) := by decide +kernel
theorem dX6_ran_54 : decode cX6_ran 54 = .ok (.aload_n 2, 1) := by decide +kernel
theorem dX6_ran_55 : decode cX6_ran 55 = .ok (.getfield 140, 3) := by decide +kernel
theorem dX6_ran_58 : decode cX6_ran 58 = .ok (.ireturn, 1) := by decide +kernel
theorem dX6_ran_59 : decode cX6_ran 59 = .ok (.aload_n 2, 1) := by decide +kernel
theorem dX6_ran_60 : decode cX6_ran 60 = .ok (.getfield 143, 3) := by decide +kernel
theorem dX6_ran_63 : decode cX6_ran 63 = .ok (.ireturn, 1) := by decide +kernel
theorem dX6_ran_64 : decode cX6_ran 64 = .ok (.aload_n 2, 1) := by decide +kernel
theorem dX6_ran_65 : decode cX6_ran 65 = .ok (.getfield 146, 3) := by decide +kernel
theorem dX6_ran_68 : decode cX6_ran 68 = .ok (.ireturn, 1) := by decide +kernel
theorem dX6_ran_69 : decode cX6_ran 69 = .ok (.bipush (-101), 2) := by decide +kernel
theorem dX6_ran_71 : decode cX6_ran 71 = .ok (.ireturn, 1) := by decide +kernel
set_option maxRecDepth 20000 in
theorem ggX6_told_X6_within : GoodIn wsX6_told wsX6_within := goodIn_r _ [9] (by decide +kernel) (by decide +kernel)
set_option maxRecDepth 20000 in
theorem gX6_told_X6_within : GoodIn wsX6_told (va_wsS RX6 83 yX6_within wsX6_within) := goodIn_app (goodIn_of _ (by decide +kernel)) ggX6_told_X6_within
theorem dX6_told_0 : decode cX6_told 0 = .ok (.iload_n 2, 1) := by decide +kernel
theorem dX6_told_1 : decode cX6_told 1 = .ok (.iconst 0, 1) := by decide +kernel
theorem dX6_told_2 : decode cX6_told 2 = .ok (.iconst 1, 1) := by decide +kernel
theorem dX6_told_3 : decode cX6_told 3 = .ok (.invokestatic 83, 3) := by decide +kernel
theorem dX6_told_6 : decode cX6_told 6 = .ok (.ifCond .ne 6, 3) := by decide +kernel
theorem dX6_told_9 : decode cX6_told 9 = .ok (.bipush (-101), 2) := by decide +kernel
theorem dX6_told_11 : decode cX6_told 11 = .ok (.ireturn, 1) := by decide +kernel
theorem dX6_told_12 : decode cX6_told 12 = .ok (.aload_n 0, 1) := by decide +kernel
theorem dX6_told_13 : decode cX6_told 13 = .ok (.getfield 67, 3) := by decide +kernel
theorem dX6_told_16 : decode cX6_told 16 = .ok (.getfield 125, 3) := by decide +kernel
theorem dX6_told_19 : decode cX6_told 19 = .ok (.astore_n 3, 1) := by decide +kernel
theorem dX6_told_20 : decode cX6_told 20 = .ok (.iload_n 1, 1) := by decide +kernel
theorem dX6_told_21 : decode cX6_told 21 = .ok (.iconst 0, 1) := by decide +kernel
theorem dX6_told_22 : decode cX6_told 22 = .ok (.aload_n 3, 1) := by decide +kernel
theorem dX6_told_23 : decode cX6_told 23 = .ok (.getfield 143, 3) := by decide +kernel
theorem dX6_told_26 : decode cX6_told 26 = .ok (.iconst 1, 1) := by decide +kernel
theorem dX6_told_27 : decode cX6_told 27 = .ok (.isub, 1) := by decide +kernel
theorem dX6_told_28 : decode cX6_told 28 = .ok (.invokestatic 83, 3) := by decide +kernel
theorem dX6_told_31 : decode cX6_told 31 = .ok (.ifCond .ne 5, 3) := by decide +kernel
theorem dX6_told_34 : decode cX6_told 34 = .ok (.iconst (-1), 1) := by decide +kernel
theorem dX6_told_35 : decode cX6_told 35 = .ok (.ireturn, 1) := by decide +kernel
theorem dX6_told_36 : decode cX6_told 36 = .ok (.iload_n 2, 1) := by decide +kernel
theorem dX6_told_37 : decode cX6_told 37 = .ok (.ifCond .ne 12, 3) := by decide +kernel
theorem dX6_told_40 : decode cX6_told 40 = .ok (.aload_n 3, 1) := by decide +kernel
theorem dX6_told_41 : decode cX6_told 41 = .ok (.getfield 149, 3) := by decide +kernel
theorem dX6_told_44 : decode cX6_told 44 = .ok (.iload_n 1, 1) := by decide +kernel
theorem dX6_told_45 : decode cX6_told 45 = .ok (.iaload, 1) := by decide +kernel
theorem dX6_told_46 : decode cX6_told 46 = .ok (.goto 9, 3) := by decide +kernel
theorem dX6_told_49 : decode cX6_told 49 = .ok (.aload_n 3, 1) := by decide +kernel
theorem dX6_told_50 : decode cX6_told 50 = .ok (.getfield 152, 3) := by decide +kernel
theorem dX6_told_53 : decode cX6_told 53 = .ok (.iload_n 1, 1) := by decide +kernel
theorem dX6_told_54 : decode cX6_told 54 = .ok (.iaload, 1) := by decide +kernel
theorem dX6_told_55 : decode cX6_told 55 = .ok (.ireturn, 1) := by decide +kernel
set_option maxRecDepth 20000 in
theorem ggX6_rename_X6_within : GoodIn wsX6_rename wsX6_within := goodIn_r _ [5] (by decide +kernel) (by decide +kernel)
set_option maxRecDepth 20000 in
theorem gX6_rename_X6_within : GoodIn wsX6_rename (va_wsS RX6 83 yX6_within wsX6_within) := goodIn_app (goodIn_of _ (by decide +kernel)) ggX6_rename_X6_within
set_option maxRecDepth 20000 in
theorem ggX6_rename_X3_swapIn : GoodIn wsX6_rename wsX3_swapIn := goodIn_r _ [10, 11, 12, 13, 14, 15, 9, 16, 34, 35, 36] (by decide +kernel) (by decide +kernel)
set_option maxRecDepth 20000 in
theorem gX6_rename_X3_swapIn : GoodIn wsX6_rename (wsV RX6 155 RX3 yX3_swapIn wsX3_swapIn) := goodIn_app (goodIn_of _ (by decide +kernel)) ggX6_rename_X3_swapIn
theorem dX6_rename_0 : decode cX6_rename 0 = .ok (.iload_n 1, 1) := by decide +kernel
theorem dX6_rename_1 : decode cX6_rename 1 = .ok (.iconst 0, 1) := by decide +kernel
theorem dX6_rename_2 : decode cX6_rename 2 = .ok (.iconst 3, 1) := by decide +kernel
theorem dX6_rename_3 : decode cX6_rename 3 = .ok (.invokestatic 83, 3) := by decide +kernel
theorem dX6_rename_6 : decode cX6_rename 6 = .ok (.ifCond .eq 12, 3) := by decide +kernel
theorem dX6_rename_9 : decode cX6_rename 9 = .ok (.iload_n 2, 1) := by decide +kernel
theorem dX6_rename_10 : decode cX6_rename 10 = .ok (.iconst 0, 1) := by decide +kernel
theorem dX6_rename_11 : decode cX6_rename 11 = .ok (.iconst 3, 1) := by decide +kernel
theorem dX6_rename_12 : decode cX6_rename 12 = .ok (.invokestatic 83, 3) := by decide +kernel
theorem dX6_rename_15 : decode cX6_rename 15 = .ok (.ifCond .ne 6, 3) := by decide +kernel
theorem dX6_rename_18 : decode cX6_rename 18 = .ok (.bipush (-101), 2) := by decide +kernel
theorem dX6_rename_20 : decode cX6_rename 20 = .ok (.ireturn, 1) := by decide +kernel
theorem dX6_rename_21 : decode cX6_rename 21 = .ok (.aload_n 0, 1) := by decide +kernel
theorem dX6_rename_22 : decode cX6_rename 22 = .ok (.getfield 22, 3) := by decide +kernel
theorem dX6_rename_25 : decode cX6_rename 25 = .ok (.iload_n 1, 1) := by decide +kernel
theorem dX6_rename_26 : decode cX6_rename 26 = .ok (.iload_n 2, 1) := by decide +kernel
theorem dX6_rename_27 : decode cX6_rename 27 = .ok (.invokevirtual 155, 3) := by decide +kernel
theorem dX6_rename_30 : decode cX6_rename 30 = .ok (.ireturn, 1) := by decide +kernel
set_option maxRecDepth 20000 in
theorem ggX6_group_X6_within : GoodIn wsX6_group wsX6_within := goodIn_r _ [6] (by decide +kernel) (by decide +kernel)
set_option maxRecDepth 20000 in
theorem gX6_group_X6_within : GoodIn wsX6_group (va_wsS RX6 83 yX6_within wsX6_within) := goodIn_app (goodIn_of _ (by decide +kernel)) ggX6_group_X6_within
theorem dX6_group_0 : decode cX6_group 0 = .ok (.iload_n 1, 1) := by decide +kernel
theorem dX6_group_1 : decode cX6_group 1 = .ok (.iconst 0, 1) := by decide +kernel
theorem dX6_group_2 : decode cX6_group 2 = .ok (.iconst 3, 1) := by decide +kernel
theorem dX6_group_3 : decode cX6_group 3 = .ok (.invokestatic 83, 3) := by decide +kernel
theorem dX6_group_6 : decode cX6_group 6 = .ok (.ifCond .ne 6, 3) := by decide +kernel
theorem dX6_group_9 : decode cX6_group 9 = .ok (.bipush (-101), 2) := by decide +kernel
theorem dX6_group_11 : decode cX6_group 11 = .ok (.ireturn, 1) := by decide +kernel
theorem dX6_group_12 : decode cX6_group 12 = .ok (.iload_n 2, 1) := by decide +kernel
theorem dX6_group_13 : decode cX6_group 13 = .ok (.iconst 0, 1) := by decide +kernel
theorem dX6_group_14 : decode cX6_group 14 = .ok (.iconst 3, 1) := by decide +kernel
theorem dX6_group_15 : decode cX6_group 15 = .ok (.invokestatic 83, 3) := by decide +kernel
theorem dX6_group_18 : decode cX6_group 18 = .ok (.ifCond .ne 6, 3) := by decide +kernel
theorem dX6_group_21 : decode cX6_group 21 = .ok (.bipush (-102), 2) := by decide +kernel
theorem dX6_group_23 : decode cX6_group 23 = .ok (.ireturn, 1) := by decide +kernel
theorem dX6_group_24 : decode cX6_group 24 = .ok (.aload_n 0, 1) := by decide +kernel
theorem dX6_group_25 : decode cX6_group 25 = .ok (.getfield 22, 3) := by decide +kernel
theorem dX6_group_28 : decode cX6_group 28 = .ok (.getfield 159, 3) := by decide +kernel
theorem dX6_group_31 : decode cX6_group 31 = .ok (.iload_n 1, 1) := by decide +kernel
theorem dX6_group_32 : decode cX6_group 32 = .ok (.iaload, 1) := by decide +kernel
theorem dX6_group_33 : decode cX6_group 33 = .ok (.istore_n 3, 1) := by decide +kernel
theorem dX6_group_34 : decode cX6_group 34 = .ok (.aload_n 0, 1) := by decide +kernel
theorem dX6_group_35 : decode cX6_group 35 = .ok (.getfield 22, 3) := by decide +kernel
theorem dX6_group_38 : decode cX6_group 38 = .ok (.getfield 159, 3) := by decide +kernel
theorem dX6_group_41 : decode cX6_group 41 = .ok (.iload_n 1, 1) := by decide +kernel
theorem dX6_group_42 : decode cX6_group 42 = .ok (.iload_n 2, 1) := by decide +kernel
theorem dX6_group_43 : decode cX6_group 43 = .ok (.iastore, 1) := by decide +kernel
theorem dX6_group_44 : decode cX6_group 44 = .ok (.iload_n 3, 1) := by decide +kernel
theorem dX6_group_45 : decode cX6_group 45 = .ok (.ireturn, 1) := by decide +kernel
set_option maxRecDepth 20000 in
theorem ggX6_hold_X6_isPair : GoodIn wsX6_hold wsX6_isPair := goodIn_r _ [9, 10, 11, 12, 13, 14, 15, 16, 17, 164, 165, 166, 167, 168, 169, 170, 171, 172, 173, 174, 175, 176, 177, 178, 179, 180, 181, 182, 183, 184, 185, 186] (by decide +kernel) (by decide +kernel)
set_option maxRecDepth 20000 in
theorem gX6_hold_X6_isPair : GoodIn wsX6_hold (wsV RX6 162 RX6 yX6_isPair wsX6_isPair) := goodIn_app (goodIn_of _ (by decide +kernel)) ggX6_hold_X6_isPair
set_option maxRecDepth 20000 in
theorem ggX6_hold_X6_held : GoodIn wsX6_hold wsX6_held := goodIn_r _ [21, 22, 23, 1, 3, 24, 25, 26, 8, 27, 28, 29, 30, 31, 32, 33, 34, 35, 36, 37, 38, 39, 40, 41, 42, 43, 44, 45, 46, 47, 48, 49, 50, 51, 52, 53, 54, 55, 56, 57, 58, 59, 60, 61, 62, 63, 64, 65, 66, 67, 68, 69, 70, 71, 72, 73, 74, 75, 76, 77, 78, 15, 79, 80, 81, 82, 83, 84, 85, 86, 87, 88, 89, 90, 91, 92, 93, 94, 95, 96, 97, 98, 99, 100, 101, 102, 103, 104, 105, 106, 107, 108, 109, 110, 111, 112, 113, 114, 115, 116, 13, 14, 16, 17, 117, 118, 119, 120, 121, 122, 123, 124, 125, 126, 127, 128, 129, 130, 131, 132, 133, 134, 135, 136, 137, 138, 139, 140, 141, 142, 143, 144, 145, 146, 147, 148, 149, 150, 151, 152, 153, 154, 155, 156, 157, 158, 159, 160, 161, 162, 163, 164, 165, 166, 167, 168, 169, 170, 171, 172, 173, 174, 175, 176, 177, 178, 179, 180, 187, 188, 189, 190, 191, 192, 193, 194, 195, 196, 197, 198, 199, 200, 201, 202, 203, 204, 205, 206, 207, 208, 181, 182, 183, 184, 185, 186, 209, 210, 211] (by decide +kernel) (by decide +kernel)
set_option maxRecDepth 20000 in
theorem gX6_hold_X6_held : GoodIn wsX6_hold (wsV RX6 165 RX6 yX6_held wsX6_held) := goodIn_app (goodIn_of _ (by decide +kernel)) ggX6_hold_X6_held
theorem dX6_hold_0 : decode cX6_hold 0 = .ok (.aload_n 0, 1) := by decide +kernel
theorem dX6_hold_1 : decode cX6_hold 1 = .ok (.iload_n 1, 1) := by decide +kernel
theorem dX6_hold_2 : decode cX6_hold 2 = .ok (.iload_n 2, 1) := by decide +kernel
theorem dX6_hold_3 : decode cX6_hold 3 = .ok (.invokevirtual 162, 3) := by decide +kernel
theorem dX6_hold_6 : decode cX6_hold 6 = .ok (.ifCond .ne 6, 3) := by decide +kernel
theorem dX6_hold_9 : decode cX6_hold 9 = .ok (.bipush (-101), 2) := by decide +kernel
theorem dX6_hold_11 : decode cX6_hold 11 = .ok (.ireturn, 1) := by decide +kernel
theorem dX6_hold_12 : decode cX6_hold 12 = .ok (.aload_n 0, 1) := by decide +kernel
theorem dX6_hold_13 : decode cX6_hold 13 = .ok (.iload_n 1, 1) := by decide +kernel
theorem dX6_hold_14 : decode cX6_hold 14 = .ok (.iload_n 2, 1) := by decide +kernel
theorem dX6_hold_15 : decode cX6_hold 15 = .ok (.invokevirtual 165, 3) := by decide +kernel
theorem dX6_hold_18 : decode cX6_hold 18 = .ok (.istore_n 3, 1) := by decide +kernel
theorem dX6_hold_19 : decode cX6_hold 19 = .ok (.aload_n 0, 1) := by decide +kernel
theorem dX6_hold_20 : decode cX6_hold 20 = .ok (.iload_n 3, 1) := by decide +kernel
theorem dX6_hold_21 : decode cX6_hold 21 = .ok (.ifCond .ne 10, 3) := by decide +kernel
theorem dX6_hold_24 : decode cX6_hold 24 = .ok (.aload_n 0, 1) := by decide +kernel
theorem dX6_hold_25 : decode cX6_hold 25 = .ok (.getfield 43, 3) := by decide +kernel
theorem dX6_hold_28 : decode cX6_hold 28 = .ok (.goto 4, 3) := by decide +kernel
theorem dX6_hold_31 : decode cX6_hold 31 = .ok (.iconst (-1), 1) := by decide +kernel
theorem dX6_hold_32 : decode cX6_hold 32 = .ok (.putfield 50, 3) := by decide +kernel
theorem dX6_hold_35 : decode cX6_hold 35 = .ok (.aload_n 0, 1) := by decide +kernel
theorem dX6_hold_36 : decode cX6_hold 36 = .ok (.iload_n 3, 1) := by decide +kernel
theorem dX6_hold_37 : decode cX6_hold 37 = .ok (.ifCond .ne 10, 3) := by decide +kernel
theorem dX6_hold_40 : decode cX6_hold 40 = .ok (.aload_n 0, 1) := by decide +kernel
theorem dX6_hold_41 : decode cX6_hold 41 = .ok (.getfield 47, 3) := by decide +kernel
theorem dX6_hold_44 : decode cX6_hold 44 = .ok (.goto 4, 3) := by decide +kernel
theorem dX6_hold_47 : decode cX6_hold 47 = .ok (.iconst (-1), 1) := by decide +kernel
theorem dX6_hold_48 : decode cX6_hold 48 = .ok (.putfield 53, 3) := by decide +kernel
theorem dX6_hold_51 : decode cX6_hold 51 = .ok (.iload_n 3, 1) := by decide +kernel
theorem dX6_hold_52 : decode cX6_hold 52 = .ok (.ireturn, 1) := by decide +kernel
theorem dX6_first_0 : decode cX6_first 0 = .ok (.iload_n 1, 1) := by decide +kernel
theorem dX6_first_1 : decode cX6_first 1 = .ok (.lookupswitch 37 #[(0, 27), (1, 32)], 27) := by decide +kernel
theorem dX6_first_28 : decode cX6_first 28 = .ok (.aload_n 0, 1) := by decide +kernel
theorem dX6_first_29 : decode cX6_first 29 = .ok (.getfield 50, 3) := by decide +kernel
theorem dX6_first_32 : decode cX6_first 32 = .ok (.ireturn, 1) := by decide +kernel
theorem dX6_first_33 : decode cX6_first 33 = .ok (.aload_n 0, 1) := by decide +kernel
theorem dX6_first_34 : decode cX6_first 34 = .ok (.getfield 53, 3) := by decide +kernel
theorem dX6_first_37 : decode cX6_first 37 = .ok (.ireturn, 1) := by decide +kernel
theorem dX6_first_38 : decode cX6_first 38 = .ok (.bipush (-101), 2) := by decide +kernel
theorem dX6_first_40 : decode cX6_first 40 = .ok (.ireturn, 1) := by decide +kernel
set_option maxRecDepth 20000 in
theorem ggX6_match_X0_has : GoodIn wsX6_match wsX0_has := goodIn_r _ [8, 9, 176, 177, 178, 179, 180, 181] (by decide +kernel) (by decide +kernel)
set_option maxRecDepth 20000 in
theorem gX6_match_X0_has : GoodIn wsX6_match (wsV RX6 168 RX0 yX0_has wsX0_has) := goodIn_app (goodIn_of _ (by decide +kernel)) ggX6_match_X0_has
set_option maxRecDepth 20000 in
theorem ggX6_match_X6_held : GoodIn wsX6_match wsX6_held := goodIn_r _ [14, 15, 16, 17, 18, 19, 20, 21, 13, 22, 23, 24, 25, 26, 27, 28, 29, 30, 31, 32, 33, 34, 35, 36, 37, 38, 39, 40, 41, 42, 43, 44, 45, 46, 47, 48, 49, 50, 51, 52, 53, 54, 55, 56, 57, 58, 59, 60, 61, 62, 63, 64, 65, 66, 67, 68, 69, 70, 71, 72, 73, 7, 74, 75, 76, 77, 78, 79, 80, 81, 82, 83, 84, 85, 86, 87, 88, 89, 90, 91, 92, 93, 94, 95, 96, 97, 98, 99, 100, 101, 102, 103, 104, 105, 106, 107, 108, 109, 110, 111, 5, 6, 8, 9, 112, 113, 114, 115, 116, 117, 118, 119, 120, 121, 122, 123, 124, 125, 126, 127, 128, 129, 130, 131, 132, 133, 134, 135, 136, 137, 138, 139, 140, 141, 142, 143, 144, 145, 146, 147, 148, 149, 150, 151, 152, 153, 154, 155, 156, 157, 158, 159, 160, 161, 162, 163, 164, 165, 166, 167, 168, 169, 170, 171, 172, 173, 174, 175, 182, 183, 184, 185, 186, 187, 188, 189, 190, 191, 192, 193, 194, 195, 196, 197, 198, 199, 200, 201, 202, 203, 176, 177, 178, 179, 180, 181, 204, 205, 206] (by decide +kernel) (by decide +kernel)
set_option maxRecDepth 20000 in
theorem gX6_match_X6_held : GoodIn wsX6_match (wsV RX6 165 RX6 yX6_held wsX6_held) := goodIn_app (goodIn_of _ (by decide +kernel)) ggX6_match_X6_held
theorem dX6_match_0 : decode cX6_match 0 = .ok (.aload_n 0, 1) := by decide +kernel
theorem dX6_match_1 : decode cX6_match 1 = .ok (.getfield 10, 3) := by decide +kernel
theorem dX6_match_4 : decode cX6_match 4 = .ok (.iload_n 1, 1) := by decide +kernel
theorem dX6_match_5 : decode cX6_match 5 = .ok (.invokevirtual 168, 3) := by decide +kernel
theorem dX6_match_8 : decode cX6_match 8 = .ok (.ifCond .ne 6, 3) := by decide +kernel
theorem dX6_match_11 : decode cX6_match 11 = .ok (.bipush (-101), 2) := by decide +kernel
theorem dX6_match_13 : decode cX6_match 13 = .ok (.ireturn, 1) := by decide +kernel
theorem dX6_match_14 : decode cX6_match 14 = .ok (.iconst 0, 1) := by decide +kernel
theorem dX6_match_15 : decode cX6_match 15 = .ok (.istore_n 2, 1) := by decide +kernel
theorem dX6_match_16 : decode cX6_match 16 = .ok (.iload_n 2, 1) := by decide +kernel
theorem dX6_match_17 : decode cX6_match 17 = .ok (.aload_n 0, 1) := by decide +kernel
theorem dX6_match_18 : decode cX6_match 18 = .ok (.getfield 16, 3) := by decide +kernel
theorem dX6_match_21 : decode cX6_match 21 = .ok (.getfield 91, 3) := by decide +kernel
theorem dX6_match_24 : decode cX6_match 24 = .ok (.if_icmp .ge 21, 3) := by decide +kernel
theorem dX6_match_27 : decode cX6_match 27 = .ok (.aload_n 0, 1) := by decide +kernel
theorem dX6_match_28 : decode cX6_match 28 = .ok (.iload_n 1, 1) := by decide +kernel
theorem dX6_match_29 : decode cX6_match 29 = .ok (.iload_n 2, 1) := by decide +kernel
theorem dX6_match_30 : decode cX6_match 30 = .ok (.invokevirtual 165, 3) := by decide +kernel
theorem dX6_match_33 : decode cX6_match 33 = .ok (.iconst 1, 1) := by decide +kernel
theorem dX6_match_34 : decode cX6_match 34 = .ok (.if_icmp .ne 5, 3) := by decide +kernel
theorem dX6_match_37 : decode cX6_match 37 = .ok (.iload_n 2, 1) := by decide +kernel
theorem dX6_match_38 : decode cX6_match 38 = .ok (.ireturn, 1) := by decide +kernel
theorem dX6_match_39 : decode cX6_match 39 = .ok (.iinc 2 1, 3) := by decide +kernel
theorem dX6_match_42 : decode cX6_match 42 = .ok (.goto (-26), 3) := by decide +kernel
theorem dX6_match_45 : decode cX6_match 45 = .ok (.iconst (-1), 1) := by decide +kernel
theorem dX6_match_46 : decode cX6_match 46 = .ok (.ireturn, 1) := by decide +kernel
set_option maxRecDepth 20000 in
theorem ggX6_find_X6_isPair : GoodIn wsX6_find wsX6_isPair := goodIn_r _ [10, 11, 12, 13, 14, 15, 16, 17, 18, 185, 186, 187, 188, 189, 190, 191, 192, 193, 194, 195, 196, 197, 198, 199, 200, 201, 202, 203, 204, 205, 206, 207] (by decide +kernel) (by decide +kernel)
set_option maxRecDepth 20000 in
theorem gX6_find_X6_isPair : GoodIn wsX6_find (wsV RX6 162 RX6 yX6_isPair wsX6_isPair) := goodIn_app (goodIn_of _ (by decide +kernel)) ggX6_find_X6_isPair
set_option maxRecDepth 20000 in
theorem ggX6_find_X3_takeGroups : GoodIn wsX6_find wsX3_takeGroups := goodIn_r _ [23, 24, 25, 26, 27, 28, 208, 209, 210] (by decide +kernel) (by decide +kernel)
set_option maxRecDepth 20000 in
theorem gX6_find_X3_takeGroups : GoodIn wsX6_find (wsV RX6 172 RX3 yX3_takeGroups wsX3_takeGroups) := goodIn_app (goodIn_of _ (by decide +kernel)) ggX6_find_X3_takeGroups
set_option maxRecDepth 20000 in
theorem ggX6_find_X6_runBoth : GoodIn wsX6_find wsX6_runBoth := goodIn_r _ [32, 33, 34, 35, 36, 37, 38, 39, 40, 41, 42, 43, 44, 45, 46, 47, 48, 49, 50, 51, 52, 53, 54, 55, 56, 57, 58, 59, 60, 61, 62, 63, 64, 65, 66, 67, 68, 69, 70, 71, 72, 73, 74, 75, 76, 77, 78, 79, 80, 81, 82, 83, 16, 84, 85, 86, 87, 88, 89, 90, 91, 92, 93, 94, 95, 96, 97, 98, 99, 100, 101, 102, 103, 104, 105, 106, 107, 108, 109, 110, 111, 112, 113, 114, 115, 116, 117, 118, 119, 120, 121, 14, 15, 17, 18, 122, 123, 124, 125, 126, 127, 128, 129, 130, 131, 132, 133, 134, 135, 136, 137, 138, 139, 140, 141, 142, 185, 186, 187, 188, 189, 190, 191, 192, 193, 194, 195, 196, 197, 198, 199, 200, 201, 211, 212, 213, 214, 215, 216, 217, 218, 219, 220, 221, 222, 223, 224, 225, 226, 227, 228, 229, 230, 231, 232, 202, 203, 204, 205, 206, 207] (by decide +kernel) (by decide +kernel)
set_option maxRecDepth 20000 in
theorem gX6_find_X6_runBoth : GoodIn wsX6_find (wsV RX6 177 RX6 yX6_runBoth wsX6_runBoth) := goodIn_app (goodIn_of _ (by decide +kernel)) ggX6_find_X6_runBoth
set_option maxRecDepth 20000 in
theorem ggX6_find_X6_stillAlike : GoodIn wsX6_find wsX6_stillAlike := goodIn_r _ [146, 5, 1, 147, 148, 149, 22, 150, 151, 152, 153, 154, 155, 156, 157, 158, 159, 9, 160, 33, 35, 34, 161, 162, 163, 164, 52, 165, 63, 64, 166, 167, 168, 169, 170, 171, 172, 173, 174, 24, 175, 176, 177, 178, 179, 185, 186, 187, 188, 189, 190, 191, 192, 193, 194, 195, 196, 197, 198, 199, 200, 201, 208, 209, 210, 211, 212, 213, 214, 215, 216, 217, 218, 219, 220, 221, 222, 223, 224, 225, 226, 227, 228, 229, 230, 231, 232] (by decide +kernel) (by decide +kernel)
set_option maxRecDepth 20000 in
theorem gX6_find_X6_stillAlike : GoodIn wsX6_find (wsV RX6 181 RX6 yX6_stillAlike wsX6_stillAlike) := goodIn_app (goodIn_of _ (by decide +kernel)) ggX6_find_X6_stillAlike
set_option maxRecDepth 20000 in
theorem ggX6_find_J6_numberOfTrailingZeros_0f7a4 : GoodIn wsX6_find wsJ6_numberOfTrailingZeros_0f7a4 := goodIn_r _ [183, 184] (by decide +kernel) (by decide +kernel)
set_option maxRecDepth 20000 in
theorem gX6_find_J6_numberOfTrailingZeros_0f7a4 : GoodIn wsX6_find (va_wsS RX6 188 yJ6_numberOfTrailingZeros_0f7a4 wsJ6_numberOfTrailingZeros_0f7a4) := goodIn_app (goodIn_of _ (by decide +kernel)) ggX6_find_J6_numberOfTrailingZeros_0f7a4
theorem dX6_find_0 : decode cX6_find 0 = .ok (.aload_n 0, 1) := by decide +kernel
theorem dX6_find_1 : decode cX6_find 1 = .ok (.iload_n 1, 1) := by decide +kernel
theorem dX6_find_2 : decode cX6_find 2 = .ok (.iload_n 2, 1) := by decide +kernel
theorem dX6_find_3 : decode cX6_find 3 = .ok (.invokevirtual 162, 3) := by decide +kernel
theorem dX6_find_6 : decode cX6_find 6 = .ok (.ifCond .ne 6, 3) := by decide +kernel
theorem dX6_find_9 : decode cX6_find 9 = .ok (.bipush (-101), 2) := by decide +kernel
theorem dX6_find_11 : decode cX6_find 11 = .ok (.ireturn, 1) := by decide +kernel
theorem dX6_find_12 : decode cX6_find 12 = .ok (.aload_n 0, 1) := by decide +kernel
theorem dX6_find_13 : decode cX6_find 13 = .ok (.getfield 26, 3) := by decide +kernel
theorem dX6_find_16 : decode cX6_find 16 = .ok (.aload_n 0, 1) := by decide +kernel
theorem dX6_find_17 : decode cX6_find 17 = .ok (.getfield 22, 3) := by decide +kernel
theorem dX6_find_20 : decode cX6_find 20 = .ok (.invokevirtual 172, 3) := by decide +kernel
theorem dX6_find_23 : decode cX6_find 23 = .ok (.ldc 176, 2) := by decide +kernel
theorem dX6_find_25 : decode cX6_find 25 = .ok (.istore_n 3, 1) := by decide +kernel
theorem dX6_find_26 : decode cX6_find 26 = .ok (.iconst 0, 1) := by decide +kernel
theorem dX6_find_27 : decode cX6_find 27 = .ok (.istore 4, 2) := by decide +kernel
theorem dX6_find_29 : decode cX6_find 29 = .ok (.iload 4, 2) := by decide +kernel
theorem dX6_find_31 : decode cX6_find 31 = .ok (.aload_n 0, 1) := by decide +kernel
theorem dX6_find_32 : decode cX6_find 32 = .ok (.getfield 59, 3) := by decide +kernel
theorem dX6_find_35 : decode cX6_find 35 = .ok (.if_icmp .gt 47, 3) := by decide +kernel
theorem dX6_find_38 : decode cX6_find 38 = .ok (.iconst 0, 1) := by decide +kernel
theorem dX6_find_39 : decode cX6_find 39 = .ok (.istore 5, 2) := by decide +kernel
theorem dX6_find_41 : decode cX6_find 41 = .ok (.iload 5, 2) := by decide +kernel
theorem dX6_find_43 : decode cX6_find 43 = .ok (.aload_n 0, 1) := by decide +kernel
theorem dX6_find_44 : decode cX6_find 44 = .ok (.getfield 59, 3) := by decide +kernel
theorem dX6_find_47 : decode cX6_find 47 = .ok (.if_icmp .gt 29, 3) := by decide +kernel
theorem dX6_find_50 : decode cX6_find 50 = .ok (.iload_n 3, 1) := by decide +kernel
theorem dX6_find_51 : decode cX6_find 51 = .ok (.ifCond .eq 19, 3) := by decide +kernel
theorem dX6_find_54 : decode cX6_find 54 = .ok (.aload_n 0, 1) := by decide +kernel
theorem dX6_find_55 : decode cX6_find 55 = .ok (.iload_n 3, 1) := by decide +kernel
theorem dX6_find_56 : decode cX6_find 56 = .ok (.aload_n 0, 1) := by decide +kernel
theorem dX6_find_57 : decode cX6_find 57 = .ok (.iload_n 1, 1) := by decide +kernel
theorem dX6_find_58 : decode cX6_find 58 = .ok (.iload_n 2, 1) := by decide +kernel
theorem dX6_find_59 : decode cX6_find 59 = .ok (.iload 4, 2) := by decide +kernel
theorem dX6_find_61 : decode cX6_find 61 = .ok (.iload 5, 2) := by decide +kernel
theorem dX6_find_63 : decode cX6_find 63 = .ok (.invokevirtual 177, 3) := by decide +kernel
theorem dX6_find_66 : decode cX6_find 66 = .ok (.invokevirtual 181, 3) := by decide +kernel
theorem dX6_find_69 : decode cX6_find 69 = .ok (.istore_n 3, 1) := by decide +kernel
theorem dX6_find_70 : decode cX6_find 70 = .ok (.iinc 5 1, 3) := by decide +kernel
theorem dX6_find_73 : decode cX6_find 73 = .ok (.goto (-32), 3) := by decide +kernel
theorem dX6_find_76 : decode cX6_find 76 = .ok (.iinc 4 1, 3) := by decide +kernel
theorem dX6_find_79 : decode cX6_find 79 = .ok (.goto (-50), 3) := by decide +kernel
theorem dX6_find_82 : decode cX6_find 82 = .ok (.iload_n 3, 1) := by decide +kernel
theorem dX6_find_83 : decode cX6_find 83 = .ok (.ifCond .ne 7, 3) := by decide +kernel
theorem dX6_find_86 : decode cX6_find 86 = .ok (.iconst (-1), 1) := by decide +kernel
theorem dX6_find_87 : decode cX6_find 87 = .ok (.goto 11, 3) := by decide +kernel
theorem dX6_find_90 : decode cX6_find 90 = .ok (.getstatic 185, 3) := by decide +kernel
theorem dX6_find_93 : decode cX6_find 93 = .ok (.iload_n 3, 1) := by decide +kernel
theorem dX6_find_94 : decode cX6_find 94 = .ok (.invokestatic 188, 3) := by decide +kernel
theorem dX6_find_97 : decode cX6_find 97 = .ok (.iaload, 1) := by decide +kernel
theorem dX6_find_98 : decode cX6_find 98 = .ok (.ireturn, 1) := by decide +kernel
set_option maxRecDepth 20000 in
theorem ggX6_assume_X6_isPair : GoodIn wsX6_assume wsX6_isPair := goodIn_r _ [7, 8, 9, 10, 11, 12, 13, 14, 15, 28, 29, 30, 31, 32, 33, 34, 35, 36, 37, 38, 39, 40, 41, 42, 43, 44, 48, 49, 50, 51, 52, 53] (by decide +kernel) (by decide +kernel)
set_option maxRecDepth 20000 in
theorem gX6_assume_X6_isPair : GoodIn wsX6_assume (wsV RX6 162 RX6 yX6_isPair wsX6_isPair) := goodIn_app (goodIn_of _ (by decide +kernel)) ggX6_assume_X6_isPair
set_option maxRecDepth 20000 in
theorem ggX6_assume_X2_has : GoodIn wsX6_assume wsX2_has := goodIn_r _ [20, 21, 22, 23, 45, 46, 47] (by decide +kernel) (by decide +kernel)
set_option maxRecDepth 20000 in
theorem gX6_assume_X2_has : GoodIn wsX6_assume (wsV RX6 193 RX2 yX2_has wsX2_has) := goodIn_app (goodIn_of _ (by decide +kernel)) ggX6_assume_X2_has
set_option maxRecDepth 20000 in
theorem ggX6_assume_X2_add : GoodIn wsX6_assume wsX2_add := goodIn_r _ [27, 22, 21, 23, 45, 46, 47] (by decide +kernel) (by decide +kernel)
set_option maxRecDepth 20000 in
theorem gX6_assume_X2_add : GoodIn wsX6_assume (wsV RX6 198 RX2 yX2_add wsX2_add) := goodIn_app (goodIn_of _ (by decide +kernel)) ggX6_assume_X2_add
theorem dX6_assume_0 : decode cX6_assume 0 = .ok (.aload_n 0, 1) := by decide +kernel
theorem dX6_assume_1 : decode cX6_assume 1 = .ok (.iload_n 1, 1) := by decide +kernel
theorem dX6_assume_2 : decode cX6_assume 2 = .ok (.iload_n 2, 1) := by decide +kernel
theorem dX6_assume_3 : decode cX6_assume 3 = .ok (.invokevirtual 162, 3) := by decide +kernel
theorem dX6_assume_6 : decode cX6_assume 6 = .ok (.ifCond .ne 6, 3) := by decide +kernel
theorem dX6_assume_9 : decode cX6_assume 9 = .ok (.bipush (-101), 2) := by decide +kernel
theorem dX6_assume_11 : decode cX6_assume 11 = .ok (.ireturn, 1) := by decide +kernel
theorem dX6_assume_12 : decode cX6_assume 12 = .ok (.aload_n 0, 1) := by decide +kernel
theorem dX6_assume_13 : decode cX6_assume 13 = .ok (.getfield 32, 3) := by decide +kernel
theorem dX6_assume_16 : decode cX6_assume 16 = .ok (.iload_n 1, 1) := by decide +kernel
theorem dX6_assume_17 : decode cX6_assume 17 = .ok (.iload_n 2, 1) := by decide +kernel
theorem dX6_assume_18 : decode cX6_assume 18 = .ok (.invokevirtual 193, 3) := by decide +kernel
theorem dX6_assume_21 : decode cX6_assume 21 = .ok (.ifCond .eq 6, 3) := by decide +kernel
theorem dX6_assume_24 : decode cX6_assume 24 = .ok (.bipush (-103), 2) := by decide +kernel
theorem dX6_assume_26 : decode cX6_assume 26 = .ok (.ireturn, 1) := by decide +kernel
theorem dX6_assume_27 : decode cX6_assume 27 = .ok (.aload_n 0, 1) := by decide +kernel
theorem dX6_assume_28 : decode cX6_assume 28 = .ok (.getfield 32, 3) := by decide +kernel
theorem dX6_assume_31 : decode cX6_assume 31 = .ok (.getfield 195, 3) := by decide +kernel
theorem dX6_assume_34 : decode cX6_assume 34 = .ok (.bipush 6, 2) := by decide +kernel
theorem dX6_assume_36 : decode cX6_assume 36 = .ok (.if_icmp .ne 8, 3) := by decide +kernel
theorem dX6_assume_39 : decode cX6_assume 39 = .ok (.bipush (-104), 2) := by decide +kernel
theorem dX6_assume_41 : decode cX6_assume 41 = .ok (.goto 12, 3) := by decide +kernel
theorem dX6_assume_44 : decode cX6_assume 44 = .ok (.aload_n 0, 1) := by decide +kernel
theorem dX6_assume_45 : decode cX6_assume 45 = .ok (.getfield 32, 3) := by decide +kernel
theorem dX6_assume_48 : decode cX6_assume 48 = .ok (.iload_n 1, 1) := by decide +kernel
theorem dX6_assume_49 : decode cX6_assume 49 = .ok (.iload_n 2, 1) := by decide +kernel
theorem dX6_assume_50 : decode cX6_assume 50 = .ok (.invokevirtual 198, 3) := by decide +kernel
theorem dX6_assume_53 : decode cX6_assume 53 = .ok (.ireturn, 1) := by decide +kernel
theorem dX6_drop_0 : decode cX6_drop 0 = .ok (.aload_n 0, 1) := by decide +kernel
theorem dX6_drop_1 : decode cX6_drop 1 = .ok (.getfield 32, 3) := by decide +kernel
theorem dX6_drop_4 : decode cX6_drop 4 = .ok (.getfield 195, 3) := by decide +kernel
theorem dX6_drop_7 : decode cX6_drop 7 = .ok (.istore_n 1, 1) := by decide +kernel
theorem dX6_drop_8 : decode cX6_drop 8 = .ok (.aload_n 0, 1) := by decide +kernel
theorem dX6_drop_9 : decode cX6_drop 9 = .ok (.getfield 32, 3) := by decide +kernel
theorem dX6_drop_12 : decode cX6_drop 12 = .ok (.iconst 0, 1) := by decide +kernel
theorem dX6_drop_13 : decode cX6_drop 13 = .ok (.putfield 195, 3) := by decide +kernel
theorem dX6_drop_16 : decode cX6_drop 16 = .ok (.iload_n 1, 1) := by decide +kernel
theorem dX6_drop_17 : decode cX6_drop 17 = .ok (.ireturn, 1) := by decide +kernel
set_option maxRecDepth 20000 in
theorem ggX6_prove_X4_begin : GoodIn wsX6_prove wsX4_begin := goodIn_r _ [10, 11, 12, 13, 9, 14, 15, 16, 218, 219] (by decide +kernel) (by decide +kernel)
set_option maxRecDepth 20000 in
theorem gX6_prove_X4_begin : GoodIn wsX6_prove (wsV RX6 201 RX4 yX4_begin wsX4_begin) := goodIn_app (goodIn_of _ (by decide +kernel)) ggX6_prove_X4_begin
set_option maxRecDepth 20000 in
theorem ggX6_prove_X6_proveInputs : GoodIn wsX6_prove wsX6_proveInputs := goodIn_r _ [21, 4, 22, 23, 2, 24, 25, 1, 26, 27, 28, 29, 30, 31, 32, 33, 34, 35, 36, 37, 38, 39, 40, 41, 42, 43, 44, 45, 46, 47, 48, 49, 50, 51, 52, 53, 54, 55, 56, 57, 58, 59, 60, 61, 62, 63, 64, 65, 66, 67, 68, 69, 70, 71, 72, 73, 74, 75, 76, 77, 78, 79, 80, 81, 82, 83, 84, 85, 86, 87, 88, 89, 90, 91, 92, 93, 94, 95, 96, 97, 98, 99, 100, 101, 102, 103, 104, 105, 106, 107, 108, 109, 110, 111, 112, 113, 114, 115, 116, 117, 118, 119, 120, 121, 122, 123, 124, 125, 126, 127, 128, 129, 130, 131, 132, 133, 134, 135, 136, 137, 138, 139, 140, 141, 142, 143, 144, 145, 146, 147, 148, 149, 20, 150, 151, 152, 153, 154, 155, 156, 157, 158, 159, 160, 161, 162, 163, 164, 165, 166, 167, 168, 169, 170, 171, 172, 173, 174, 175, 176, 177, 178, 179, 180, 181, 182, 183, 184, 185, 186, 187, 188, 189, 190, 191, 192, 193, 194, 195, 9, 196, 15, 197, 12, 13, 14, 16, 198, 199, 200, 201, 202, 203, 204, 205, 206, 207, 208, 209, 210, 211, 212, 213, 214, 215, 216, 217, 220, 221, 222, 223, 224, 225, 226, 227, 228, 229, 230, 231, 232, 233, 234, 235, 236, 237, 238, 239, 240, 241, 242, 243, 244, 245, 246, 247, 248, 249, 250, 218, 219] (by decide +kernel) (by decide +kernel)
set_option maxRecDepth 20000 in
theorem gX6_prove_X6_proveInputs : GoodIn wsX6_prove (wsV RX6 208 RX6 yX6_proveInputs wsX6_proveInputs) := goodIn_app (goodIn_of _ (by decide +kernel)) ggX6_prove_X6_proveInputs
theorem dX6_prove_0 : decode cX6_prove 0 = .ok (.aload_n 0, 1) := by decide +kernel
theorem dX6_prove_1 : decode cX6_prove 1 = .ok (.getfield 39, 3) := by decide +kernel
theorem dX6_prove_4 : decode cX6_prove 4 = .ok (.aload_n 0, 1) := by decide +kernel
theorem dX6_prove_5 : decode cX6_prove 5 = .ok (.getfield 32, 3) := by decide +kernel
theorem dX6_prove_8 : decode cX6_prove 8 = .ok (.getfield 195, 3) := by decide +kernel
theorem dX6_prove_11 : decode cX6_prove 11 = .ok (.invokevirtual 201, 3) := by decide +kernel
theorem dX6_prove_14 : decode cX6_prove 14 = .ok (.iconst 0, 1) := by decide +kernel
theorem dX6_prove_15 : decode cX6_prove 15 = .ok (.istore_n 1, 1) := by decide +kernel
theorem dX6_prove_16 : decode cX6_prove 16 = .ok (.iload_n 1, 1) := by decide +kernel
theorem dX6_prove_17 : decode cX6_prove 17 = .ok (.aload_n 0, 1) := by decide +kernel
theorem dX6_prove_18 : decode cX6_prove 18 = .ok (.getfield 32, 3) := by decide +kernel
theorem dX6_prove_21 : decode cX6_prove 21 = .ok (.getfield 195, 3) := by decide +kernel
theorem dX6_prove_24 : decode cX6_prove 24 = .ok (.if_icmp .ge 58, 3) := by decide +kernel
theorem dX6_prove_27 : decode cX6_prove 27 = .ok (.iconst 0, 1) := by decide +kernel
theorem dX6_prove_28 : decode cX6_prove 28 = .ok (.istore_n 2, 1) := by decide +kernel
theorem dX6_prove_29 : decode cX6_prove 29 = .ok (.iload_n 2, 1) := by decide +kernel
theorem dX6_prove_30 : decode cX6_prove 30 = .ok (.aload_n 0, 1) := by decide +kernel
theorem dX6_prove_31 : decode cX6_prove 31 = .ok (.getfield 59, 3) := by decide +kernel
theorem dX6_prove_34 : decode cX6_prove 34 = .ok (.if_icmp .gt 42, 3) := by decide +kernel
theorem dX6_prove_37 : decode cX6_prove 37 = .ok (.iconst 0, 1) := by decide +kernel
theorem dX6_prove_38 : decode cX6_prove 38 = .ok (.istore_n 3, 1) := by decide +kernel
theorem dX6_prove_39 : decode cX6_prove 39 = .ok (.iload_n 3, 1) := by decide +kernel
theorem dX6_prove_40 : decode cX6_prove 40 = .ok (.aload_n 0, 1) := by decide +kernel
theorem dX6_prove_41 : decode cX6_prove 41 = .ok (.getfield 59, 3) := by decide +kernel
theorem dX6_prove_44 : decode cX6_prove 44 = .ok (.if_icmp .gt 26, 3) := by decide +kernel
theorem dX6_prove_47 : decode cX6_prove 47 = .ok (.aload_n 0, 1) := by decide +kernel
theorem dX6_prove_48 : decode cX6_prove 48 = .ok (.getfield 39, 3) := by decide +kernel
theorem dX6_prove_51 : decode cX6_prove 51 = .ok (.getfield 205, 3) := by decide +kernel
theorem dX6_prove_54 : decode cX6_prove 54 = .ok (.ifCond .eq 10, 3) := by decide +kernel
theorem dX6_prove_57 : decode cX6_prove 57 = .ok (.aload_n 0, 1) := by decide +kernel
theorem dX6_prove_58 : decode cX6_prove 58 = .ok (.iload_n 1, 1) := by decide +kernel
theorem dX6_prove_59 : decode cX6_prove 59 = .ok (.iload_n 2, 1) := by decide +kernel
theorem dX6_prove_60 : decode cX6_prove 60 = .ok (.iload_n 3, 1) := by decide +kernel
theorem dX6_prove_61 : decode cX6_prove 61 = .ok (.invokevirtual 208, 3) := by decide +kernel
theorem dX6_prove_64 : decode cX6_prove 64 = .ok (.iinc 3 1, 3) := by decide +kernel
theorem dX6_prove_67 : decode cX6_prove 67 = .ok (.goto (-28), 3) := by decide +kernel
theorem dX6_prove_70 : decode cX6_prove 70 = .ok (.iinc 2 1, 3) := by decide +kernel
theorem dX6_prove_73 : decode cX6_prove 73 = .ok (.goto (-44), 3) := by decide +kernel
theorem dX6_prove_76 : decode cX6_prove 76 = .ok (.iinc 1 1, 3) := by decide +kernel
theorem dX6_prove_79 : decode cX6_prove 79 = .ok (.goto (-63), 3) := by decide +kernel
theorem dX6_prove_82 : decode cX6_prove 82 = .ok (.aload_n 0, 1) := by decide +kernel
theorem dX6_prove_83 : decode cX6_prove 83 = .ok (.getfield 39, 3) := by decide +kernel
theorem dX6_prove_86 : decode cX6_prove 86 = .ok (.getfield 205, 3) := by decide +kernel
theorem dX6_prove_89 : decode cX6_prove 89 = .ok (.ireturn, 1) := by decide +kernel
set_option maxRecDepth 20000 in
theorem ggX6_why_X6_within : GoodIn wsX6_why wsX6_within := goodIn_r _ [6] (by decide +kernel) (by decide +kernel)
set_option maxRecDepth 20000 in
theorem gX6_why_X6_within : GoodIn wsX6_why (va_wsS RX6 83 yX6_within wsX6_within) := goodIn_app (goodIn_of _ (by decide +kernel)) ggX6_why_X6_within
theorem dX6_why_0 : decode cX6_why 0 = .ok (.iload_n 1, 1) := by decide +kernel
theorem dX6_why_1 : decode cX6_why 1 = .ok (.iconst 0, 1) := by decide +kernel
theorem dX6_why_2 : decode cX6_why 2 = .ok (.iconst 4, 1) := by decide +kernel
theorem dX6_why_3 : decode cX6_why 3 = .ok (.invokestatic 83, 3) := by decide +kernel
theorem dX6_why_6 : decode cX6_why 6 = .ok (.ifCond .eq 15, 3) := by decide +kernel
theorem dX6_why_9 : decode cX6_why 9 = .ok (.aload_n 0, 1) := by decide +kernel
theorem dX6_why_10 : decode cX6_why 10 = .ok (.getfield 39, 3) := by decide +kernel
theorem dX6_why_13 : decode cX6_why 13 = .ok (.getfield 211, 3) := by decide +kernel
theorem dX6_why_16 : decode cX6_why 16 = .ok (.iload_n 1, 1) := by decide +kernel
theorem dX6_why_17 : decode cX6_why 17 = .ok (.iaload, 1) := by decide +kernel
theorem dX6_why_18 : decode cX6_why 18 = .ok (.goto 5, 3) := by decide +kernel
theorem dX6_why_21 : decode cX6_why 21 = .ok (.bipush (-101), 2) := by decide +kernel
theorem dX6_why_23 : decode cX6_why 23 = .ok (.ireturn, 1) := by decide +kernel
theorem dX6_count_0 : decode cX6_count 0 = .ok (.iload_n 1, 1) := by decide +kernel
theorem dX6_count_1 : decode cX6_count 1 = .ok (.tableswitch 117 0 11 #[63, 71, 79, 87, 92, 92, 92, 92, 104, 104, 104, 104], 63) := by decide +kernel
theorem dX6_count_64 : decode cX6_count 64 = .ok (.aload_n 0, 1) := by decide +kernel
theorem dX6_count_65 : decode cX6_count 65 = .ok (.getfield 10, 3) := by decide +kernel
theorem dX6_count_68 : decode cX6_count 68 = .ok (.getfield 91, 3) := by decide +kernel
theorem dX6_count_71 : decode cX6_count 71 = .ok (.ireturn, 1) := by decide +kernel
theorem dX6_count_72 : decode cX6_count 72 = .ok (.aload_n 0, 1) := by decide +kernel
theorem dX6_count_73 : decode cX6_count 73 = .ok (.getfield 16, 3) := by decide +kernel
theorem dX6_count_76 : decode cX6_count 76 = .ok (.getfield 91, 3) := by decide +kernel
theorem dX6_count_79 : decode cX6_count 79 = .ok (.ireturn, 1) := by decide +kernel
theorem dX6_count_80 : decode cX6_count 80 = .ok (.aload_n 0, 1) := by decide +kernel
theorem dX6_count_81 : decode cX6_count 81 = .ok (.getfield 32, 3) := by decide +kernel
theorem dX6_count_84 : decode cX6_count 84 = .ok (.getfield 195, 3) := by decide +kernel
theorem dX6_count_87 : decode cX6_count 87 = .ok (.ireturn, 1) := by decide +kernel
theorem dX6_count_88 : decode cX6_count 88 = .ok (.aload_n 0, 1) := by decide +kernel
theorem dX6_count_89 : decode cX6_count 89 = .ok (.getfield 56, 3) := by decide +kernel
theorem dX6_count_92 : decode cX6_count 92 = .ok (.ireturn, 1) := by decide +kernel
theorem dX6_count_93 : decode cX6_count 93 = .ok (.aload_n 0, 1) := by decide +kernel
theorem dX6_count_94 : decode cX6_count 94 = .ok (.getfield 22, 3) := by decide +kernel
theorem dX6_count_97 : decode cX6_count 97 = .ok (.getfield 214, 3) := by decide +kernel
theorem dX6_count_100 : decode cX6_count 100 = .ok (.iload_n 1, 1) := by decide +kernel
theorem dX6_count_101 : decode cX6_count 101 = .ok (.iconst 4, 1) := by decide +kernel
theorem dX6_count_102 : decode cX6_count 102 = .ok (.isub, 1) := by decide +kernel
theorem dX6_count_103 : decode cX6_count 103 = .ok (.iaload, 1) := by decide +kernel
theorem dX6_count_104 : decode cX6_count 104 = .ok (.ireturn, 1) := by decide +kernel
theorem dX6_count_105 : decode cX6_count 105 = .ok (.aload_n 0, 1) := by decide +kernel
theorem dX6_count_106 : decode cX6_count 106 = .ok (.getfield 22, 3) := by decide +kernel
theorem dX6_count_109 : decode cX6_count 109 = .ok (.getfield 159, 3) := by decide +kernel
theorem dX6_count_112 : decode cX6_count 112 = .ok (.iload_n 1, 1) := by decide +kernel
theorem dX6_count_113 : decode cX6_count 113 = .ok (.bipush 8, 2) := by decide +kernel
theorem dX6_count_115 : decode cX6_count 115 = .ok (.isub, 1) := by decide +kernel
theorem dX6_count_116 : decode cX6_count 116 = .ok (.iaload, 1) := by decide +kernel
theorem dX6_count_117 : decode cX6_count 117 = .ok (.ireturn, 1) := by decide +kernel
theorem dX6_count_118 : decode cX6_count 118 = .ok (.bipush (-101), 2) := by decide +kernel
theorem dX6_count_120 : decode cX6_count 120 = .ok (.ireturn, 1) := by decide +kernel
theorem dX6_within_0 : decode cX6_within 0 = .ok (.iload_n 0, 1) := by decide +kernel
theorem dX6_within_1 : decode cX6_within 1 = .ok (.iload_n 1, 1) := by decide +kernel
theorem dX6_within_2 : decode cX6_within 2 = .ok (.if_icmp .lt 12, 3) := by decide +kernel
theorem dX6_within_5 : decode cX6_within 5 = .ok (.iload_n 0, 1) := by decide +kernel
theorem dX6_within_6 : decode cX6_within 6 = .ok (.iload_n 2, 1) := by decide +kernel
theorem dX6_within_7 : decode cX6_within 7 = .ok (.if_icmp .gt 7, 3) := by decide +kernel
theorem dX6_within_10 : decode cX6_within 10 = .ok (.iconst 1, 1) := by decide +kernel
theorem dX6_within_11 : decode cX6_within 11 = .ok (.goto 4, 3) := by decide +kernel
theorem dX6_within_14 : decode cX6_within 14 = .ok (.iconst 0, 1) := by decide +kernel
theorem dX6_within_15 : decode cX6_within 15 = .ok (.ireturn, 1) := by decide +kernel
theorem dX6_buildOf_0 : decode cX6_buildOf 0 = .ok (.iload_n 1, 1) := by decide +kernel
theorem dX6_buildOf_1 : decode cX6_buildOf 1 = .ok (.ifCond .ne 10, 3) := by decide +kernel
theorem dX6_buildOf_4 : decode cX6_buildOf 4 = .ok (.aload_n 0, 1) := by decide +kernel
theorem dX6_buildOf_5 : decode cX6_buildOf 5 = .ok (.getfield 10, 3) := by decide +kernel
theorem dX6_buildOf_8 : decode cX6_buildOf 8 = .ok (.goto 7, 3) := by decide +kernel
theorem dX6_buildOf_11 : decode cX6_buildOf 11 = .ok (.aload_n 0, 1) := by decide +kernel
theorem dX6_buildOf_12 : decode cX6_buildOf 12 = .ok (.getfield 16, 3) := by decide +kernel
theorem dX6_buildOf_15 : decode cX6_buildOf 15 = .ok (.areturn, 1) := by decide +kernel
set_option maxRecDepth 20000 in
theorem ggX6_isMethod_X6_within : GoodIn wsX6_isMethod wsX6_within := goodIn_r _ [4] (by decide +kernel) (by decide +kernel)
set_option maxRecDepth 20000 in
theorem gX6_isMethod_X6_within : GoodIn wsX6_isMethod (va_wsS RX6 83 yX6_within wsX6_within) := goodIn_app (goodIn_of _ (by decide +kernel)) ggX6_isMethod_X6_within
set_option maxRecDepth 20000 in
theorem ggX6_isMethod_X6_buildOf : GoodIn wsX6_isMethod wsX6_buildOf := goodIn_r _ [8, 9, 10, 17, 18, 19, 20, 21, 22, 23, 24, 25, 26, 27, 28, 29, 30, 31, 32, 33] (by decide +kernel) (by decide +kernel)
set_option maxRecDepth 20000 in
theorem gX6_isMethod_X6_buildOf : GoodIn wsX6_isMethod (wsV RX6 87 RX6 yX6_buildOf wsX6_buildOf) := goodIn_app (goodIn_of _ (by decide +kernel)) ggX6_isMethod_X6_buildOf
set_option maxRecDepth 20000 in
theorem ggX6_isMethod_X0_has : GoodIn wsX6_isMethod wsX0_has := goodIn_r _ [15, 16, 34, 35, 36, 37, 38, 39] (by decide +kernel) (by decide +kernel)
set_option maxRecDepth 20000 in
theorem gX6_isMethod_X0_has : GoodIn wsX6_isMethod (wsV RX6 168 RX0 yX0_has wsX0_has) := goodIn_app (goodIn_of _ (by decide +kernel)) ggX6_isMethod_X0_has
theorem dX6_isMethod_0 : decode cX6_isMethod 0 = .ok (.iload_n 1, 1) := by decide +kernel
theorem dX6_isMethod_1 : decode cX6_isMethod 1 = .ok (.iconst 0, 1) := by decide +kernel
theorem dX6_isMethod_2 : decode cX6_isMethod 2 = .ok (.iconst 1, 1) := by decide +kernel
theorem dX6_isMethod_3 : decode cX6_isMethod 3 = .ok (.invokestatic 83, 3) := by decide +kernel
theorem dX6_isMethod_6 : decode cX6_isMethod 6 = .ok (.ifCond .eq 19, 3) := by decide +kernel
theorem dX6_isMethod_9 : decode cX6_isMethod 9 = .ok (.aload_n 0, 1) := by decide +kernel
theorem dX6_isMethod_10 : decode cX6_isMethod 10 = .ok (.iload_n 1, 1) := by decide +kernel
theorem dX6_isMethod_11 : decode cX6_isMethod 11 = .ok (.invokevirtual 87, 3) := by decide +kernel
theorem dX6_isMethod_14 : decode cX6_isMethod 14 = .ok (.iload_n 2, 1) := by decide +kernel
theorem dX6_isMethod_15 : decode cX6_isMethod 15 = .ok (.invokevirtual 168, 3) := by decide +kernel
theorem dX6_isMethod_18 : decode cX6_isMethod 18 = .ok (.ifCond .eq 7, 3) := by decide +kernel
theorem dX6_isMethod_21 : decode cX6_isMethod 21 = .ok (.iconst 1, 1) := by decide +kernel
theorem dX6_isMethod_22 : decode cX6_isMethod 22 = .ok (.goto 4, 3) := by decide +kernel
theorem dX6_isMethod_25 : decode cX6_isMethod 25 = .ok (.iconst 0, 1) := by decide +kernel
theorem dX6_isMethod_26 : decode cX6_isMethod 26 = .ok (.ireturn, 1) := by decide +kernel
set_option maxRecDepth 20000 in
theorem ggX6_isPair_X0_has : GoodIn wsX6_isPair wsX0_has := goodIn_r _ [7, 8, 26, 27, 28, 29, 30, 31] (by decide +kernel) (by decide +kernel)
set_option maxRecDepth 20000 in
theorem gX6_isPair_X0_has : GoodIn wsX6_isPair (wsV RX6 168 RX0 yX0_has wsX0_has) := goodIn_app (goodIn_of _ (by decide +kernel)) ggX6_isPair_X0_has
theorem dX6_isPair_0 : decode cX6_isPair 0 = .ok (.aload_n 0, 1) := by decide +kernel
theorem dX6_isPair_1 : decode cX6_isPair 1 = .ok (.getfield 10, 3) := by decide +kernel
theorem dX6_isPair_4 : decode cX6_isPair 4 = .ok (.iload_n 1, 1) := by decide +kernel
theorem dX6_isPair_5 : decode cX6_isPair 5 = .ok (.invokevirtual 168, 3) := by decide +kernel
theorem dX6_isPair_8 : decode cX6_isPair 8 = .ok (.ifCond .eq 18, 3) := by decide +kernel
theorem dX6_isPair_11 : decode cX6_isPair 11 = .ok (.aload_n 0, 1) := by decide +kernel
theorem dX6_isPair_12 : decode cX6_isPair 12 = .ok (.getfield 16, 3) := by decide +kernel
theorem dX6_isPair_15 : decode cX6_isPair 15 = .ok (.iload_n 2, 1) := by decide +kernel
theorem dX6_isPair_16 : decode cX6_isPair 16 = .ok (.invokevirtual 168, 3) := by decide +kernel
theorem dX6_isPair_19 : decode cX6_isPair 19 = .ok (.ifCond .eq 7, 3) := by decide +kernel
theorem dX6_isPair_22 : decode cX6_isPair 22 = .ok (.iconst 1, 1) := by decide +kernel
theorem dX6_isPair_23 : decode cX6_isPair 23 = .ok (.goto 4, 3) := by decide +kernel
theorem dX6_isPair_26 : decode cX6_isPair 26 = .ok (.iconst 0, 1) := by decide +kernel
theorem dX6_isPair_27 : decode cX6_isPair 27 = .ok (.ireturn, 1) := by decide +kernel
set_option maxRecDepth 20000 in
theorem ggX6_fits_X6_within : GoodIn wsX6_fits wsX6_within := goodIn_r _ [6] (by decide +kernel) (by decide +kernel)
set_option maxRecDepth 20000 in
theorem gX6_fits_X6_within : GoodIn wsX6_fits (va_wsS RX6 83 yX6_within wsX6_within) := goodIn_app (goodIn_of _ (by decide +kernel)) ggX6_fits_X6_within
theorem dX6_fits_0 : decode cX6_fits 0 = .ok (.getstatic 217, 3) := by decide +kernel
theorem dX6_fits_3 : decode cX6_fits 3 = .ok (.iconst 3, 1) := by decide +kernel
theorem dX6_fits_4 : decode cX6_fits 4 = .ok (.iload_n 1, 1) := by decide +kernel
theorem dX6_fits_5 : decode cX6_fits 5 = .ok (.imul, 1) := by decide +kernel
theorem dX6_fits_6 : decode cX6_fits 6 = .ok (.iload_n 2, 1) := by decide +kernel
theorem dX6_fits_7 : decode cX6_fits 7 = .ok (.iadd, 1) := by decide +kernel
theorem dX6_fits_8 : decode cX6_fits 8 = .ok (.iaload, 1) := by decide +kernel
theorem dX6_fits_9 : decode cX6_fits 9 = .ok (.tableswitch 86 1 6 #[39, 46, 56, 64, 71, 78], 39) := by decide +kernel
theorem dX6_fits_48 : decode cX6_fits 48 = .ok (.iload_n 3, 1) := by decide +kernel
theorem dX6_fits_49 : decode cX6_fits 49 = .ok (.iconst 0, 1) := by decide +kernel
theorem dX6_fits_50 : decode cX6_fits 50 = .ok (.iconst 5, 1) := by decide +kernel
theorem dX6_fits_51 : decode cX6_fits 51 = .ok (.invokestatic 83, 3) := by decide +kernel
theorem dX6_fits_54 : decode cX6_fits 54 = .ok (.ireturn, 1) := by decide +kernel
theorem dX6_fits_55 : decode cX6_fits 55 = .ok (.iload_n 3, 1) := by decide +kernel
theorem dX6_fits_56 : decode cX6_fits 56 = .ok (.iconst 0, 1) := by decide +kernel
theorem dX6_fits_57 : decode cX6_fits 57 = .ok (.aload_n 0, 1) := by decide +kernel
theorem dX6_fits_58 : decode cX6_fits 58 = .ok (.getfield 59, 3) := by decide +kernel
theorem dX6_fits_61 : decode cX6_fits 61 = .ok (.invokestatic 83, 3) := by decide +kernel
theorem dX6_fits_64 : decode cX6_fits 64 = .ok (.ireturn, 1) := by decide +kernel
theorem dX6_fits_65 : decode cX6_fits 65 = .ok (.iload_n 3, 1) := by decide +kernel
theorem dX6_fits_66 : decode cX6_fits 66 = .ok (.iconst 0, 1) := by decide +kernel
theorem dX6_fits_67 : decode cX6_fits 67 = .ok (.bipush 24, 2) := by decide +kernel
theorem dX6_fits_69 : decode cX6_fits 69 = .ok (.invokestatic 83, 3) := by decide +kernel
theorem dX6_fits_72 : decode cX6_fits 72 = .ok (.ireturn, 1) := by decide +kernel
theorem dX6_fits_73 : decode cX6_fits 73 = .ok (.iload_n 3, 1) := by decide +kernel
theorem dX6_fits_74 : decode cX6_fits 74 = .ok (.iconst 0, 1) := by decide +kernel
theorem dX6_fits_75 : decode cX6_fits 75 = .ok (.iconst 3, 1) := by decide +kernel
theorem dX6_fits_76 : decode cX6_fits 76 = .ok (.invokestatic 83, 3) := by decide +kernel
theorem dX6_fits_79 : decode cX6_fits 79 = .ok (.ireturn, 1) := by decide +kernel
theorem dX6_fits_80 : decode cX6_fits 80 = .ok (.iload_n 3, 1) := by decide +kernel
theorem dX6_fits_81 : decode cX6_fits 81 = .ok (.iconst 0, 1) := by decide +kernel
theorem dX6_fits_82 : decode cX6_fits 82 = .ok (.iconst 5, 1) := by decide +kernel
theorem dX6_fits_83 : decode cX6_fits 83 = .ok (.invokestatic 83, 3) := by decide +kernel
theorem dX6_fits_86 : decode cX6_fits 86 = .ok (.ireturn, 1) := by decide +kernel
theorem dX6_fits_87 : decode cX6_fits 87 = .ok (.iload_n 3, 1) := by decide +kernel
theorem dX6_fits_88 : decode cX6_fits 88 = .ok (.iconst 2, 1) := by decide +kernel
theorem dX6_fits_89 : decode cX6_fits 89 = .ok (.bipush 7, 2) := by decide +kernel
theorem dX6_fits_91 : decode cX6_fits 91 = .ok (.invokestatic 83, 3) := by decide +kernel
theorem dX6_fits_94 : decode cX6_fits 94 = .ok (.ireturn, 1) := by decide +kernel
theorem dX6_fits_95 : decode cX6_fits 95 = .ok (.iconst 1, 1) := by decide +kernel
theorem dX6_fits_96 : decode cX6_fits 96 = .ok (.ireturn, 1) := by decide +kernel
set_option maxRecDepth 20000 in
theorem ggX6_runBoth_X1_go : GoodIn wsX6_runBoth wsX1_go := goodIn_r _ [9, 10, 11, 12, 13, 14, 15, 16, 17, 18, 19, 20, 21, 22, 23, 24, 25, 26, 27, 28, 29, 30, 31, 32, 33, 34, 35, 8, 36, 37, 38, 39, 40, 41, 42, 43, 44, 45, 46, 47, 48, 49, 50, 51, 52, 53, 54, 55, 56, 57, 58, 59, 60, 61, 62, 63, 64, 65, 66, 67, 68, 69, 70, 71, 72, 73, 74, 75, 76, 77, 78, 79, 80, 81, 82, 83, 84, 85, 86, 87, 88, 89, 90, 91, 92, 93, 94, 95, 96, 97, 98, 99, 100, 101, 102, 103, 104, 105, 106, 107, 108, 109, 110, 111, 112, 113, 114, 115, 133, 134, 135, 136, 137, 138, 139, 140, 141, 155, 156, 157, 158, 159, 160, 142, 143, 144, 145, 146, 147, 148, 149, 150, 151, 152, 153, 154] (by decide +kernel) (by decide +kernel)
set_option maxRecDepth 20000 in
theorem gX6_runBoth_X1_go : GoodIn wsX6_runBoth (wsV RX6 121 RX1 yX1_go wsX1_go) := goodIn_app (goodIn_of _ (by decide +kernel)) ggX6_runBoth_X1_go
theorem dX6_runBoth_0 : decode cX6_runBoth 0 = .ok (.aload_n 0, 1) := by decide +kernel
theorem dX6_runBoth_1 : decode cX6_runBoth 1 = .ok (.getfield 71, 3) := by decide +kernel
theorem dX6_runBoth_4 : decode cX6_runBoth 4 = .ok (.iload_n 1, 1) := by decide +kernel
theorem dX6_runBoth_5 : decode cX6_runBoth 5 = .ok (.iload_n 3, 1) := by decide +kernel
theorem dX6_runBoth_6 : decode cX6_runBoth 6 = .ok (.iload 4, 2) := by decide +kernel
theorem dX6_runBoth_8 : decode cX6_runBoth 8 = .ok (.invokevirtual 121, 3) := by decide +kernel
theorem dX6_runBoth_11 : decode cX6_runBoth 11 = .ok (.aload_n 0, 1) := by decide +kernel
theorem dX6_runBoth_12 : decode cX6_runBoth 12 = .ok (.getfield 74, 3) := by decide +kernel
theorem dX6_runBoth_15 : decode cX6_runBoth 15 = .ok (.iload_n 2, 1) := by decide +kernel
theorem dX6_runBoth_16 : decode cX6_runBoth 16 = .ok (.iload_n 3, 1) := by decide +kernel
theorem dX6_runBoth_17 : decode cX6_runBoth 17 = .ok (.iload 4, 2) := by decide +kernel
theorem dX6_runBoth_19 : decode cX6_runBoth 19 = .ok (.invokevirtual 121, 3) := by decide +kernel
theorem dX6_runBoth_22 : decode cX6_runBoth 22 = .ok (.aload_n 0, 1) := by decide +kernel
theorem dX6_runBoth_23 : decode cX6_runBoth 23 = .ok (.getfield 71, 3) := by decide +kernel
theorem dX6_runBoth_26 : decode cX6_runBoth 26 = .ok (.getfield 125, 3) := by decide +kernel
theorem dX6_runBoth_29 : decode cX6_runBoth 29 = .ok (.getfield 129, 3) := by decide +kernel
theorem dX6_runBoth_32 : decode cX6_runBoth 32 = .ok (.iconst 2, 1) := by decide +kernel
theorem dX6_runBoth_33 : decode cX6_runBoth 33 = .ok (.if_icmp .eq 21, 3) := by decide +kernel
theorem dX6_runBoth_36 : decode cX6_runBoth 36 = .ok (.aload_n 0, 1) := by decide +kernel
theorem dX6_runBoth_37 : decode cX6_runBoth 37 = .ok (.getfield 74, 3) := by decide +kernel
theorem dX6_runBoth_40 : decode cX6_runBoth 40 = .ok (.getfield 125, 3) := by decide +kernel
theorem dX6_runBoth_43 : decode cX6_runBoth 43 = .ok (.getfield 129, 3) := by decide +kernel
theorem dX6_runBoth_46 : decode cX6_runBoth 46 = .ok (.iconst 2, 1) := by decide +kernel
theorem dX6_runBoth_47 : decode cX6_runBoth 47 = .ok (.if_icmp .eq 7, 3) := by decide +kernel
theorem dX6_runBoth_50 : decode cX6_runBoth 50 = .ok (.iconst 1, 1) := by decide +kernel
theorem dX6_runBoth_51 : decode cX6_runBoth 51 = .ok (.goto 4, 3) := by decide +kernel
theorem dX6_runBoth_54 : decode cX6_runBoth 54 = .ok (.iconst 0, 1) := by decide +kernel
theorem dX6_runBoth_55 : decode cX6_runBoth 55 = .ok (.ireturn, 1) := by decide +kernel
set_option maxRecDepth 20000 in
theorem ggX6_held_X6_runBoth : GoodIn wsX6_held wsX6_runBoth := goodIn_r _ [9, 10, 11, 12, 13, 14, 15, 16, 17, 18, 19, 20, 21, 22, 23, 24, 25, 26, 27, 28, 29, 30, 31, 32, 33, 34, 35, 36, 37, 38, 39, 40, 41, 42, 43, 44, 45, 46, 47, 48, 49, 50, 51, 52, 53, 54, 55, 56, 57, 58, 59, 60, 61, 62, 63, 64, 65, 66, 67, 68, 69, 70, 71, 72, 73, 74, 75, 76, 77, 78, 79, 80, 81, 82, 83, 84, 85, 86, 87, 88, 89, 90, 91, 92, 93, 94, 95, 96, 97, 98, 99, 100, 101, 102, 103, 104, 105, 106, 107, 108, 109, 110, 111, 112, 113, 114, 115, 116, 117, 118, 119, 120, 121, 122, 123, 124, 151, 152, 153, 154, 155, 156, 157, 158, 159, 160, 161, 162, 163, 164, 165, 166, 167, 168, 169, 170, 171, 172, 173, 174, 175, 176, 177, 178, 179, 180, 181, 182, 183, 184, 185, 186, 187, 188, 189, 190, 191, 192, 193, 194, 195] (by decide +kernel) (by decide +kernel)
set_option maxRecDepth 20000 in
theorem gX6_held_X6_runBoth : GoodIn wsX6_held (wsV RX6 177 RX6 yX6_runBoth wsX6_runBoth) := goodIn_app (goodIn_of _ (by decide +kernel)) ggX6_held_X6_runBoth
set_option maxRecDepth 20000 in
theorem ggX6_held_X6_runsAlike : GoodIn wsX6_held wsX6_runsAlike := goodIn_r _ [128, 10, 12, 11, 129, 130, 131, 132, 29, 133, 40, 41, 134, 135, 136, 137, 138, 139, 140, 141, 142, 143, 144, 145, 146, 147, 148, 149, 150, 151, 152, 153, 154, 155, 156, 157, 158, 159, 160, 161, 162, 163, 164, 165, 166, 167, 168, 169, 170, 171, 172, 173, 174, 175, 176, 177, 178, 179, 180, 181, 182, 183, 184, 185, 186, 187, 188, 189, 196, 197, 198] (by decide +kernel) (by decide +kernel)
set_option maxRecDepth 20000 in
theorem gX6_held_X6_runsAlike : GoodIn wsX6_held (wsV RX6 220 RX6 yX6_runsAlike wsX6_runsAlike) := goodIn_app (goodIn_of _ (by decide +kernel)) ggX6_held_X6_runsAlike
theorem dX6_held_0 : decode cX6_held 0 = .ok (.iconst 1, 1) := by decide +kernel
theorem dX6_held_1 : decode cX6_held 1 = .ok (.istore_n 3, 1) := by decide +kernel
theorem dX6_held_2 : decode cX6_held 2 = .ok (.iconst 0, 1) := by decide +kernel
theorem dX6_held_3 : decode cX6_held 3 = .ok (.istore 4, 2) := by decide +kernel
theorem dX6_held_5 : decode cX6_held 5 = .ok (.iload 4, 2) := by decide +kernel
theorem dX6_held_7 : decode cX6_held 7 = .ok (.aload_n 0, 1) := by decide +kernel
theorem dX6_held_8 : decode cX6_held 8 = .ok (.getfield 59, 3) := by decide +kernel
theorem dX6_held_11 : decode cX6_held 11 = .ok (.if_icmp .gt 70, 3) := by decide +kernel
theorem dX6_held_14 : decode cX6_held 14 = .ok (.iconst 0, 1) := by decide +kernel
theorem dX6_held_15 : decode cX6_held 15 = .ok (.istore 5, 2) := by decide +kernel
theorem dX6_held_17 : decode cX6_held 17 = .ok (.iload 5, 2) := by decide +kernel
theorem dX6_held_19 : decode cX6_held 19 = .ok (.aload_n 0, 1) := by decide +kernel
theorem dX6_held_20 : decode cX6_held 20 = .ok (.getfield 59, 3) := by decide +kernel
theorem dX6_held_23 : decode cX6_held 23 = .ok (.if_icmp .gt 52, 3) := by decide +kernel
theorem dX6_held_26 : decode cX6_held 26 = .ok (.aload_n 0, 1) := by decide +kernel
theorem dX6_held_27 : decode cX6_held 27 = .ok (.iload_n 1, 1) := by decide +kernel
theorem dX6_held_28 : decode cX6_held 28 = .ok (.iload_n 2, 1) := by decide +kernel
theorem dX6_held_29 : decode cX6_held 29 = .ok (.iload 4, 2) := by decide +kernel
theorem dX6_held_31 : decode cX6_held 31 = .ok (.iload 5, 2) := by decide +kernel
theorem dX6_held_33 : decode cX6_held 33 = .ok (.invokevirtual 177, 3) := by decide +kernel
theorem dX6_held_36 : decode cX6_held 36 = .ok (.ifCond .ne 8, 3) := by decide +kernel
theorem dX6_held_39 : decode cX6_held 39 = .ok (.iconst 2, 1) := by decide +kernel
theorem dX6_held_40 : decode cX6_held 40 = .ok (.istore_n 3, 1) := by decide +kernel
theorem dX6_held_41 : decode cX6_held 41 = .ok (.goto 28, 3) := by decide +kernel
theorem dX6_held_44 : decode cX6_held 44 = .ok (.aload_n 0, 1) := by decide +kernel
theorem dX6_held_45 : decode cX6_held 45 = .ok (.aload_n 0, 1) := by decide +kernel
theorem dX6_held_46 : decode cX6_held 46 = .ok (.getfield 22, 3) := by decide +kernel
theorem dX6_held_49 : decode cX6_held 49 = .ok (.invokevirtual 220, 3) := by decide +kernel
theorem dX6_held_52 : decode cX6_held 52 = .ok (.ifCond .ne 17, 3) := by decide +kernel
theorem dX6_held_55 : decode cX6_held 55 = .ok (.aload_n 0, 1) := by decide +kernel
theorem dX6_held_56 : decode cX6_held 56 = .ok (.iload 4, 2) := by decide +kernel
theorem dX6_held_58 : decode cX6_held 58 = .ok (.putfield 43, 3) := by decide +kernel
theorem dX6_held_61 : decode cX6_held 61 = .ok (.aload_n 0, 1) := by decide +kernel
theorem dX6_held_62 : decode cX6_held 62 = .ok (.iload 5, 2) := by decide +kernel
theorem dX6_held_64 : decode cX6_held 64 = .ok (.putfield 47, 3) := by decide +kernel
theorem dX6_held_67 : decode cX6_held 67 = .ok (.iconst 0, 1) := by decide +kernel
theorem dX6_held_68 : decode cX6_held 68 = .ok (.ireturn, 1) := by decide +kernel
theorem dX6_held_69 : decode cX6_held 69 = .ok (.iinc 5 1, 3) := by decide +kernel
theorem dX6_held_72 : decode cX6_held 72 = .ok (.goto (-55), 3) := by decide +kernel
theorem dX6_held_75 : decode cX6_held 75 = .ok (.iinc 4 1, 3) := by decide +kernel
theorem dX6_held_78 : decode cX6_held 78 = .ok (.goto (-73), 3) := by decide +kernel
theorem dX6_held_81 : decode cX6_held 81 = .ok (.iload_n 3, 1) := by decide +kernel
theorem dX6_held_82 : decode cX6_held 82 = .ok (.ireturn, 1) := by decide +kernel
set_option maxRecDepth 20000 in
theorem ggX6_runsAlike_X5_endsLike : GoodIn wsX6_runsAlike wsX5_endsLike := goodIn_r _ [9, 10, 11, 55, 56, 57, 58, 59, 60, 61, 62, 63, 64, 65, 66, 67] (by decide +kernel) (by decide +kernel)
set_option maxRecDepth 20000 in
theorem gX6_runsAlike_X5_endsLike : GoodIn wsX6_runsAlike (wsV RX6 224 RX5 yX5_endsLike wsX5_endsLike) := goodIn_app (goodIn_of _ (by decide +kernel)) ggX6_runsAlike_X5_endsLike
set_option maxRecDepth 20000 in
theorem ggX6_runsAlike_X3_alike : GoodIn wsX6_runsAlike wsX3_alike := goodIn_r _ [16, 17, 18, 19, 15, 20, 21, 22, 23, 24, 25, 26, 27, 28, 55, 56, 57, 58, 59, 60, 61, 62, 63, 64, 65, 66, 67, 68, 69, 70] (by decide +kernel) (by decide +kernel)
set_option maxRecDepth 20000 in
theorem gX6_runsAlike_X3_alike : GoodIn wsX6_runsAlike (wsV RX6 228 RX3 yX3_alike wsX3_alike) := goodIn_app (goodIn_of _ (by decide +kernel)) ggX6_runsAlike_X3_alike
theorem dX6_runsAlike_0 : decode cX6_runsAlike 0 = .ok (.aload_n 0, 1) := by decide +kernel
theorem dX6_runsAlike_1 : decode cX6_runsAlike 1 = .ok (.getfield 71, 3) := by decide +kernel
theorem dX6_runsAlike_4 : decode cX6_runsAlike 4 = .ok (.getfield 125, 3) := by decide +kernel
theorem dX6_runsAlike_7 : decode cX6_runsAlike 7 = .ok (.astore_n 2, 1) := by decide +kernel
theorem dX6_runsAlike_8 : decode cX6_runsAlike 8 = .ok (.aload_n 0, 1) := by decide +kernel
theorem dX6_runsAlike_9 : decode cX6_runsAlike 9 = .ok (.getfield 74, 3) := by decide +kernel
theorem dX6_runsAlike_12 : decode cX6_runsAlike 12 = .ok (.getfield 125, 3) := by decide +kernel
theorem dX6_runsAlike_15 : decode cX6_runsAlike 15 = .ok (.astore_n 3, 1) := by decide +kernel
theorem dX6_runsAlike_16 : decode cX6_runsAlike 16 = .ok (.aload_n 2, 1) := by decide +kernel
theorem dX6_runsAlike_17 : decode cX6_runsAlike 17 = .ok (.aload_n 3, 1) := by decide +kernel
theorem dX6_runsAlike_18 : decode cX6_runsAlike 18 = .ok (.invokevirtual 224, 3) := by decide +kernel
theorem dX6_runsAlike_21 : decode cX6_runsAlike 21 = .ok (.ifCond .eq 26, 3) := by decide +kernel
theorem dX6_runsAlike_24 : decode cX6_runsAlike 24 = .ok (.aload_n 1, 1) := by decide +kernel
theorem dX6_runsAlike_25 : decode cX6_runsAlike 25 = .ok (.aload_n 2, 1) := by decide +kernel
theorem dX6_runsAlike_26 : decode cX6_runsAlike 26 = .ok (.iconst 0, 1) := by decide +kernel
theorem dX6_runsAlike_27 : decode cX6_runsAlike 27 = .ok (.aload_n 2, 1) := by decide +kernel
theorem dX6_runsAlike_28 : decode cX6_runsAlike 28 = .ok (.getfield 143, 3) := by decide +kernel
theorem dX6_runsAlike_31 : decode cX6_runsAlike 31 = .ok (.aload_n 3, 1) := by decide +kernel
theorem dX6_runsAlike_32 : decode cX6_runsAlike 32 = .ok (.iconst 0, 1) := by decide +kernel
theorem dX6_runsAlike_33 : decode cX6_runsAlike 33 = .ok (.aload_n 3, 1) := by decide +kernel
theorem dX6_runsAlike_34 : decode cX6_runsAlike 34 = .ok (.getfield 143, 3) := by decide +kernel
theorem dX6_runsAlike_37 : decode cX6_runsAlike 37 = .ok (.invokevirtual 228, 3) := by decide +kernel
theorem dX6_runsAlike_40 : decode cX6_runsAlike 40 = .ok (.ifCond .eq 7, 3) := by decide +kernel
theorem dX6_runsAlike_43 : decode cX6_runsAlike 43 = .ok (.iconst 1, 1) := by decide +kernel
theorem dX6_runsAlike_44 : decode cX6_runsAlike 44 = .ok (.goto 4, 3) := by decide +kernel
theorem dX6_runsAlike_47 : decode cX6_runsAlike 47 = .ok (.iconst 0, 1) := by decide +kernel
theorem dX6_runsAlike_48 : decode cX6_runsAlike 48 = .ok (.ireturn, 1) := by decide +kernel
set_option maxRecDepth 20000 in
theorem ggX6_stillAlike_X3_takeNames : GoodIn wsX6_stillAlike wsX3_takeNames := goodIn_r _ [7, 8, 9, 10, 6, 11, 12, 13, 62, 63, 64] (by decide +kernel) (by decide +kernel)
set_option maxRecDepth 20000 in
theorem gX6_stillAlike_X3_takeNames : GoodIn wsX6_stillAlike (wsV RX6 232 RX3 yX3_takeNames wsX3_takeNames) := goodIn_app (goodIn_of _ (by decide +kernel)) ggX6_stillAlike_X3_takeNames
set_option maxRecDepth 20000 in
theorem ggX6_stillAlike_X6_runsAlike : GoodIn wsX6_stillAlike wsX6_runsAlike := goodIn_r _ [18, 19, 20, 21, 22, 23, 24, 25, 26, 27, 28, 29, 30, 31, 32, 6, 33, 34, 35, 36, 37, 38, 39, 13, 40, 41, 42, 43, 44, 45, 46, 47, 48, 49, 50, 51, 52, 53, 54, 55, 56, 57, 58, 59, 60, 61, 65, 66, 67, 68, 69, 70, 71, 72, 73, 74, 75, 76, 77, 78, 79, 80, 81, 82, 83, 84, 85, 86, 62, 63, 64] (by decide +kernel) (by decide +kernel)
set_option maxRecDepth 20000 in
theorem gX6_stillAlike_X6_runsAlike : GoodIn wsX6_stillAlike (wsV RX6 220 RX6 yX6_runsAlike wsX6_runsAlike) := goodIn_app (goodIn_of _ (by decide +kernel)) ggX6_stillAlike_X6_runsAlike
theorem dX6_stillAlike_0 : decode cX6_stillAlike 0 = .ok (.iload_n 2, 1) := by decide +kernel
theorem dX6_stillAlike_1 : decode cX6_stillAlike 1 = .ok (.ifCond .eq 7, 3) := by decide +kernel
theorem dX6_stillAlike_4 : decode cX6_stillAlike 4 = .ok (.iload_n 1, 1) := by decide +kernel
theorem dX6_stillAlike_5 : decode cX6_stillAlike 5 = .ok (.goto 4, 3) := by decide +kernel
theorem dX6_stillAlike_8 : decode cX6_stillAlike 8 = .ok (.iconst 0, 1) := by decide +kernel
theorem dX6_stillAlike_9 : decode cX6_stillAlike 9 = .ok (.istore_n 3, 1) := by decide +kernel
theorem dX6_stillAlike_10 : decode cX6_stillAlike 10 = .ok (.iconst 0, 1) := by decide +kernel
theorem dX6_stillAlike_11 : decode cX6_stillAlike 11 = .ok (.istore 4, 2) := by decide +kernel
theorem dX6_stillAlike_13 : decode cX6_stillAlike 13 = .ok (.iload 4, 2) := by decide +kernel
theorem dX6_stillAlike_15 : decode cX6_stillAlike 15 = .ok (.getstatic 185, 3) := by decide +kernel
theorem dX6_stillAlike_18 : decode cX6_stillAlike 18 = .ok (.arraylength, 1) := by decide +kernel
theorem dX6_stillAlike_19 : decode cX6_stillAlike 19 = .ok (.if_icmp .ge 51, 3) := by decide +kernel
theorem dX6_stillAlike_22 : decode cX6_stillAlike 22 = .ok (.iload_n 3, 1) := by decide +kernel
theorem dX6_stillAlike_23 : decode cX6_stillAlike 23 = .ok (.iconst 1, 1) := by decide +kernel
theorem dX6_stillAlike_24 : decode cX6_stillAlike 24 = .ok (.iload 4, 2) := by decide +kernel
theorem dX6_stillAlike_26 : decode cX6_stillAlike 26 = .ok (.ishl, 1) := by decide +kernel
theorem dX6_stillAlike_27 : decode cX6_stillAlike 27 = .ok (.iand, 1) := by decide +kernel
theorem dX6_stillAlike_28 : decode cX6_stillAlike 28 = .ok (.ifCond .eq 36, 3) := by decide +kernel
theorem dX6_stillAlike_31 : decode cX6_stillAlike 31 = .ok (.aload_n 0, 1) := by decide +kernel
theorem dX6_stillAlike_32 : decode cX6_stillAlike 32 = .ok (.getfield 26, 3) := by decide +kernel
theorem dX6_stillAlike_35 : decode cX6_stillAlike 35 = .ok (.getstatic 185, 3) := by decide +kernel
theorem dX6_stillAlike_38 : decode cX6_stillAlike 38 = .ok (.iload 4, 2) := by decide +kernel
theorem dX6_stillAlike_40 : decode cX6_stillAlike 40 = .ok (.iaload, 1) := by decide +kernel
theorem dX6_stillAlike_41 : decode cX6_stillAlike 41 = .ok (.invokevirtual 232, 3) := by decide +kernel
theorem dX6_stillAlike_44 : decode cX6_stillAlike 44 = .ok (.aload_n 0, 1) := by decide +kernel
theorem dX6_stillAlike_45 : decode cX6_stillAlike 45 = .ok (.aload_n 0, 1) := by decide +kernel
theorem dX6_stillAlike_46 : decode cX6_stillAlike 46 = .ok (.getfield 26, 3) := by decide +kernel
theorem dX6_stillAlike_49 : decode cX6_stillAlike 49 = .ok (.invokevirtual 220, 3) := by decide +kernel
theorem dX6_stillAlike_52 : decode cX6_stillAlike 52 = .ok (.ifCond .ne 12, 3) := by decide +kernel
theorem dX6_stillAlike_55 : decode cX6_stillAlike 55 = .ok (.iload_n 3, 1) := by decide +kernel
theorem dX6_stillAlike_56 : decode cX6_stillAlike 56 = .ok (.iconst 1, 1) := by decide +kernel
theorem dX6_stillAlike_57 : decode cX6_stillAlike 57 = .ok (.iload 4, 2) := by decide +kernel
theorem dX6_stillAlike_59 : decode cX6_stillAlike 59 = .ok (.ishl, 1) := by decide +kernel
theorem dX6_stillAlike_60 : decode cX6_stillAlike 60 = .ok (.iconst (-1), 1) := by decide +kernel
theorem dX6_stillAlike_61 : decode cX6_stillAlike 61 = .ok (.ixor, 1) := by decide +kernel
theorem dX6_stillAlike_62 : decode cX6_stillAlike 62 = .ok (.iand, 1) := by decide +kernel
theorem dX6_stillAlike_63 : decode cX6_stillAlike 63 = .ok (.istore_n 3, 1) := by decide +kernel
theorem dX6_stillAlike_64 : decode cX6_stillAlike 64 = .ok (.iinc 4 1, 3) := by decide +kernel
theorem dX6_stillAlike_67 : decode cX6_stillAlike 67 = .ok (.goto (-54), 3) := by decide +kernel
theorem dX6_stillAlike_70 : decode cX6_stillAlike 70 = .ok (.iload_n 3, 1) := by decide +kernel
theorem dX6_stillAlike_71 : decode cX6_stillAlike 71 = .ok (.ireturn, 1) := by decide +kernel
set_option maxRecDepth 20000 in
theorem ggX6_proveInputs_X1_takeAnswers : GoodIn wsX6_proveInputs wsX1_takeAnswers := goodIn_r _ [18, 19, 207, 208, 209, 210, 211, 212, 213, 214, 215] (by decide +kernel) (by decide +kernel)
set_option maxRecDepth 20000 in
theorem gX6_proveInputs_X1_takeAnswers : GoodIn wsX6_proveInputs (wsV RX6 235 RX1 yX1_takeAnswers wsX1_takeAnswers) := goodIn_app (goodIn_of _ (by decide +kernel)) ggX6_proveInputs_X1_takeAnswers
set_option maxRecDepth 20000 in
theorem ggX6_proveInputs_X1_go : GoodIn wsX6_proveInputs wsX1_go := goodIn_r _ [23, 24, 25, 26, 27, 28, 29, 30, 31, 32, 33, 34, 35, 36, 37, 38, 39, 40, 41, 42, 43, 44, 45, 46, 47, 48, 49, 17, 50, 51, 52, 53, 54, 55, 56, 57, 58, 59, 60, 61, 62, 63, 64, 65, 66, 67, 68, 69, 70, 71, 72, 73, 74, 75, 76, 77, 78, 79, 80, 81, 82, 83, 84, 85, 86, 87, 88, 89, 90, 91, 92, 93, 94, 95, 96, 97, 98, 99, 100, 101, 102, 103, 104, 105, 106, 107, 108, 109, 110, 111, 112, 113, 19, 114, 115, 116, 117, 118, 119, 120, 121, 122, 123, 124, 125, 126, 127, 128, 207, 208, 209, 210, 211, 212, 213, 214, 215, 229, 230, 231, 232, 233, 234, 216, 217, 218, 219, 220, 221, 222, 223, 224, 225, 226, 227, 228] (by decide +kernel) (by decide +kernel)
set_option maxRecDepth 20000 in
theorem gX6_proveInputs_X1_go : GoodIn wsX6_proveInputs (wsV RX6 121 RX1 yX1_go wsX1_go) := goodIn_app (goodIn_of _ (by decide +kernel)) ggX6_proveInputs_X1_go
set_option maxRecDepth 20000 in
theorem ggX6_proveInputs_X6_walksAnswer : GoodIn wsX6_proveInputs wsX6_walksAnswer := goodIn_r _ [133, 2, 8, 3, 134, 135, 136, 137, 34, 138, 45, 46, 139, 140, 141, 132, 142, 9, 143, 4, 144, 145, 146, 147, 148, 149, 150, 119, 120, 151, 152, 153, 154, 155, 156, 157, 158, 159, 160, 161, 162, 163, 164, 165, 166, 167, 168, 169, 170, 171, 172, 173, 174, 175, 187, 188, 189, 190, 191, 192, 193, 194, 195, 196, 197, 198, 199, 200, 201, 202, 203, 207, 208, 209, 210, 211, 212, 213, 214, 215, 216, 217, 218, 219, 220, 221, 222, 223, 224, 225, 226, 227, 228, 204, 205, 206, 235, 236, 237] (by decide +kernel) (by decide +kernel)
set_option maxRecDepth 20000 in
theorem gX6_proveInputs_X6_walksAnswer : GoodIn wsX6_proveInputs (wsV RX6 245 RX6 yX6_walksAnswer wsX6_walksAnswer) := goodIn_app (goodIn_of _ (by decide +kernel)) ggX6_proveInputs_X6_walksAnswer
set_option maxRecDepth 20000 in
theorem ggX6_proveInputs_X4_yieldsTo : GoodIn wsX6_proveInputs wsX4_yieldsTo := goodIn_r _ [180, 181, 238, 239] (by decide +kernel) (by decide +kernel)
set_option maxRecDepth 20000 in
theorem gX6_proveInputs_X4_yieldsTo : GoodIn wsX6_proveInputs (wsV RX6 248 RX4 yX4_yieldsTo wsX4_yieldsTo) := goodIn_app (goodIn_of _ (by decide +kernel)) ggX6_proveInputs_X4_yieldsTo
set_option maxRecDepth 20000 in
theorem ggX6_proveInputs_X4_keep : GoodIn wsX6_proveInputs wsX4_keep := goodIn_r _ [185, 181, 186, 238, 239] (by decide +kernel) (by decide +kernel)
set_option maxRecDepth 20000 in
theorem gX6_proveInputs_X4_keep : GoodIn wsX6_proveInputs (wsV RX6 251 RX4 yX4_keep wsX4_keep) := goodIn_app (goodIn_of _ (by decide +kernel)) ggX6_proveInputs_X4_keep
theorem dX6_proveInputs_0 : decode cX6_proveInputs 0 = .ok (.iconst 2, 1) := by decide +kernel
theorem dX6_proveInputs_1 : decode cX6_proveInputs 1 = .ok (.istore 4, 2) := by decide +kernel
theorem dX6_proveInputs_3 : decode cX6_proveInputs 3 = .ok (.iconst 0, 1) := by decide +kernel
theorem dX6_proveInputs_4 : decode cX6_proveInputs 4 = .ok (.istore 5, 2) := by decide +kernel
theorem dX6_proveInputs_6 : decode cX6_proveInputs 6 = .ok (.iload 5, 2) := by decide +kernel
theorem dX6_proveInputs_8 : decode cX6_proveInputs 8 = .ok (.aload_n 0, 1) := by decide +kernel
theorem dX6_proveInputs_9 : decode cX6_proveInputs 9 = .ok (.getfield 59, 3) := by decide +kernel
theorem dX6_proveInputs_12 : decode cX6_proveInputs 12 = .ok (.iconst 1, 1) := by decide +kernel
theorem dX6_proveInputs_13 : decode cX6_proveInputs 13 = .ok (.iadd, 1) := by decide +kernel
theorem dX6_proveInputs_14 : decode cX6_proveInputs 14 = .ok (.if_icmp .gt 166, 3) := by decide +kernel
theorem dX6_proveInputs_17 : decode cX6_proveInputs 17 = .ok (.iload 4, 2) := by decide +kernel
theorem dX6_proveInputs_19 : decode cX6_proveInputs 19 = .ok (.ifCond .le 161, 3) := by decide +kernel
theorem dX6_proveInputs_22 : decode cX6_proveInputs 22 = .ok (.iconst 2, 1) := by decide +kernel
theorem dX6_proveInputs_23 : decode cX6_proveInputs 23 = .ok (.istore 4, 2) := by decide +kernel
theorem dX6_proveInputs_25 : decode cX6_proveInputs 25 = .ok (.iconst 0, 1) := by decide +kernel
theorem dX6_proveInputs_26 : decode cX6_proveInputs 26 = .ok (.istore 6, 2) := by decide +kernel
theorem dX6_proveInputs_28 : decode cX6_proveInputs 28 = .ok (.iload 6, 2) := by decide +kernel
theorem dX6_proveInputs_30 : decode cX6_proveInputs 30 = .ok (.aload_n 0, 1) := by decide +kernel
theorem dX6_proveInputs_31 : decode cX6_proveInputs 31 = .ok (.getfield 59, 3) := by decide +kernel
theorem dX6_proveInputs_34 : decode cX6_proveInputs 34 = .ok (.iconst 1, 1) := by decide +kernel
theorem dX6_proveInputs_35 : decode cX6_proveInputs 35 = .ok (.iadd, 1) := by decide +kernel
theorem dX6_proveInputs_36 : decode cX6_proveInputs 36 = .ok (.if_icmp .gt 138, 3) := by decide +kernel
theorem dX6_proveInputs_39 : decode cX6_proveInputs 39 = .ok (.iload 4, 2) := by decide +kernel
theorem dX6_proveInputs_41 : decode cX6_proveInputs 41 = .ok (.iconst 1, 1) := by decide +kernel
theorem dX6_proveInputs_42 : decode cX6_proveInputs 42 = .ok (.if_icmp .le 132, 3) := by decide +kernel
theorem dX6_proveInputs_45 : decode cX6_proveInputs 45 = .ok (.aload_n 0, 1) := by decide +kernel
theorem dX6_proveInputs_46 : decode cX6_proveInputs 46 = .ok (.getfield 77, 3) := by decide +kernel
theorem dX6_proveInputs_49 : decode cX6_proveInputs 49 = .ok (.iload 5, 2) := by decide +kernel
theorem dX6_proveInputs_51 : decode cX6_proveInputs 51 = .ok (.iload 6, 2) := by decide +kernel
theorem dX6_proveInputs_53 : decode cX6_proveInputs 53 = .ok (.invokevirtual 235, 3) := by decide +kernel
theorem dX6_proveInputs_56 : decode cX6_proveInputs 56 = .ok (.aload_n 0, 1) := by decide +kernel
theorem dX6_proveInputs_57 : decode cX6_proveInputs 57 = .ok (.getfield 80, 3) := by decide +kernel
theorem dX6_proveInputs_60 : decode cX6_proveInputs 60 = .ok (.iload 5, 2) := by decide +kernel
theorem dX6_proveInputs_62 : decode cX6_proveInputs 62 = .ok (.iload 6, 2) := by decide +kernel
theorem dX6_proveInputs_64 : decode cX6_proveInputs 64 = .ok (.invokevirtual 235, 3) := by decide +kernel
theorem dX6_proveInputs_67 : decode cX6_proveInputs 67 = .ok (.aload_n 0, 1) := by decide +kernel
theorem dX6_proveInputs_68 : decode cX6_proveInputs 68 = .ok (.getfield 77, 3) := by decide +kernel
theorem dX6_proveInputs_71 : decode cX6_proveInputs 71 = .ok (.aload_n 0, 1) := by decide +kernel
theorem dX6_proveInputs_72 : decode cX6_proveInputs 72 = .ok (.getfield 32, 3) := by decide +kernel
theorem dX6_proveInputs_75 : decode cX6_proveInputs 75 = .ok (.getfield 239, 3) := by decide +kernel
theorem dX6_proveInputs_78 : decode cX6_proveInputs 78 = .ok (.iload_n 1, 1) := by decide +kernel
theorem dX6_proveInputs_79 : decode cX6_proveInputs 79 = .ok (.iaload, 1) := by decide +kernel
theorem dX6_proveInputs_80 : decode cX6_proveInputs 80 = .ok (.iload_n 2, 1) := by decide +kernel
theorem dX6_proveInputs_81 : decode cX6_proveInputs 81 = .ok (.iload_n 3, 1) := by decide +kernel
theorem dX6_proveInputs_82 : decode cX6_proveInputs 82 = .ok (.invokevirtual 121, 3) := by decide +kernel
theorem dX6_proveInputs_85 : decode cX6_proveInputs 85 = .ok (.aload_n 0, 1) := by decide +kernel
theorem dX6_proveInputs_86 : decode cX6_proveInputs 86 = .ok (.getfield 80, 3) := by decide +kernel
theorem dX6_proveInputs_89 : decode cX6_proveInputs 89 = .ok (.aload_n 0, 1) := by decide +kernel
theorem dX6_proveInputs_90 : decode cX6_proveInputs 90 = .ok (.getfield 32, 3) := by decide +kernel
theorem dX6_proveInputs_93 : decode cX6_proveInputs 93 = .ok (.getfield 242, 3) := by decide +kernel
theorem dX6_proveInputs_96 : decode cX6_proveInputs 96 = .ok (.iload_n 1, 1) := by decide +kernel
theorem dX6_proveInputs_97 : decode cX6_proveInputs 97 = .ok (.iaload, 1) := by decide +kernel
theorem dX6_proveInputs_98 : decode cX6_proveInputs 98 = .ok (.iload_n 2, 1) := by decide +kernel
theorem dX6_proveInputs_99 : decode cX6_proveInputs 99 = .ok (.iload_n 3, 1) := by decide +kernel
theorem dX6_proveInputs_100 : decode cX6_proveInputs 100 = .ok (.invokevirtual 121, 3) := by decide +kernel
theorem dX6_proveInputs_103 : decode cX6_proveInputs 103 = .ok (.aload_n 0, 1) := by decide +kernel
theorem dX6_proveInputs_104 : decode cX6_proveInputs 104 = .ok (.invokevirtual 245, 3) := by decide +kernel
theorem dX6_proveInputs_107 : decode cX6_proveInputs 107 = .ok (.istore 7, 2) := by decide +kernel
theorem dX6_proveInputs_109 : decode cX6_proveInputs 109 = .ok (.aload_n 0, 1) := by decide +kernel
theorem dX6_proveInputs_110 : decode cX6_proveInputs 110 = .ok (.getfield 39, 3) := by decide +kernel
theorem dX6_proveInputs_113 : decode cX6_proveInputs 113 = .ok (.iload 7, 2) := by decide +kernel
theorem dX6_proveInputs_115 : decode cX6_proveInputs 115 = .ok (.invokevirtual 248, 3) := by decide +kernel
theorem dX6_proveInputs_118 : decode cX6_proveInputs 118 = .ok (.ifCond .eq 19, 3) := by decide +kernel
theorem dX6_proveInputs_121 : decode cX6_proveInputs 121 = .ok (.aload_n 0, 1) := by decide +kernel
theorem dX6_proveInputs_122 : decode cX6_proveInputs 122 = .ok (.getfield 39, 3) := by decide +kernel
theorem dX6_proveInputs_125 : decode cX6_proveInputs 125 = .ok (.iload 7, 2) := by decide +kernel
theorem dX6_proveInputs_127 : decode cX6_proveInputs 127 = .ok (.iload_n 1, 1) := by decide +kernel
theorem dX6_proveInputs_128 : decode cX6_proveInputs 128 = .ok (.iload_n 2, 1) := by decide +kernel
theorem dX6_proveInputs_129 : decode cX6_proveInputs 129 = .ok (.iload_n 3, 1) := by decide +kernel
theorem dX6_proveInputs_130 : decode cX6_proveInputs 130 = .ok (.iload 5, 2) := by decide +kernel
theorem dX6_proveInputs_132 : decode cX6_proveInputs 132 = .ok (.iload 6, 2) := by decide +kernel
theorem dX6_proveInputs_134 : decode cX6_proveInputs 134 = .ok (.invokevirtual 251, 3) := by decide +kernel
theorem dX6_proveInputs_137 : decode cX6_proveInputs 137 = .ok (.iload 7, 2) := by decide +kernel
theorem dX6_proveInputs_139 : decode cX6_proveInputs 139 = .ok (.ifCond .ne 4, 3) := by decide +kernel
theorem dX6_proveInputs_142 : decode cX6_proveInputs 142 = .ok (.return_, 1) := by decide +kernel
theorem dX6_proveInputs_143 : decode cX6_proveInputs 143 = .ok (.aload_n 0, 1) := by decide +kernel
theorem dX6_proveInputs_144 : decode cX6_proveInputs 144 = .ok (.getfield 77, 3) := by decide +kernel
theorem dX6_proveInputs_147 : decode cX6_proveInputs 147 = .ok (.getfield 125, 3) := by decide +kernel
theorem dX6_proveInputs_150 : decode cX6_proveInputs 150 = .ok (.getfield 255, 3) := by decide +kernel
theorem dX6_proveInputs_153 : decode cX6_proveInputs 153 = .ok (.aload_n 0, 1) := by decide +kernel
theorem dX6_proveInputs_154 : decode cX6_proveInputs 154 = .ok (.getfield 80, 3) := by decide +kernel
theorem dX6_proveInputs_157 : decode cX6_proveInputs 157 = .ok (.getfield 125, 3) := by decide +kernel
theorem dX6_proveInputs_160 : decode cX6_proveInputs 160 = .ok (.getfield 255, 3) := by decide +kernel
theorem dX6_proveInputs_163 : decode cX6_proveInputs 163 = .ok (.invokestatic 258, 3) := by decide +kernel
theorem dX6_proveInputs_166 : decode cX6_proveInputs 166 = .ok (.istore 4, 2) := by decide +kernel
theorem dX6_proveInputs_168 : decode cX6_proveInputs 168 = .ok (.iinc 6 1, 3) := by decide +kernel
theorem dX6_proveInputs_171 : decode cX6_proveInputs 171 = .ok (.goto (-143), 3) := by decide +kernel
theorem dX6_proveInputs_174 : decode cX6_proveInputs 174 = .ok (.iinc 5 1, 3) := by decide +kernel
theorem dX6_proveInputs_177 : decode cX6_proveInputs 177 = .ok (.goto (-171), 3) := by decide +kernel
theorem dX6_proveInputs_180 : decode cX6_proveInputs 180 = .ok (.return_, 1) := by decide +kernel
set_option maxRecDepth 20000 in
theorem ggX6_walksAnswer_X5_endsLike : GoodIn wsX6_walksAnswer wsX5_endsLike := goodIn_r _ [9, 10, 11, 80, 81, 82, 83, 84, 85, 86, 87, 88, 89, 90, 91, 92] (by decide +kernel) (by decide +kernel)
set_option maxRecDepth 20000 in
theorem gX6_walksAnswer_X5_endsLike : GoodIn wsX6_walksAnswer (wsV RX6 224 RX5 yX5_endsLike wsX5_endsLike) := goodIn_app (goodIn_of _ (by decide +kernel)) ggX6_walksAnswer_X5_endsLike
set_option maxRecDepth 20000 in
theorem ggX6_walksAnswer_X6_callingsAlike : GoodIn wsX6_walksAnswer wsX6_callingsAlike := goodIn_r _ [16, 17, 18, 19, 20, 21, 22, 23, 24, 25, 8, 26, 27, 28, 29, 30, 31, 32, 33, 34, 35, 36, 37, 38, 39, 40, 41, 42, 43, 44, 45, 46, 47, 48, 49, 50, 51, 52, 53, 80, 81, 82, 83, 84, 85, 86, 87, 88, 89, 90, 91, 92, 54, 55, 56, 57, 58, 59, 60, 61, 62, 63, 64, 65, 66, 67, 68, 69, 70, 93, 94, 95, 96, 97, 98] (by decide +kernel) (by decide +kernel)
set_option maxRecDepth 20000 in
theorem gX6_walksAnswer_X6_callingsAlike : GoodIn wsX6_walksAnswer (wsV RX6 263 RX6 yX6_callingsAlike wsX6_callingsAlike) := goodIn_app (goodIn_of _ (by decide +kernel)) ggX6_walksAnswer_X6_callingsAlike
theorem dX6_walksAnswer_0 : decode cX6_walksAnswer 0 = .ok (.aload_n 0, 1) := by decide +kernel
theorem dX6_walksAnswer_1 : decode cX6_walksAnswer 1 = .ok (.getfield 77, 3) := by decide +kernel
theorem dX6_walksAnswer_4 : decode cX6_walksAnswer 4 = .ok (.getfield 125, 3) := by decide +kernel
theorem dX6_walksAnswer_7 : decode cX6_walksAnswer 7 = .ok (.astore_n 1, 1) := by decide +kernel
theorem dX6_walksAnswer_8 : decode cX6_walksAnswer 8 = .ok (.aload_n 0, 1) := by decide +kernel
theorem dX6_walksAnswer_9 : decode cX6_walksAnswer 9 = .ok (.getfield 80, 3) := by decide +kernel
theorem dX6_walksAnswer_12 : decode cX6_walksAnswer 12 = .ok (.getfield 125, 3) := by decide +kernel
theorem dX6_walksAnswer_15 : decode cX6_walksAnswer 15 = .ok (.astore_n 2, 1) := by decide +kernel
theorem dX6_walksAnswer_16 : decode cX6_walksAnswer 16 = .ok (.aload_n 1, 1) := by decide +kernel
theorem dX6_walksAnswer_17 : decode cX6_walksAnswer 17 = .ok (.getfield 129, 3) := by decide +kernel
theorem dX6_walksAnswer_20 : decode cX6_walksAnswer 20 = .ok (.iconst 2, 1) := by decide +kernel
theorem dX6_walksAnswer_21 : decode cX6_walksAnswer 21 = .ok (.if_icmp .eq 11, 3) := by decide +kernel
theorem dX6_walksAnswer_24 : decode cX6_walksAnswer 24 = .ok (.aload_n 2, 1) := by decide +kernel
theorem dX6_walksAnswer_25 : decode cX6_walksAnswer 25 = .ok (.getfield 129, 3) := by decide +kernel
theorem dX6_walksAnswer_28 : decode cX6_walksAnswer 28 = .ok (.iconst 2, 1) := by decide +kernel
theorem dX6_walksAnswer_29 : decode cX6_walksAnswer 29 = .ok (.if_icmp .ne 5, 3) := by decide +kernel
theorem dX6_walksAnswer_32 : decode cX6_walksAnswer 32 = .ok (.iconst 2, 1) := by decide +kernel
theorem dX6_walksAnswer_33 : decode cX6_walksAnswer 33 = .ok (.ireturn, 1) := by decide +kernel
theorem dX6_walksAnswer_34 : decode cX6_walksAnswer 34 = .ok (.aload_n 1, 1) := by decide +kernel
theorem dX6_walksAnswer_35 : decode cX6_walksAnswer 35 = .ok (.aload_n 2, 1) := by decide +kernel
theorem dX6_walksAnswer_36 : decode cX6_walksAnswer 36 = .ok (.invokevirtual 224, 3) := by decide +kernel
theorem dX6_walksAnswer_39 : decode cX6_walksAnswer 39 = .ok (.ifCond .eq 16, 3) := by decide +kernel
theorem dX6_walksAnswer_42 : decode cX6_walksAnswer 42 = .ok (.aload_n 0, 1) := by decide +kernel
theorem dX6_walksAnswer_43 : decode cX6_walksAnswer 43 = .ok (.aload_n 1, 1) := by decide +kernel
theorem dX6_walksAnswer_44 : decode cX6_walksAnswer 44 = .ok (.aload_n 2, 1) := by decide +kernel
theorem dX6_walksAnswer_45 : decode cX6_walksAnswer 45 = .ok (.invokevirtual 263, 3) := by decide +kernel
theorem dX6_walksAnswer_48 : decode cX6_walksAnswer 48 = .ok (.ifCond .eq 7, 3) := by decide +kernel
theorem dX6_walksAnswer_51 : decode cX6_walksAnswer 51 = .ok (.iconst 1, 1) := by decide +kernel
theorem dX6_walksAnswer_52 : decode cX6_walksAnswer 52 = .ok (.goto 4, 3) := by decide +kernel
theorem dX6_walksAnswer_55 : decode cX6_walksAnswer 55 = .ok (.iconst 0, 1) := by decide +kernel
theorem dX6_walksAnswer_56 : decode cX6_walksAnswer 56 = .ok (.ireturn, 1) := by decide +kernel
set_option maxRecDepth 20000 in
theorem ggX6_callingsAlike_X5_sameInputs : GoodIn wsX6_callingsAlike wsX5_sameInputs := goodIn_r _ [11, 12, 13, 39, 40, 41, 42, 43, 44, 45, 46, 47, 48, 49, 50, 51] (by decide +kernel) (by decide +kernel)
set_option maxRecDepth 20000 in
theorem gX6_callingsAlike_X5_sameInputs : GoodIn wsX6_callingsAlike (wsV RX6 270 RX5 yX5_sameInputs wsX5_sameInputs) := goodIn_app (goodIn_of _ (by decide +kernel)) ggX6_callingsAlike_X5_sameInputs
set_option maxRecDepth 20000 in
theorem ggX6_callingsAlike_X2_has : GoodIn wsX6_callingsAlike wsX2_has := goodIn_r _ [18, 19, 20, 21, 69, 70, 71] (by decide +kernel) (by decide +kernel)
set_option maxRecDepth 20000 in
theorem gX6_callingsAlike_X2_has : GoodIn wsX6_callingsAlike (wsV RX6 193 RX2 yX2_has wsX2_has) := goodIn_app (goodIn_of _ (by decide +kernel)) ggX6_callingsAlike_X2_has
set_option maxRecDepth 20000 in
theorem ggX6_callingsAlike_X3_alike : GoodIn wsX6_callingsAlike wsX3_alike := goodIn_r _ [26, 27, 28, 29, 25, 30, 31, 32, 33, 34, 35, 36, 37, 38, 39, 40, 41, 42, 43, 44, 45, 46, 47, 48, 49, 50, 51, 72, 73, 74] (by decide +kernel) (by decide +kernel)
set_option maxRecDepth 20000 in
theorem gX6_callingsAlike_X3_alike : GoodIn wsX6_callingsAlike (wsV RX6 228 RX3 yX3_alike wsX3_alike) := goodIn_app (goodIn_of _ (by decide +kernel)) ggX6_callingsAlike_X3_alike
theorem dX6_callingsAlike_0 : decode cX6_callingsAlike 0 = .ok (.aload_n 1, 1) := by decide +kernel
theorem dX6_callingsAlike_1 : decode cX6_callingsAlike 1 = .ok (.getfield 255, 3) := by decide +kernel
theorem dX6_callingsAlike_4 : decode cX6_callingsAlike 4 = .ok (.aload_n 2, 1) := by decide +kernel
theorem dX6_callingsAlike_5 : decode cX6_callingsAlike 5 = .ok (.getfield 255, 3) := by decide +kernel
theorem dX6_callingsAlike_8 : decode cX6_callingsAlike 8 = .ok (.if_icmp .eq 5, 3) := by decide +kernel
theorem dX6_callingsAlike_11 : decode cX6_callingsAlike 11 = .ok (.iconst 0, 1) := by decide +kernel
theorem dX6_callingsAlike_12 : decode cX6_callingsAlike 12 = .ok (.ireturn, 1) := by decide +kernel
theorem dX6_callingsAlike_13 : decode cX6_callingsAlike 13 = .ok (.iconst 0, 1) := by decide +kernel
theorem dX6_callingsAlike_14 : decode cX6_callingsAlike 14 = .ok (.istore_n 3, 1) := by decide +kernel
theorem dX6_callingsAlike_15 : decode cX6_callingsAlike 15 = .ok (.iconst 0, 1) := by decide +kernel
theorem dX6_callingsAlike_16 : decode cX6_callingsAlike 16 = .ok (.istore 4, 2) := by decide +kernel
theorem dX6_callingsAlike_18 : decode cX6_callingsAlike 18 = .ok (.iconst 0, 1) := by decide +kernel
theorem dX6_callingsAlike_19 : decode cX6_callingsAlike 19 = .ok (.istore 5, 2) := by decide +kernel
theorem dX6_callingsAlike_21 : decode cX6_callingsAlike 21 = .ok (.iload 5, 2) := by decide +kernel
theorem dX6_callingsAlike_23 : decode cX6_callingsAlike 23 = .ok (.aload_n 1, 1) := by decide +kernel
theorem dX6_callingsAlike_24 : decode cX6_callingsAlike 24 = .ok (.getfield 255, 3) := by decide +kernel
theorem dX6_callingsAlike_27 : decode cX6_callingsAlike 27 = .ok (.if_icmp .ge 89, 3) := by decide +kernel
theorem dX6_callingsAlike_30 : decode cX6_callingsAlike 30 = .ok (.aload_n 1, 1) := by decide +kernel
theorem dX6_callingsAlike_31 : decode cX6_callingsAlike 31 = .ok (.getfield 267, 3) := by decide +kernel
theorem dX6_callingsAlike_34 : decode cX6_callingsAlike 34 = .ok (.iload 5, 2) := by decide +kernel
theorem dX6_callingsAlike_36 : decode cX6_callingsAlike 36 = .ok (.iaload, 1) := by decide +kernel
theorem dX6_callingsAlike_37 : decode cX6_callingsAlike 37 = .ok (.istore 6, 2) := by decide +kernel
theorem dX6_callingsAlike_39 : decode cX6_callingsAlike 39 = .ok (.aload_n 2, 1) := by decide +kernel
theorem dX6_callingsAlike_40 : decode cX6_callingsAlike 40 = .ok (.getfield 267, 3) := by decide +kernel
theorem dX6_callingsAlike_43 : decode cX6_callingsAlike 43 = .ok (.iload 5, 2) := by decide +kernel
theorem dX6_callingsAlike_45 : decode cX6_callingsAlike 45 = .ok (.iaload, 1) := by decide +kernel
theorem dX6_callingsAlike_46 : decode cX6_callingsAlike 46 = .ok (.istore 7, 2) := by decide +kernel
theorem dX6_callingsAlike_48 : decode cX6_callingsAlike 48 = .ok (.aload_n 1, 1) := by decide +kernel
theorem dX6_callingsAlike_49 : decode cX6_callingsAlike 49 = .ok (.aload_n 2, 1) := by decide +kernel
theorem dX6_callingsAlike_50 : decode cX6_callingsAlike 50 = .ok (.iload 5, 2) := by decide +kernel
theorem dX6_callingsAlike_52 : decode cX6_callingsAlike 52 = .ok (.invokevirtual 270, 3) := by decide +kernel
theorem dX6_callingsAlike_55 : decode cX6_callingsAlike 55 = .ok (.ifCond .eq 46, 3) := by decide +kernel
theorem dX6_callingsAlike_58 : decode cX6_callingsAlike 58 = .ok (.aload_n 0, 1) := by decide +kernel
theorem dX6_callingsAlike_59 : decode cX6_callingsAlike 59 = .ok (.getfield 32, 3) := by decide +kernel
theorem dX6_callingsAlike_62 : decode cX6_callingsAlike 62 = .ok (.aload_n 1, 1) := by decide +kernel
theorem dX6_callingsAlike_63 : decode cX6_callingsAlike 63 = .ok (.getfield 274, 3) := by decide +kernel
theorem dX6_callingsAlike_66 : decode cX6_callingsAlike 66 = .ok (.iload 5, 2) := by decide +kernel
theorem dX6_callingsAlike_68 : decode cX6_callingsAlike 68 = .ok (.iaload, 1) := by decide +kernel
theorem dX6_callingsAlike_69 : decode cX6_callingsAlike 69 = .ok (.aload_n 2, 1) := by decide +kernel
end
section
theorem dX6_callingsAlike_70 : decode cX6_callingsAlike 70 = .ok (.getfield 274, 3) := by decide +kernel
theorem dX6_callingsAlike_73 : decode cX6_callingsAlike 73 = .ok (.iload 5, 2) := by decide +kernel
theorem dX6_callingsAlike_75 : decode cX6_callingsAlike 75 = .ok (.iaload, 1) := by decide +kernel
theorem dX6_callingsAlike_76 : decode cX6_callingsAlike 76 = .ok (.invokevirtual 193, 3) := by decide +kernel
theorem dX6_callingsAlike_79 : decode cX6_callingsAlike 79 = .ok (.ifCond .eq 22, 3) := by decide +kernel
theorem dX6_callingsAlike_82 : decode cX6_callingsAlike 82 = .ok (.aload_n 0, 1) := by decide +kernel
theorem dX6_callingsAlike_83 : decode cX6_callingsAlike 83 = .ok (.getfield 22, 3) := by decide +kernel
theorem dX6_callingsAlike_86 : decode cX6_callingsAlike 86 = .ok (.aload_n 1, 1) := by decide +kernel
theorem dX6_callingsAlike_87 : decode cX6_callingsAlike 87 = .ok (.iload_n 3, 1) := by decide +kernel
theorem dX6_callingsAlike_88 : decode cX6_callingsAlike 88 = .ok (.iload 6, 2) := by decide +kernel
theorem dX6_callingsAlike_90 : decode cX6_callingsAlike 90 = .ok (.aload_n 2, 1) := by decide +kernel
theorem dX6_callingsAlike_91 : decode cX6_callingsAlike 91 = .ok (.iload 4, 2) := by decide +kernel
theorem dX6_callingsAlike_93 : decode cX6_callingsAlike 93 = .ok (.iload 7, 2) := by decide +kernel
theorem dX6_callingsAlike_95 : decode cX6_callingsAlike 95 = .ok (.invokevirtual 228, 3) := by decide +kernel
theorem dX6_callingsAlike_98 : decode cX6_callingsAlike 98 = .ok (.ifCond .ne 5, 3) := by decide +kernel
theorem dX6_callingsAlike_101 : decode cX6_callingsAlike 101 = .ok (.iconst 0, 1) := by decide +kernel
theorem dX6_callingsAlike_102 : decode cX6_callingsAlike 102 = .ok (.ireturn, 1) := by decide +kernel
theorem dX6_callingsAlike_103 : decode cX6_callingsAlike 103 = .ok (.iload 6, 2) := by decide +kernel
theorem dX6_callingsAlike_105 : decode cX6_callingsAlike 105 = .ok (.istore_n 3, 1) := by decide +kernel
theorem dX6_callingsAlike_106 : decode cX6_callingsAlike 106 = .ok (.iload 7, 2) := by decide +kernel
theorem dX6_callingsAlike_108 : decode cX6_callingsAlike 108 = .ok (.istore 4, 2) := by decide +kernel
theorem dX6_callingsAlike_110 : decode cX6_callingsAlike 110 = .ok (.iinc 5 1, 3) := by decide +kernel
theorem dX6_callingsAlike_113 : decode cX6_callingsAlike 113 = .ok (.goto (-92), 3) := by decide +kernel
theorem dX6_callingsAlike_116 : decode cX6_callingsAlike 116 = .ok (.aload_n 0, 1) := by decide +kernel
theorem dX6_callingsAlike_117 : decode cX6_callingsAlike 117 = .ok (.getfield 22, 3) := by decide +kernel
theorem dX6_callingsAlike_120 : decode cX6_callingsAlike 120 = .ok (.aload_n 1, 1) := by decide +kernel
theorem dX6_callingsAlike_121 : decode cX6_callingsAlike 121 = .ok (.iload_n 3, 1) := by decide +kernel
theorem dX6_callingsAlike_122 : decode cX6_callingsAlike 122 = .ok (.aload_n 1, 1) := by decide +kernel
theorem dX6_callingsAlike_123 : decode cX6_callingsAlike 123 = .ok (.getfield 143, 3) := by decide +kernel
theorem dX6_callingsAlike_126 : decode cX6_callingsAlike 126 = .ok (.aload_n 2, 1) := by decide +kernel
theorem dX6_callingsAlike_127 : decode cX6_callingsAlike 127 = .ok (.iload 4, 2) := by decide +kernel
theorem dX6_callingsAlike_129 : decode cX6_callingsAlike 129 = .ok (.aload_n 2, 1) := by decide +kernel
theorem dX6_callingsAlike_130 : decode cX6_callingsAlike 130 = .ok (.getfield 143, 3) := by decide +kernel
theorem dX6_callingsAlike_133 : decode cX6_callingsAlike 133 = .ok (.invokevirtual 228, 3) := by decide +kernel
theorem dX6_callingsAlike_136 : decode cX6_callingsAlike 136 = .ok (.ireturn, 1) := by decide +kernel
theorem dX7_init_0 : decode cX7_init 0 = .ok (.aload_n 0, 1) := by decide +kernel
theorem dX7_init_1 : decode cX7_init 1 = .ok (.invokespecial 1, 3) := by decide +kernel
theorem dX7_init_4 : decode cX7_init 4 = .ok (.aload_n 0, 1) := by decide +kernel
theorem dX7_init_5 : decode cX7_init 5 = .ok (.iconst 2, 1) := by decide +kernel
theorem dX7_init_6 : decode cX7_init 6 = .ok (.newarray .int, 2) := by decide +kernel
theorem dX7_init_8 : decode cX7_init 8 = .ok (.putfield 7, 3) := by decide +kernel
theorem dX7_init_11 : decode cX7_init 11 = .ok (.aload_n 0, 1) := by decide +kernel
theorem dX7_init_12 : decode cX7_init 12 = .ok (.bipush 12, 2) := by decide +kernel
theorem dX7_init_14 : decode cX7_init 14 = .ok (.newarray .int, 2) := by decide +kernel
theorem dX7_init_16 : decode cX7_init 16 = .ok (.putfield 13, 3) := by decide +kernel
theorem dX7_init_19 : decode cX7_init 19 = .ok (.aload_n 0, 1) := by decide +kernel
theorem dX7_init_20 : decode cX7_init 20 = .ok (.sipush 288, 3) := by decide +kernel
theorem dX7_init_23 : decode cX7_init 23 = .ok (.newarray .int, 2) := by decide +kernel
theorem dX7_init_25 : decode cX7_init 25 = .ok (.putfield 16, 3) := by decide +kernel
theorem dX7_init_28 : decode cX7_init 28 = .ok (.aload_n 0, 1) := by decide +kernel
theorem dX7_init_29 : decode cX7_init 29 = .ok (.sipush 288, 3) := by decide +kernel
theorem dX7_init_32 : decode cX7_init 32 = .ok (.newarray .int, 2) := by decide +kernel
theorem dX7_init_34 : decode cX7_init 34 = .ok (.putfield 19, 3) := by decide +kernel
theorem dX7_init_37 : decode cX7_init 37 = .ok (.aload_n 0, 1) := by decide +kernel
theorem dX7_init_38 : decode cX7_init 38 = .ok (.sipush 288, 3) := by decide +kernel
theorem dX7_init_41 : decode cX7_init 41 = .ok (.newarray .int, 2) := by decide +kernel
theorem dX7_init_43 : decode cX7_init 43 = .ok (.putfield 22, 3) := by decide +kernel
theorem dX7_init_46 : decode cX7_init 46 = .ok (.aload_n 0, 1) := by decide +kernel
theorem dX7_init_47 : decode cX7_init 47 = .ok (.sipush 288, 3) := by decide +kernel
theorem dX7_init_50 : decode cX7_init 50 = .ok (.newarray .int, 2) := by decide +kernel
theorem dX7_init_52 : decode cX7_init 52 = .ok (.putfield 25, 3) := by decide +kernel
theorem dX7_init_55 : decode cX7_init 55 = .ok (.aload_n 0, 1) := by decide +kernel
theorem dX7_init_56 : decode cX7_init 56 = .ok (.iconst 4, 1) := by decide +kernel
theorem dX7_init_57 : decode cX7_init 57 = .ok (.newarray .int, 2) := by decide +kernel
theorem dX7_init_59 : decode cX7_init 59 = .ok (.putfield 28, 3) := by decide +kernel
theorem dX7_init_62 : decode cX7_init 62 = .ok (.aload_n 0, 1) := by decide +kernel
theorem dX7_init_63 : decode cX7_init 63 = .ok (.iconst 4, 1) := by decide +kernel
theorem dX7_init_64 : decode cX7_init 64 = .ok (.newarray .int, 2) := by decide +kernel
theorem dX7_init_66 : decode cX7_init 66 = .ok (.putfield 31, 3) := by decide +kernel
theorem dX7_init_69 : decode cX7_init 69 = .ok (.aload_n 0, 1) := by decide +kernel
theorem dX7_init_70 : decode cX7_init 70 = .ok (.bipush 6, 2) := by decide +kernel
theorem dX7_init_72 : decode cX7_init 72 = .ok (.newarray .int, 2) := by decide +kernel
theorem dX7_init_74 : decode cX7_init 74 = .ok (.putfield 34, 3) := by decide +kernel
theorem dX7_init_77 : decode cX7_init 77 = .ok (.aload_n 0, 1) := by decide +kernel
theorem dX7_init_78 : decode cX7_init 78 = .ok (.bipush 6, 2) := by decide +kernel
theorem dX7_init_80 : decode cX7_init 80 = .ok (.newarray .int, 2) := by decide +kernel
theorem dX7_init_82 : decode cX7_init 82 = .ok (.putfield 37, 3) := by decide +kernel
theorem dX7_init_85 : decode cX7_init 85 = .ok (.aload_n 0, 1) := by decide +kernel
theorem dX7_init_86 : decode cX7_init 86 = .ok (.bipush 8, 2) := by decide +kernel
theorem dX7_init_88 : decode cX7_init 88 = .ok (.newarray .int, 2) := by decide +kernel
theorem dX7_init_90 : decode cX7_init 90 = .ok (.putfield 40, 3) := by decide +kernel
theorem dX7_init_93 : decode cX7_init 93 = .ok (.aload_n 0, 1) := by decide +kernel
theorem dX7_init_94 : decode cX7_init 94 = .ok (.bipush 8, 2) := by decide +kernel
theorem dX7_init_96 : decode cX7_init 96 = .ok (.newarray .int, 2) := by decide +kernel
theorem dX7_init_98 : decode cX7_init 98 = .ok (.putfield 43, 3) := by decide +kernel
theorem dX7_init_101 : decode cX7_init 101 = .ok (.aload_n 0, 1) := by decide +kernel
theorem dX7_init_102 : decode cX7_init 102 = .ok (.bipush 8, 2) := by decide +kernel
theorem dX7_init_104 : decode cX7_init 104 = .ok (.newarray .int, 2) := by decide +kernel
theorem dX7_init_106 : decode cX7_init 106 = .ok (.putfield 46, 3) := by decide +kernel
theorem dX7_init_109 : decode cX7_init 109 = .ok (.aload_n 0, 1) := by decide +kernel
theorem dX7_init_110 : decode cX7_init 110 = .ok (.bipush 48, 2) := by decide +kernel
theorem dX7_init_112 : decode cX7_init 112 = .ok (.newarray .int, 2) := by decide +kernel
theorem dX7_init_114 : decode cX7_init 114 = .ok (.putfield 49, 3) := by decide +kernel
theorem dX7_init_117 : decode cX7_init 117 = .ok (.aload_n 0, 1) := by decide +kernel
theorem dX7_init_118 : decode cX7_init 118 = .ok (.iconst 3, 1) := by decide +kernel
theorem dX7_init_119 : decode cX7_init 119 = .ok (.newarray .int, 2) := by decide +kernel
theorem dX7_init_121 : decode cX7_init 121 = .ok (.putfield 52, 3) := by decide +kernel
theorem dX7_init_124 : decode cX7_init 124 = .ok (.aload_n 0, 1) := by decide +kernel
theorem dX7_init_125 : decode cX7_init 125 = .ok (.iconst 3, 1) := by decide +kernel
theorem dX7_init_126 : decode cX7_init 126 = .ok (.newarray .int, 2) := by decide +kernel
theorem dX7_init_128 : decode cX7_init 128 = .ok (.putfield 55, 3) := by decide +kernel
theorem dX7_init_131 : decode cX7_init 131 = .ok (.aload_n 0, 1) := by decide +kernel
theorem dX7_init_132 : decode cX7_init 132 = .ok (.iconst 3, 1) := by decide +kernel
theorem dX7_init_133 : decode cX7_init 133 = .ok (.newarray .int, 2) := by decide +kernel
theorem dX7_init_135 : decode cX7_init 135 = .ok (.putfield 58, 3) := by decide +kernel
theorem dX7_init_138 : decode cX7_init 138 = .ok (.aload_n 0, 1) := by decide +kernel
theorem dX7_init_139 : decode cX7_init 139 = .ok (.iconst 3, 1) := by decide +kernel
theorem dX7_init_140 : decode cX7_init 140 = .ok (.newarray .int, 2) := by decide +kernel
theorem dX7_init_142 : decode cX7_init 142 = .ok (.putfield 61, 3) := by decide +kernel
theorem dX7_init_145 : decode cX7_init 145 = .ok (.aload_n 0, 1) := by decide +kernel
theorem dX7_init_146 : decode cX7_init 146 = .ok (.iconst 3, 1) := by decide +kernel
theorem dX7_init_147 : decode cX7_init 147 = .ok (.newarray .int, 2) := by decide +kernel
theorem dX7_init_149 : decode cX7_init 149 = .ok (.putfield 64, 3) := by decide +kernel
theorem dX7_init_152 : decode cX7_init 152 = .ok (.aload_n 0, 1) := by decide +kernel
theorem dX7_init_153 : decode cX7_init 153 = .ok (.iconst 3, 1) := by decide +kernel
theorem dX7_init_154 : decode cX7_init 154 = .ok (.newarray .int, 2) := by decide +kernel
theorem dX7_init_156 : decode cX7_init 156 = .ok (.putfield 67, 3) := by decide +kernel
theorem dX7_init_159 : decode cX7_init 159 = .ok (.aload_n 0, 1) := by decide +kernel
theorem dX7_init_160 : decode cX7_init 160 = .ok (.bipush 120, 2) := by decide +kernel
theorem dX7_init_162 : decode cX7_init 162 = .ok (.newarray .int, 2) := by decide +kernel
theorem dX7_init_164 : decode cX7_init 164 = .ok (.putfield 70, 3) := by decide +kernel
theorem dX7_init_167 : decode cX7_init 167 = .ok (.aload_n 0, 1) := by decide +kernel
theorem dX7_init_168 : decode cX7_init 168 = .ok (.bipush 120, 2) := by decide +kernel
theorem dX7_init_170 : decode cX7_init 170 = .ok (.newarray .int, 2) := by decide +kernel
theorem dX7_init_172 : decode cX7_init 172 = .ok (.putfield 73, 3) := by decide +kernel
theorem dX7_init_175 : decode cX7_init 175 = .ok (.aload_n 0, 1) := by decide +kernel
theorem dX7_init_176 : decode cX7_init 176 = .ok (.bipush 120, 2) := by decide +kernel
theorem dX7_init_178 : decode cX7_init 178 = .ok (.newarray .int, 2) := by decide +kernel
theorem dX7_init_180 : decode cX7_init 180 = .ok (.putfield 76, 3) := by decide +kernel
theorem dX7_init_183 : decode cX7_init 183 = .ok (.aload_n 0, 1) := by decide +kernel
theorem dX7_init_184 : decode cX7_init 184 = .ok (.iconst 3, 1) := by decide +kernel
theorem dX7_init_185 : decode cX7_init 185 = .ok (.newarray .int, 2) := by decide +kernel
theorem dX7_init_187 : decode cX7_init 187 = .ok (.putfield 79, 3) := by decide +kernel
theorem dX7_init_190 : decode cX7_init 190 = .ok (.aload_n 0, 1) := by decide +kernel
theorem dX7_init_191 : decode cX7_init 191 = .ok (.bipush 6, 2) := by decide +kernel
theorem dX7_init_193 : decode cX7_init 193 = .ok (.newarray .int, 2) := by decide +kernel
theorem dX7_init_195 : decode cX7_init 195 = .ok (.putfield 82, 3) := by decide +kernel
theorem dX7_init_198 : decode cX7_init 198 = .ok (.aload_n 0, 1) := by decide +kernel
theorem dX7_init_199 : decode cX7_init 199 = .ok (.bipush 6, 2) := by decide +kernel
theorem dX7_init_201 : decode cX7_init 201 = .ok (.newarray .int, 2) := by decide +kernel
theorem dX7_init_203 : decode cX7_init 203 = .ok (.putfield 85, 3) := by decide +kernel
theorem dX7_init_206 : decode cX7_init 206 = .ok (.aload_n 0, 1) := by decide +kernel
theorem dX7_init_207 : decode cX7_init 207 = .ok (.bipush 6, 2) := by decide +kernel
theorem dX7_init_209 : decode cX7_init 209 = .ok (.newarray .int, 2) := by decide +kernel
theorem dX7_init_211 : decode cX7_init 211 = .ok (.putfield 88, 3) := by decide +kernel
theorem dX7_init_214 : decode cX7_init 214 = .ok (.aload_n 0, 1) := by decide +kernel
theorem dX7_init_215 : decode cX7_init 215 = .ok (.iconst (-1), 1) := by decide +kernel
theorem dX7_init_216 : decode cX7_init 216 = .ok (.putfield 91, 3) := by decide +kernel
theorem dX7_init_219 : decode cX7_init 219 = .ok (.aload_n 0, 1) := by decide +kernel
theorem dX7_init_220 : decode cX7_init 220 = .ok (.iconst (-1), 1) := by decide +kernel
theorem dX7_init_221 : decode cX7_init 221 = .ok (.putfield 95, 3) := by decide +kernel
theorem dX7_init_224 : decode cX7_init 224 = .ok (.aload_n 0, 1) := by decide +kernel
theorem dX7_init_225 : decode cX7_init 225 = .ok (.iconst 4, 1) := by decide +kernel
theorem dX7_init_226 : decode cX7_init 226 = .ok (.newarray .int, 2) := by decide +kernel
theorem dX7_init_228 : decode cX7_init 228 = .ok (.putfield 98, 3) := by decide +kernel
theorem dX7_init_231 : decode cX7_init 231 = .ok (.aload_n 0, 1) := by decide +kernel
theorem dX7_init_232 : decode cX7_init 232 = .ok (.iconst 5, 1) := by decide +kernel
theorem dX7_init_233 : decode cX7_init 233 = .ok (.newarray .int, 2) := by decide +kernel
theorem dX7_init_235 : decode cX7_init 235 = .ok (.putfield 101, 3) := by decide +kernel
theorem dX7_init_238 : decode cX7_init 238 = .ok (.aload_n 0, 1) := by decide +kernel
theorem dX7_init_239 : decode cX7_init 239 = .ok (.iload_n 1, 1) := by decide +kernel
theorem dX7_init_240 : decode cX7_init 240 = .ok (.iconst 1, 1) := by decide +kernel
theorem dX7_init_241 : decode cX7_init 241 = .ok (.iand, 1) := by decide +kernel
theorem dX7_init_242 : decode cX7_init 242 = .ok (.iconst 1, 1) := by decide +kernel
theorem dX7_init_243 : decode cX7_init 243 = .ok (.if_icmp .ne 7, 3) := by decide +kernel
theorem dX7_init_246 : decode cX7_init 246 = .ok (.iconst 3, 1) := by decide +kernel
theorem dX7_init_247 : decode cX7_init 247 = .ok (.goto 4, 3) := by decide +kernel
theorem dX7_init_250 : decode cX7_init 250 = .ok (.iconst 2, 1) := by decide +kernel
theorem dX7_init_251 : decode cX7_init 251 = .ok (.putfield 104, 3) := by decide +kernel
theorem dX7_init_254 : decode cX7_init 254 = .ok (.aload_n 0, 1) := by decide +kernel
theorem dX7_init_255 : decode cX7_init 255 = .ok (.iconst 1, 1) := by decide +kernel
theorem dX7_init_256 : decode cX7_init 256 = .ok (.aload_n 0, 1) := by decide +kernel
theorem dX7_init_257 : decode cX7_init 257 = .ok (.getfield 104, 3) := by decide +kernel
theorem dX7_init_260 : decode cX7_init 260 = .ok (.ishl, 1) := by decide +kernel
theorem dX7_init_261 : decode cX7_init 261 = .ok (.iconst 1, 1) := by decide +kernel
theorem dX7_init_262 : decode cX7_init 262 = .ok (.isub, 1) := by decide +kernel
theorem dX7_init_263 : decode cX7_init 263 = .ok (.putfield 107, 3) := by decide +kernel
theorem dX7_init_266 : decode cX7_init 266 = .ok (.iconst 0, 1) := by decide +kernel
theorem dX7_init_267 : decode cX7_init 267 = .ok (.istore_n 2, 1) := by decide +kernel
theorem dX7_init_268 : decode cX7_init 268 = .ok (.iload_n 2, 1) := by decide +kernel
theorem dX7_init_269 : decode cX7_init 269 = .ok (.iconst 4, 1) := by decide +kernel
theorem dX7_init_270 : decode cX7_init 270 = .ok (.if_icmp .ge 16, 3) := by decide +kernel
theorem dX7_init_273 : decode cX7_init 273 = .ok (.aload_n 0, 1) := by decide +kernel
theorem dX7_init_274 : decode cX7_init 274 = .ok (.getfield 28, 3) := by decide +kernel
theorem dX7_init_277 : decode cX7_init 277 = .ok (.iload_n 2, 1) := by decide +kernel
theorem dX7_init_278 : decode cX7_init 278 = .ok (.iload_n 2, 1) := by decide +kernel
theorem dX7_init_279 : decode cX7_init 279 = .ok (.iastore, 1) := by decide +kernel
theorem dX7_init_280 : decode cX7_init 280 = .ok (.iinc 2 1, 3) := by decide +kernel
theorem dX7_init_283 : decode cX7_init 283 = .ok (.goto (-15), 3) := by decide +kernel
theorem dX7_init_286 : decode cX7_init 286 = .ok (.return_, 1) := by decide +kernel
theorem dX7_in_0 : decode cX7_in 0 = .ok (.iload_n 0, 1) := by decide +kernel
theorem dX7_in_1 : decode cX7_in 1 = .ok (.iload_n 1, 1) := by decide +kernel
theorem dX7_in_2 : decode cX7_in 2 = .ok (.if_icmp .lt 12, 3) := by decide +kernel
theorem dX7_in_5 : decode cX7_in 5 = .ok (.iload_n 0, 1) := by decide +kernel
theorem dX7_in_6 : decode cX7_in 6 = .ok (.iload_n 2, 1) := by decide +kernel
theorem dX7_in_7 : decode cX7_in 7 = .ok (.if_icmp .gt 7, 3) := by decide +kernel
theorem dX7_in_10 : decode cX7_in 10 = .ok (.iconst 1, 1) := by decide +kernel
theorem dX7_in_11 : decode cX7_in 11 = .ok (.goto 4, 3) := by decide +kernel
theorem dX7_in_14 : decode cX7_in 14 = .ok (.iconst 0, 1) := by decide +kernel
theorem dX7_in_15 : decode cX7_in 15 = .ok (.ireturn, 1) := by decide +kernel
set_option maxRecDepth 20000 in
theorem ggX7_isMethod_X7_in : GoodIn wsX7_isMethod wsX7_in := goodIn_r _ [5] (by decide +kernel) (by decide +kernel)
set_option maxRecDepth 20000 in
theorem gX7_isMethod_X7_in : GoodIn wsX7_isMethod (va_wsS RX7 110 yX7_in wsX7_in) := goodIn_app (goodIn_of _ (by decide +kernel)) ggX7_isMethod_X7_in
theorem dX7_isMethod_0 : decode cX7_isMethod 0 = .ok (.iload_n 1, 1) := by decide +kernel
theorem dX7_isMethod_1 : decode cX7_isMethod 1 = .ok (.iconst 0, 1) := by decide +kernel
theorem dX7_isMethod_2 : decode cX7_isMethod 2 = .ok (.iconst 1, 1) := by decide +kernel
theorem dX7_isMethod_3 : decode cX7_isMethod 3 = .ok (.invokestatic 110, 3) := by decide +kernel
theorem dX7_isMethod_6 : decode cX7_isMethod 6 = .ok (.ifCond .eq 23, 3) := by decide +kernel
theorem dX7_isMethod_9 : decode cX7_isMethod 9 = .ok (.iload_n 2, 1) := by decide +kernel
theorem dX7_isMethod_10 : decode cX7_isMethod 10 = .ok (.iconst 0, 1) := by decide +kernel
theorem dX7_isMethod_11 : decode cX7_isMethod 11 = .ok (.aload_n 0, 1) := by decide +kernel
theorem dX7_isMethod_12 : decode cX7_isMethod 12 = .ok (.getfield 7, 3) := by decide +kernel
theorem dX7_isMethod_15 : decode cX7_isMethod 15 = .ok (.iload_n 1, 1) := by decide +kernel
theorem dX7_isMethod_16 : decode cX7_isMethod 16 = .ok (.iaload, 1) := by decide +kernel
theorem dX7_isMethod_17 : decode cX7_isMethod 17 = .ok (.iconst 1, 1) := by decide +kernel
theorem dX7_isMethod_18 : decode cX7_isMethod 18 = .ok (.isub, 1) := by decide +kernel
theorem dX7_isMethod_19 : decode cX7_isMethod 19 = .ok (.invokestatic 110, 3) := by decide +kernel
theorem dX7_isMethod_22 : decode cX7_isMethod 22 = .ok (.ifCond .eq 7, 3) := by decide +kernel
theorem dX7_isMethod_25 : decode cX7_isMethod 25 = .ok (.iconst 1, 1) := by decide +kernel
theorem dX7_isMethod_26 : decode cX7_isMethod 26 = .ok (.goto 4, 3) := by decide +kernel
theorem dX7_isMethod_29 : decode cX7_isMethod 29 = .ok (.iconst 0, 1) := by decide +kernel
theorem dX7_isMethod_30 : decode cX7_isMethod 30 = .ok (.ireturn, 1) := by decide +kernel
set_option maxRecDepth 20000 in
theorem ggX7_isNumber_X7_in : GoodIn wsX7_isNumber wsX7_in := goodIn_r _ [5] (by decide +kernel) (by decide +kernel)
set_option maxRecDepth 20000 in
theorem gX7_isNumber_X7_in : GoodIn wsX7_isNumber (va_wsS RX7 110 yX7_in wsX7_in) := goodIn_app (goodIn_of _ (by decide +kernel)) ggX7_isNumber_X7_in
theorem dX7_isNumber_0 : decode cX7_isNumber 0 = .ok (.iload_n 1, 1) := by decide +kernel
theorem dX7_isNumber_1 : decode cX7_isNumber 1 = .ok (.iconst 0, 1) := by decide +kernel
theorem dX7_isNumber_2 : decode cX7_isNumber 2 = .ok (.aload_n 0, 1) := by decide +kernel
theorem dX7_isNumber_3 : decode cX7_isNumber 3 = .ok (.getfield 107, 3) := by decide +kernel
theorem dX7_isNumber_6 : decode cX7_isNumber 6 = .ok (.invokestatic 110, 3) := by decide +kernel
theorem dX7_isNumber_9 : decode cX7_isNumber 9 = .ok (.ireturn, 1) := by decide +kernel
set_option maxRecDepth 20000 in
theorem ggX7_method_X7_in : GoodIn wsX7_method wsX7_in := goodIn_r _ [6] (by decide +kernel) (by decide +kernel)
set_option maxRecDepth 20000 in
theorem gX7_method_X7_in : GoodIn wsX7_method (va_wsS RX7 110 yX7_in wsX7_in) := goodIn_app (goodIn_of _ (by decide +kernel)) ggX7_method_X7_in
theorem dX7_method_0 : decode cX7_method 0 = .ok (.iload_n 1, 1) := by decide +kernel
theorem dX7_method_1 : decode cX7_method 1 = .ok (.iconst 0, 1) := by decide +kernel
theorem dX7_method_2 : decode cX7_method 2 = .ok (.iconst 1, 1) := by decide +kernel
theorem dX7_method_3 : decode cX7_method 3 = .ok (.invokestatic 110, 3) := by decide +kernel
theorem dX7_method_6 : decode cX7_method 6 = .ok (.ifCond .ne 6, 3) := by decide +kernel
theorem dX7_method_9 : decode cX7_method 9 = .ok (.bipush (-101), 2) := by decide +kernel
theorem dX7_method_11 : decode cX7_method 11 = .ok (.ireturn, 1) := by decide +kernel
theorem dX7_method_12 : decode cX7_method 12 = .ok (.aload_n 0, 1) := by decide +kernel
theorem dX7_method_13 : decode cX7_method 13 = .ok (.getfield 7, 3) := by decide +kernel
theorem dX7_method_16 : decode cX7_method 16 = .ok (.iload_n 1, 1) := by decide +kernel
theorem dX7_method_17 : decode cX7_method 17 = .ok (.iaload, 1) := by decide +kernel
theorem dX7_method_18 : decode cX7_method 18 = .ok (.bipush 6, 2) := by decide +kernel
theorem dX7_method_20 : decode cX7_method 20 = .ok (.if_icmp .ne 6, 3) := by decide +kernel
theorem dX7_method_23 : decode cX7_method 23 = .ok (.bipush (-104), 2) := by decide +kernel
theorem dX7_method_25 : decode cX7_method 25 = .ok (.ireturn, 1) := by decide +kernel
theorem dX7_method_26 : decode cX7_method 26 = .ok (.aload_n 0, 1) := by decide +kernel
theorem dX7_method_27 : decode cX7_method 27 = .ok (.getfield 7, 3) := by decide +kernel
theorem dX7_method_30 : decode cX7_method 30 = .ok (.iload_n 1, 1) := by decide +kernel
theorem dX7_method_31 : decode cX7_method 31 = .ok (.iaload, 1) := by decide +kernel
theorem dX7_method_32 : decode cX7_method 32 = .ok (.istore_n 2, 1) := by decide +kernel
theorem dX7_method_33 : decode cX7_method 33 = .ok (.aload_n 0, 1) := by decide +kernel
theorem dX7_method_34 : decode cX7_method 34 = .ok (.getfield 13, 3) := by decide +kernel
theorem dX7_method_37 : decode cX7_method 37 = .ok (.bipush 6, 2) := by decide +kernel
theorem dX7_method_39 : decode cX7_method 39 = .ok (.iload_n 1, 1) := by decide +kernel
theorem dX7_method_40 : decode cX7_method 40 = .ok (.imul, 1) := by decide +kernel
theorem dX7_method_41 : decode cX7_method 41 = .ok (.iload_n 2, 1) := by decide +kernel
theorem dX7_method_42 : decode cX7_method 42 = .ok (.iadd, 1) := by decide +kernel
theorem dX7_method_43 : decode cX7_method 43 = .ok (.iconst 0, 1) := by decide +kernel
theorem dX7_method_44 : decode cX7_method 44 = .ok (.iastore, 1) := by decide +kernel
theorem dX7_method_45 : decode cX7_method 45 = .ok (.aload_n 0, 1) := by decide +kernel
theorem dX7_method_46 : decode cX7_method 46 = .ok (.getfield 7, 3) := by decide +kernel
theorem dX7_method_49 : decode cX7_method 49 = .ok (.iload_n 1, 1) := by decide +kernel
theorem dX7_method_50 : decode cX7_method 50 = .ok (.dup2, 1) := by decide +kernel
theorem dX7_method_51 : decode cX7_method 51 = .ok (.iaload, 1) := by decide +kernel
theorem dX7_method_52 : decode cX7_method 52 = .ok (.iconst 1, 1) := by decide +kernel
theorem dX7_method_53 : decode cX7_method 53 = .ok (.iadd, 1) := by decide +kernel
theorem dX7_method_54 : decode cX7_method 54 = .ok (.iastore, 1) := by decide +kernel
theorem dX7_method_55 : decode cX7_method 55 = .ok (.iload_n 2, 1) := by decide +kernel
theorem dX7_method_56 : decode cX7_method 56 = .ok (.ireturn, 1) := by decide +kernel
set_option maxRecDepth 20000 in
theorem ggX7_isRegister_X7_in : GoodIn wsX7_isRegister wsX7_in := goodIn_r _ [4] (by decide +kernel) (by decide +kernel)
set_option maxRecDepth 20000 in
theorem gX7_isRegister_X7_in : GoodIn wsX7_isRegister (va_wsS RX7 110 yX7_in wsX7_in) := goodIn_app (goodIn_of _ (by decide +kernel)) ggX7_isRegister_X7_in
theorem dX7_isRegister_0 : decode cX7_isRegister 0 = .ok (.iload_n 0, 1) := by decide +kernel
theorem dX7_isRegister_1 : decode cX7_isRegister 1 = .ok (.iconst 0, 1) := by decide +kernel
theorem dX7_isRegister_2 : decode cX7_isRegister 2 = .ok (.iconst 5, 1) := by decide +kernel
theorem dX7_isRegister_3 : decode cX7_isRegister 3 = .ok (.invokestatic 110, 3) := by decide +kernel
theorem dX7_isRegister_6 : decode cX7_isRegister 6 = .ok (.ireturn, 1) := by decide +kernel
set_option maxRecDepth 20000 in
theorem ggX7_isRight_X7_isRegister : GoodIn wsX7_isRight wsX7_isRegister := goodIn_r _ [4, 5, 6, 3, 7] (by decide +kernel) (by decide +kernel)
set_option maxRecDepth 20000 in
theorem gX7_isRight_X7_isRegister : GoodIn wsX7_isRight (va_wsS RX7 114 yX7_isRegister wsX7_isRegister) := goodIn_app (goodIn_of _ (by decide +kernel)) ggX7_isRight_X7_isRegister
set_option maxRecDepth 20000 in
theorem ggX7_isRight_X7_isNumber : GoodIn wsX7_isRight wsX7_isNumber := goodIn_r _ [11, 12, 5, 6, 3, 7, 13, 14, 15, 16, 17, 18, 19, 20, 21, 22, 23, 24, 25, 26, 27, 28, 29, 30, 31, 32, 33, 34, 35, 36, 37, 38, 39, 40, 41, 42, 43, 44, 45, 46, 47, 48, 49, 50, 51, 52, 53, 54] (by decide +kernel) (by decide +kernel)
set_option maxRecDepth 20000 in
theorem gX7_isRight_X7_isNumber : GoodIn wsX7_isRight (wsV RX7 118 RX7 yX7_isNumber wsX7_isNumber) := goodIn_app (goodIn_of _ (by decide +kernel)) ggX7_isRight_X7_isNumber
set_option maxRecDepth 20000 in
theorem ggX7_isRight_X7_in : GoodIn wsX7_isRight wsX7_in := goodIn_r _ [7] (by decide +kernel) (by decide +kernel)
set_option maxRecDepth 20000 in
theorem gX7_isRight_X7_in : GoodIn wsX7_isRight (va_wsS RX7 110 yX7_in wsX7_in) := goodIn_app (goodIn_of _ (by decide +kernel)) ggX7_isRight_X7_in
theorem dX7_isRight_0 : decode cX7_isRight 0 = .ok (.iload_n 1, 1) := by decide +kernel
theorem dX7_isRight_1 : decode cX7_isRight 1 = .ok (.tableswitch 231 0 15 #[79, 100, 231, 231, 231, 231, 231, 231, 231, 231, 120, 143, 151, 173, 203, 208], 79) := by decide +kernel
theorem dX7_isRight_80 : decode cX7_isRight 80 = .ok (.iload_n 2, 1) := by decide +kernel
theorem dX7_isRight_81 : decode cX7_isRight 81 = .ok (.invokestatic 114, 3) := by decide +kernel
theorem dX7_isRight_84 : decode cX7_isRight 84 = .ok (.ifCond .eq 15, 3) := by decide +kernel
theorem dX7_isRight_87 : decode cX7_isRight 87 = .ok (.aload_n 0, 1) := by decide +kernel
theorem dX7_isRight_88 : decode cX7_isRight 88 = .ok (.iload_n 3, 1) := by decide +kernel
theorem dX7_isRight_89 : decode cX7_isRight 89 = .ok (.invokevirtual 118, 3) := by decide +kernel
theorem dX7_isRight_92 : decode cX7_isRight 92 = .ok (.ifCond .eq 7, 3) := by decide +kernel
theorem dX7_isRight_95 : decode cX7_isRight 95 = .ok (.iconst 1, 1) := by decide +kernel
theorem dX7_isRight_96 : decode cX7_isRight 96 = .ok (.goto 4, 3) := by decide +kernel
theorem dX7_isRight_99 : decode cX7_isRight 99 = .ok (.iconst 0, 1) := by decide +kernel
theorem dX7_isRight_100 : decode cX7_isRight 100 = .ok (.ireturn, 1) := by decide +kernel
theorem dX7_isRight_101 : decode cX7_isRight 101 = .ok (.iload_n 2, 1) := by decide +kernel
theorem dX7_isRight_102 : decode cX7_isRight 102 = .ok (.invokestatic 114, 3) := by decide +kernel
theorem dX7_isRight_105 : decode cX7_isRight 105 = .ok (.ifCond .eq 14, 3) := by decide +kernel
theorem dX7_isRight_108 : decode cX7_isRight 108 = .ok (.iload_n 3, 1) := by decide +kernel
theorem dX7_isRight_109 : decode cX7_isRight 109 = .ok (.invokestatic 114, 3) := by decide +kernel
theorem dX7_isRight_112 : decode cX7_isRight 112 = .ok (.ifCond .eq 7, 3) := by decide +kernel
theorem dX7_isRight_115 : decode cX7_isRight 115 = .ok (.iconst 1, 1) := by decide +kernel
theorem dX7_isRight_116 : decode cX7_isRight 116 = .ok (.goto 4, 3) := by decide +kernel
theorem dX7_isRight_119 : decode cX7_isRight 119 = .ok (.iconst 0, 1) := by decide +kernel
theorem dX7_isRight_120 : decode cX7_isRight 120 = .ok (.ireturn, 1) := by decide +kernel
theorem dX7_isRight_121 : decode cX7_isRight 121 = .ok (.iload_n 2, 1) := by decide +kernel
theorem dX7_isRight_122 : decode cX7_isRight 122 = .ok (.invokestatic 114, 3) := by decide +kernel
theorem dX7_isRight_125 : decode cX7_isRight 125 = .ok (.ifCond .eq 17, 3) := by decide +kernel
theorem dX7_isRight_128 : decode cX7_isRight 128 = .ok (.iload_n 3, 1) := by decide +kernel
theorem dX7_isRight_129 : decode cX7_isRight 129 = .ok (.iconst 0, 1) := by decide +kernel
theorem dX7_isRight_130 : decode cX7_isRight 130 = .ok (.bipush 24, 2) := by decide +kernel
theorem dX7_isRight_132 : decode cX7_isRight 132 = .ok (.invokestatic 110, 3) := by decide +kernel
theorem dX7_isRight_135 : decode cX7_isRight 135 = .ok (.ifCond .eq 7, 3) := by decide +kernel
theorem dX7_isRight_138 : decode cX7_isRight 138 = .ok (.iconst 1, 1) := by decide +kernel
theorem dX7_isRight_139 : decode cX7_isRight 139 = .ok (.goto 4, 3) := by decide +kernel
theorem dX7_isRight_142 : decode cX7_isRight 142 = .ok (.iconst 0, 1) := by decide +kernel
theorem dX7_isRight_143 : decode cX7_isRight 143 = .ok (.ireturn, 1) := by decide +kernel
theorem dX7_isRight_144 : decode cX7_isRight 144 = .ok (.iload_n 2, 1) := by decide +kernel
theorem dX7_isRight_145 : decode cX7_isRight 145 = .ok (.iconst 0, 1) := by decide +kernel
theorem dX7_isRight_146 : decode cX7_isRight 146 = .ok (.bipush 24, 2) := by decide +kernel
theorem dX7_isRight_148 : decode cX7_isRight 148 = .ok (.invokestatic 110, 3) := by decide +kernel
theorem dX7_isRight_151 : decode cX7_isRight 151 = .ok (.ireturn, 1) := by decide +kernel
theorem dX7_isRight_152 : decode cX7_isRight 152 = .ok (.iload_n 2, 1) := by decide +kernel
theorem dX7_isRight_153 : decode cX7_isRight 153 = .ok (.iconst 0, 1) := by decide +kernel
theorem dX7_isRight_154 : decode cX7_isRight 154 = .ok (.iconst 3, 1) := by decide +kernel
theorem dX7_isRight_155 : decode cX7_isRight 155 = .ok (.invokestatic 110, 3) := by decide +kernel
theorem dX7_isRight_158 : decode cX7_isRight 158 = .ok (.ifCond .eq 14, 3) := by decide +kernel
theorem dX7_isRight_161 : decode cX7_isRight 161 = .ok (.iload_n 3, 1) := by decide +kernel
theorem dX7_isRight_162 : decode cX7_isRight 162 = .ok (.invokestatic 114, 3) := by decide +kernel
theorem dX7_isRight_165 : decode cX7_isRight 165 = .ok (.ifCond .eq 7, 3) := by decide +kernel
theorem dX7_isRight_168 : decode cX7_isRight 168 = .ok (.iconst 1, 1) := by decide +kernel
theorem dX7_isRight_169 : decode cX7_isRight 169 = .ok (.goto 4, 3) := by decide +kernel
theorem dX7_isRight_172 : decode cX7_isRight 172 = .ok (.iconst 0, 1) := by decide +kernel
theorem dX7_isRight_173 : decode cX7_isRight 173 = .ok (.ireturn, 1) := by decide +kernel
theorem dX7_isRight_174 : decode cX7_isRight 174 = .ok (.iload_n 2, 1) := by decide +kernel
theorem dX7_isRight_175 : decode cX7_isRight 175 = .ok (.invokestatic 114, 3) := by decide +kernel
theorem dX7_isRight_178 : decode cX7_isRight 178 = .ok (.ifCond .eq 24, 3) := by decide +kernel
theorem dX7_isRight_181 : decode cX7_isRight 181 = .ok (.iload_n 3, 1) := by decide +kernel
theorem dX7_isRight_182 : decode cX7_isRight 182 = .ok (.iconst 0, 1) := by decide +kernel
theorem dX7_isRight_183 : decode cX7_isRight 183 = .ok (.iconst 5, 1) := by decide +kernel
theorem dX7_isRight_184 : decode cX7_isRight 184 = .ok (.invokestatic 110, 3) := by decide +kernel
theorem dX7_isRight_187 : decode cX7_isRight 187 = .ok (.ifCond .eq 15, 3) := by decide +kernel
theorem dX7_isRight_190 : decode cX7_isRight 190 = .ok (.iload 4, 2) := by decide +kernel
theorem dX7_isRight_192 : decode cX7_isRight 192 = .ok (.invokestatic 114, 3) := by decide +kernel
theorem dX7_isRight_195 : decode cX7_isRight 195 = .ok (.ifCond .eq 7, 3) := by decide +kernel
theorem dX7_isRight_198 : decode cX7_isRight 198 = .ok (.iconst 1, 1) := by decide +kernel
theorem dX7_isRight_199 : decode cX7_isRight 199 = .ok (.goto 4, 3) := by decide +kernel
theorem dX7_isRight_202 : decode cX7_isRight 202 = .ok (.iconst 0, 1) := by decide +kernel
theorem dX7_isRight_203 : decode cX7_isRight 203 = .ok (.ireturn, 1) := by decide +kernel
theorem dX7_isRight_204 : decode cX7_isRight 204 = .ok (.iload_n 2, 1) := by decide +kernel
theorem dX7_isRight_205 : decode cX7_isRight 205 = .ok (.invokestatic 114, 3) := by decide +kernel
theorem dX7_isRight_208 : decode cX7_isRight 208 = .ok (.ireturn, 1) := by decide +kernel
theorem dX7_isRight_209 : decode cX7_isRight 209 = .ok (.iload_n 2, 1) := by decide +kernel
theorem dX7_isRight_210 : decode cX7_isRight 210 = .ok (.iconst 2, 1) := by decide +kernel
theorem dX7_isRight_211 : decode cX7_isRight 211 = .ok (.bipush 7, 2) := by decide +kernel
theorem dX7_isRight_213 : decode cX7_isRight 213 = .ok (.invokestatic 110, 3) := by decide +kernel
theorem dX7_isRight_216 : decode cX7_isRight 216 = .ok (.ifCond .eq 14, 3) := by decide +kernel
theorem dX7_isRight_219 : decode cX7_isRight 219 = .ok (.iload_n 3, 1) := by decide +kernel
theorem dX7_isRight_220 : decode cX7_isRight 220 = .ok (.invokestatic 114, 3) := by decide +kernel
theorem dX7_isRight_223 : decode cX7_isRight 223 = .ok (.ifCond .eq 7, 3) := by decide +kernel
theorem dX7_isRight_226 : decode cX7_isRight 226 = .ok (.iconst 1, 1) := by decide +kernel
theorem dX7_isRight_227 : decode cX7_isRight 227 = .ok (.goto 4, 3) := by decide +kernel
theorem dX7_isRight_230 : decode cX7_isRight 230 = .ok (.iconst 0, 1) := by decide +kernel
theorem dX7_isRight_231 : decode cX7_isRight 231 = .ok (.ireturn, 1) := by decide +kernel
theorem dX7_isRight_232 : decode cX7_isRight 232 = .ok (.iload_n 1, 1) := by decide +kernel
theorem dX7_isRight_233 : decode cX7_isRight 233 = .ok (.iconst 2, 1) := by decide +kernel
theorem dX7_isRight_234 : decode cX7_isRight 234 = .ok (.bipush 9, 2) := by decide +kernel
theorem dX7_isRight_236 : decode cX7_isRight 236 = .ok (.invokestatic 110, 3) := by decide +kernel
theorem dX7_isRight_239 : decode cX7_isRight 239 = .ok (.ifCond .eq 29, 3) := by decide +kernel
theorem dX7_isRight_242 : decode cX7_isRight 242 = .ok (.iload_n 2, 1) := by decide +kernel
theorem dX7_isRight_243 : decode cX7_isRight 243 = .ok (.invokestatic 114, 3) := by decide +kernel
theorem dX7_isRight_246 : decode cX7_isRight 246 = .ok (.ifCond .eq 22, 3) := by decide +kernel
theorem dX7_isRight_249 : decode cX7_isRight 249 = .ok (.iload_n 3, 1) := by decide +kernel
theorem dX7_isRight_250 : decode cX7_isRight 250 = .ok (.invokestatic 114, 3) := by decide +kernel
theorem dX7_isRight_253 : decode cX7_isRight 253 = .ok (.ifCond .eq 15, 3) := by decide +kernel
theorem dX7_isRight_256 : decode cX7_isRight 256 = .ok (.iload 4, 2) := by decide +kernel
theorem dX7_isRight_258 : decode cX7_isRight 258 = .ok (.invokestatic 114, 3) := by decide +kernel
theorem dX7_isRight_261 : decode cX7_isRight 261 = .ok (.ifCond .eq 7, 3) := by decide +kernel
theorem dX7_isRight_264 : decode cX7_isRight 264 = .ok (.iconst 1, 1) := by decide +kernel
theorem dX7_isRight_265 : decode cX7_isRight 265 = .ok (.goto 4, 3) := by decide +kernel
theorem dX7_isRight_268 : decode cX7_isRight 268 = .ok (.iconst 0, 1) := by decide +kernel
theorem dX7_isRight_269 : decode cX7_isRight 269 = .ok (.ireturn, 1) := by decide +kernel
set_option maxRecDepth 20000 in
theorem ggX7_op_X7_isMethod : GoodIn wsX7_op wsX7_isMethod := goodIn_r _ [10, 11, 12, 13, 9, 14, 27, 28, 29, 30, 31, 32, 33, 34, 35, 36, 37, 38, 39, 40, 41, 42, 43, 44, 45, 46, 47, 48, 49, 50, 51, 52, 53, 54, 55, 56, 57, 58, 59, 60, 61, 62, 63, 64, 65, 66, 67, 68] (by decide +kernel) (by decide +kernel)
set_option maxRecDepth 20000 in
theorem gX7_op_X7_isMethod : GoodIn wsX7_op (wsV RX7 121 RX7 yX7_isMethod wsX7_isMethod) := goodIn_app (goodIn_of _ (by decide +kernel)) ggX7_op_X7_isMethod
set_option maxRecDepth 20000 in
theorem ggX7_op_X7_isRight : GoodIn wsX7_op wsX7_isRight := goodIn_r _ [18, 19, 20, 9, 21, 12, 13, 14, 22, 23, 24, 25, 26, 27, 28, 29, 30, 31, 32, 33, 34, 35, 36, 37, 38, 39, 40, 41, 42, 43, 44, 45, 46, 47, 48, 49, 50, 51, 52, 53, 54, 55, 56, 57, 58, 59, 60, 61, 62, 63, 64, 65, 66, 67, 68] (by decide +kernel) (by decide +kernel)
set_option maxRecDepth 20000 in
theorem gX7_op_X7_isRight : GoodIn wsX7_op (wsV RX7 125 RX7 yX7_isRight wsX7_isRight) := goodIn_app (goodIn_of _ (by decide +kernel)) ggX7_op_X7_isRight
theorem dX7_op_0 : decode cX7_op 0 = .ok (.aload_n 0, 1) := by decide +kernel
theorem dX7_op_1 : decode cX7_op 1 = .ok (.iload_n 1, 1) := by decide +kernel
theorem dX7_op_2 : decode cX7_op 2 = .ok (.iload_n 2, 1) := by decide +kernel
theorem dX7_op_3 : decode cX7_op 3 = .ok (.invokevirtual 121, 3) := by decide +kernel
theorem dX7_op_6 : decode cX7_op 6 = .ok (.ifCond .ne 6, 3) := by decide +kernel
theorem dX7_op_9 : decode cX7_op 9 = .ok (.bipush (-101), 2) := by decide +kernel
theorem dX7_op_11 : decode cX7_op 11 = .ok (.ireturn, 1) := by decide +kernel
theorem dX7_op_12 : decode cX7_op 12 = .ok (.aload_n 0, 1) := by decide +kernel
theorem dX7_op_13 : decode cX7_op 13 = .ok (.iload_n 3, 1) := by decide +kernel
theorem dX7_op_14 : decode cX7_op 14 = .ok (.iload 4, 2) := by decide +kernel
theorem dX7_op_16 : decode cX7_op 16 = .ok (.iload 5, 2) := by decide +kernel
theorem dX7_op_18 : decode cX7_op 18 = .ok (.iload 6, 2) := by decide +kernel
theorem dX7_op_20 : decode cX7_op 20 = .ok (.invokevirtual 125, 3) := by decide +kernel
theorem dX7_op_23 : decode cX7_op 23 = .ok (.ifCond .ne 6, 3) := by decide +kernel
theorem dX7_op_26 : decode cX7_op 26 = .ok (.bipush (-102), 2) := by decide +kernel
theorem dX7_op_28 : decode cX7_op 28 = .ok (.ireturn, 1) := by decide +kernel
theorem dX7_op_29 : decode cX7_op 29 = .ok (.bipush 6, 2) := by decide +kernel
theorem dX7_op_31 : decode cX7_op 31 = .ok (.iload_n 1, 1) := by decide +kernel
theorem dX7_op_32 : decode cX7_op 32 = .ok (.imul, 1) := by decide +kernel
theorem dX7_op_33 : decode cX7_op 33 = .ok (.iload_n 2, 1) := by decide +kernel
theorem dX7_op_34 : decode cX7_op 34 = .ok (.iadd, 1) := by decide +kernel
theorem dX7_op_35 : decode cX7_op 35 = .ok (.istore 7, 2) := by decide +kernel
theorem dX7_op_37 : decode cX7_op 37 = .ok (.aload_n 0, 1) := by decide +kernel
theorem dX7_op_38 : decode cX7_op 38 = .ok (.getfield 13, 3) := by decide +kernel
theorem dX7_op_41 : decode cX7_op 41 = .ok (.iload 7, 2) := by decide +kernel
theorem dX7_op_43 : decode cX7_op 43 = .ok (.iaload, 1) := by decide +kernel
theorem dX7_op_44 : decode cX7_op 44 = .ok (.bipush 24, 2) := by decide +kernel
theorem dX7_op_46 : decode cX7_op 46 = .ok (.if_icmp .ne 6, 3) := by decide +kernel
theorem dX7_op_49 : decode cX7_op 49 = .ok (.bipush (-104), 2) := by decide +kernel
theorem dX7_op_51 : decode cX7_op 51 = .ok (.ireturn, 1) := by decide +kernel
theorem dX7_op_52 : decode cX7_op 52 = .ok (.bipush 24, 2) := by decide +kernel
theorem dX7_op_54 : decode cX7_op 54 = .ok (.iload 7, 2) := by decide +kernel
theorem dX7_op_56 : decode cX7_op 56 = .ok (.imul, 1) := by decide +kernel
theorem dX7_op_57 : decode cX7_op 57 = .ok (.aload_n 0, 1) := by decide +kernel
theorem dX7_op_58 : decode cX7_op 58 = .ok (.getfield 13, 3) := by decide +kernel
theorem dX7_op_61 : decode cX7_op 61 = .ok (.iload 7, 2) := by decide +kernel
theorem dX7_op_63 : decode cX7_op 63 = .ok (.iaload, 1) := by decide +kernel
theorem dX7_op_64 : decode cX7_op 64 = .ok (.iadd, 1) := by decide +kernel
theorem dX7_op_65 : decode cX7_op 65 = .ok (.istore 8, 2) := by decide +kernel
theorem dX7_op_67 : decode cX7_op 67 = .ok (.aload_n 0, 1) := by decide +kernel
theorem dX7_op_68 : decode cX7_op 68 = .ok (.getfield 16, 3) := by decide +kernel
theorem dX7_op_71 : decode cX7_op 71 = .ok (.iload 8, 2) := by decide +kernel
theorem dX7_op_73 : decode cX7_op 73 = .ok (.iload_n 3, 1) := by decide +kernel
theorem dX7_op_74 : decode cX7_op 74 = .ok (.iastore, 1) := by decide +kernel
theorem dX7_op_75 : decode cX7_op 75 = .ok (.aload_n 0, 1) := by decide +kernel
theorem dX7_op_76 : decode cX7_op 76 = .ok (.getfield 19, 3) := by decide +kernel
theorem dX7_op_79 : decode cX7_op 79 = .ok (.iload 8, 2) := by decide +kernel
theorem dX7_op_81 : decode cX7_op 81 = .ok (.iload 4, 2) := by decide +kernel
theorem dX7_op_83 : decode cX7_op 83 = .ok (.iastore, 1) := by decide +kernel
theorem dX7_op_84 : decode cX7_op 84 = .ok (.aload_n 0, 1) := by decide +kernel
theorem dX7_op_85 : decode cX7_op 85 = .ok (.getfield 22, 3) := by decide +kernel
theorem dX7_op_88 : decode cX7_op 88 = .ok (.iload 8, 2) := by decide +kernel
theorem dX7_op_90 : decode cX7_op 90 = .ok (.iload 5, 2) := by decide +kernel
theorem dX7_op_92 : decode cX7_op 92 = .ok (.iastore, 1) := by decide +kernel
theorem dX7_op_93 : decode cX7_op 93 = .ok (.aload_n 0, 1) := by decide +kernel
theorem dX7_op_94 : decode cX7_op 94 = .ok (.getfield 25, 3) := by decide +kernel
theorem dX7_op_97 : decode cX7_op 97 = .ok (.iload 8, 2) := by decide +kernel
theorem dX7_op_99 : decode cX7_op 99 = .ok (.iload 6, 2) := by decide +kernel
theorem dX7_op_101 : decode cX7_op 101 = .ok (.iastore, 1) := by decide +kernel
theorem dX7_op_102 : decode cX7_op 102 = .ok (.aload_n 0, 1) := by decide +kernel
theorem dX7_op_103 : decode cX7_op 103 = .ok (.getfield 13, 3) := by decide +kernel
theorem dX7_op_106 : decode cX7_op 106 = .ok (.iload 7, 2) := by decide +kernel
theorem dX7_op_108 : decode cX7_op 108 = .ok (.dup2, 1) := by decide +kernel
theorem dX7_op_109 : decode cX7_op 109 = .ok (.iaload, 1) := by decide +kernel
theorem dX7_op_110 : decode cX7_op 110 = .ok (.iconst 1, 1) := by decide +kernel
theorem dX7_op_111 : decode cX7_op 111 = .ok (.iadd, 1) := by decide +kernel
theorem dX7_op_112 : decode cX7_op 112 = .ok (.iastore, 1) := by decide +kernel
theorem dX7_op_113 : decode cX7_op 113 = .ok (.aload_n 0, 1) := by decide +kernel
theorem dX7_op_114 : decode cX7_op 114 = .ok (.getfield 13, 3) := by decide +kernel
theorem dX7_op_117 : decode cX7_op 117 = .ok (.iload 7, 2) := by decide +kernel
theorem dX7_op_119 : decode cX7_op 119 = .ok (.iaload, 1) := by decide +kernel
theorem dX7_op_120 : decode cX7_op 120 = .ok (.iconst 1, 1) := by decide +kernel
theorem dX7_op_121 : decode cX7_op 121 = .ok (.isub, 1) := by decide +kernel
theorem dX7_op_122 : decode cX7_op 122 = .ok (.ireturn, 1) := by decide +kernel
set_option maxRecDepth 20000 in
theorem ggX7_clear_X7_isMethod : GoodIn wsX7_clear wsX7_isMethod := goodIn_r _ [6, 7, 8, 9, 5, 10, 11, 12, 13, 14, 15, 16, 17, 18, 19, 20, 21, 22, 23, 24, 25, 26, 27, 28, 29, 30, 31, 32, 33, 34, 35, 36, 37, 38, 39, 40, 41, 42, 43, 44, 45, 46, 47, 48, 49, 50, 51, 52] (by decide +kernel) (by decide +kernel)
set_option maxRecDepth 20000 in
theorem gX7_clear_X7_isMethod : GoodIn wsX7_clear (wsV RX7 121 RX7 yX7_isMethod wsX7_isMethod) := goodIn_app (goodIn_of _ (by decide +kernel)) ggX7_clear_X7_isMethod
theorem dX7_clear_0 : decode cX7_clear 0 = .ok (.aload_n 0, 1) := by decide +kernel
theorem dX7_clear_1 : decode cX7_clear 1 = .ok (.iload_n 1, 1) := by decide +kernel
theorem dX7_clear_2 : decode cX7_clear 2 = .ok (.iload_n 2, 1) := by decide +kernel
theorem dX7_clear_3 : decode cX7_clear 3 = .ok (.invokevirtual 121, 3) := by decide +kernel
theorem dX7_clear_6 : decode cX7_clear 6 = .ok (.ifCond .ne 6, 3) := by decide +kernel
theorem dX7_clear_9 : decode cX7_clear 9 = .ok (.bipush (-101), 2) := by decide +kernel
theorem dX7_clear_11 : decode cX7_clear 11 = .ok (.ireturn, 1) := by decide +kernel
theorem dX7_clear_12 : decode cX7_clear 12 = .ok (.aload_n 0, 1) := by decide +kernel
theorem dX7_clear_13 : decode cX7_clear 13 = .ok (.getfield 13, 3) := by decide +kernel
theorem dX7_clear_16 : decode cX7_clear 16 = .ok (.bipush 6, 2) := by decide +kernel
theorem dX7_clear_18 : decode cX7_clear 18 = .ok (.iload_n 1, 1) := by decide +kernel
theorem dX7_clear_19 : decode cX7_clear 19 = .ok (.imul, 1) := by decide +kernel
theorem dX7_clear_20 : decode cX7_clear 20 = .ok (.iload_n 2, 1) := by decide +kernel
theorem dX7_clear_21 : decode cX7_clear 21 = .ok (.iadd, 1) := by decide +kernel
theorem dX7_clear_22 : decode cX7_clear 22 = .ok (.iaload, 1) := by decide +kernel
theorem dX7_clear_23 : decode cX7_clear 23 = .ok (.istore_n 3, 1) := by decide +kernel
theorem dX7_clear_24 : decode cX7_clear 24 = .ok (.aload_n 0, 1) := by decide +kernel
theorem dX7_clear_25 : decode cX7_clear 25 = .ok (.getfield 13, 3) := by decide +kernel
theorem dX7_clear_28 : decode cX7_clear 28 = .ok (.bipush 6, 2) := by decide +kernel
theorem dX7_clear_30 : decode cX7_clear 30 = .ok (.iload_n 1, 1) := by decide +kernel
theorem dX7_clear_31 : decode cX7_clear 31 = .ok (.imul, 1) := by decide +kernel
theorem dX7_clear_32 : decode cX7_clear 32 = .ok (.iload_n 2, 1) := by decide +kernel
theorem dX7_clear_33 : decode cX7_clear 33 = .ok (.iadd, 1) := by decide +kernel
theorem dX7_clear_34 : decode cX7_clear 34 = .ok (.iconst 0, 1) := by decide +kernel
theorem dX7_clear_35 : decode cX7_clear 35 = .ok (.iastore, 1) := by decide +kernel
theorem dX7_clear_36 : decode cX7_clear 36 = .ok (.iload_n 3, 1) := by decide +kernel
theorem dX7_clear_37 : decode cX7_clear 37 = .ok (.ireturn, 1) := by decide +kernel
theorem dX7_enter_0 : decode cX7_enter 0 = .ok (.aload_n 0, 1) := by decide +kernel
theorem dX7_enter_1 : decode cX7_enter 1 = .ok (.getfield 40, 3) := by decide +kernel
theorem dX7_enter_4 : decode cX7_enter 4 = .ok (.aload_n 0, 1) := by decide +kernel
theorem dX7_enter_5 : decode cX7_enter 5 = .ok (.getfield 129, 3) := by decide +kernel
theorem dX7_enter_8 : decode cX7_enter 8 = .ok (.iload_n 1, 1) := by decide +kernel
theorem dX7_enter_9 : decode cX7_enter 9 = .ok (.iastore, 1) := by decide +kernel
theorem dX7_enter_10 : decode cX7_enter 10 = .ok (.aload_n 0, 1) := by decide +kernel
theorem dX7_enter_11 : decode cX7_enter 11 = .ok (.getfield 43, 3) := by decide +kernel
theorem dX7_enter_14 : decode cX7_enter 14 = .ok (.aload_n 0, 1) := by decide +kernel
theorem dX7_enter_15 : decode cX7_enter 15 = .ok (.getfield 129, 3) := by decide +kernel
theorem dX7_enter_18 : decode cX7_enter 18 = .ok (.iconst 0, 1) := by decide +kernel
theorem dX7_enter_19 : decode cX7_enter 19 = .ok (.iastore, 1) := by decide +kernel
theorem dX7_enter_20 : decode cX7_enter 20 = .ok (.aload_n 0, 1) := by decide +kernel
theorem dX7_enter_21 : decode cX7_enter 21 = .ok (.getfield 46, 3) := by decide +kernel
theorem dX7_enter_24 : decode cX7_enter 24 = .ok (.aload_n 0, 1) := by decide +kernel
theorem dX7_enter_25 : decode cX7_enter 25 = .ok (.getfield 129, 3) := by decide +kernel
theorem dX7_enter_28 : decode cX7_enter 28 = .ok (.iload 4, 2) := by decide +kernel
theorem dX7_enter_30 : decode cX7_enter 30 = .ok (.iastore, 1) := by decide +kernel
theorem dX7_enter_31 : decode cX7_enter 31 = .ok (.iconst 0, 1) := by decide +kernel
theorem dX7_enter_32 : decode cX7_enter 32 = .ok (.istore 5, 2) := by decide +kernel
theorem dX7_enter_34 : decode cX7_enter 34 = .ok (.iload 5, 2) := by decide +kernel
theorem dX7_enter_36 : decode cX7_enter 36 = .ok (.bipush 6, 2) := by decide +kernel
theorem dX7_enter_38 : decode cX7_enter 38 = .ok (.if_icmp .ge 44, 3) := by decide +kernel
theorem dX7_enter_41 : decode cX7_enter 41 = .ok (.aload_n 0, 1) := by decide +kernel
theorem dX7_enter_42 : decode cX7_enter 42 = .ok (.getfield 49, 3) := by decide +kernel
theorem dX7_enter_45 : decode cX7_enter 45 = .ok (.bipush 6, 2) := by decide +kernel
theorem dX7_enter_47 : decode cX7_enter 47 = .ok (.aload_n 0, 1) := by decide +kernel
theorem dX7_enter_48 : decode cX7_enter 48 = .ok (.getfield 129, 3) := by decide +kernel
theorem dX7_enter_51 : decode cX7_enter 51 = .ok (.imul, 1) := by decide +kernel
theorem dX7_enter_52 : decode cX7_enter 52 = .ok (.iload 5, 2) := by decide +kernel
theorem dX7_enter_54 : decode cX7_enter 54 = .ok (.iadd, 1) := by decide +kernel
theorem dX7_enter_55 : decode cX7_enter 55 = .ok (.iload 5, 2) := by decide +kernel
theorem dX7_enter_57 : decode cX7_enter 57 = .ok (.ifCond .ne 7, 3) := by decide +kernel
theorem dX7_enter_60 : decode cX7_enter 60 = .ok (.iload_n 2, 1) := by decide +kernel
theorem dX7_enter_61 : decode cX7_enter 61 = .ok (.goto 14, 3) := by decide +kernel
theorem dX7_enter_64 : decode cX7_enter 64 = .ok (.iload 5, 2) := by decide +kernel
theorem dX7_enter_66 : decode cX7_enter 66 = .ok (.iconst 1, 1) := by decide +kernel
theorem dX7_enter_67 : decode cX7_enter 67 = .ok (.if_icmp .ne 7, 3) := by decide +kernel
theorem dX7_enter_70 : decode cX7_enter 70 = .ok (.iload_n 3, 1) := by decide +kernel
theorem dX7_enter_71 : decode cX7_enter 71 = .ok (.goto 4, 3) := by decide +kernel
theorem dX7_enter_74 : decode cX7_enter 74 = .ok (.iconst 0, 1) := by decide +kernel
theorem dX7_enter_75 : decode cX7_enter 75 = .ok (.iastore, 1) := by decide +kernel
theorem dX7_enter_76 : decode cX7_enter 76 = .ok (.iinc 5 1, 3) := by decide +kernel
theorem dX7_enter_79 : decode cX7_enter 79 = .ok (.goto (-45), 3) := by decide +kernel
theorem dX7_enter_82 : decode cX7_enter 82 = .ok (.aload_n 0, 1) := by decide +kernel
theorem dX7_enter_83 : decode cX7_enter 83 = .ok (.dup, 1) := by decide +kernel
theorem dX7_enter_84 : decode cX7_enter 84 = .ok (.getfield 129, 3) := by decide +kernel
theorem dX7_enter_87 : decode cX7_enter 87 = .ok (.iconst 1, 1) := by decide +kernel
theorem dX7_enter_88 : decode cX7_enter 88 = .ok (.iadd, 1) := by decide +kernel
theorem dX7_enter_89 : decode cX7_enter 89 = .ok (.putfield 129, 3) := by decide +kernel
theorem dX7_enter_92 : decode cX7_enter 92 = .ok (.aload_n 0, 1) := by decide +kernel
theorem dX7_enter_93 : decode cX7_enter 93 = .ok (.getfield 64, 3) := by decide +kernel
theorem dX7_enter_96 : decode cX7_enter 96 = .ok (.aload_n 0, 1) := by decide +kernel
theorem dX7_enter_97 : decode cX7_enter 97 = .ok (.getfield 132, 3) := by decide +kernel
theorem dX7_enter_100 : decode cX7_enter 100 = .ok (.aload_n 0, 1) := by decide +kernel
theorem dX7_enter_101 : decode cX7_enter 101 = .ok (.getfield 129, 3) := by decide +kernel
theorem dX7_enter_104 : decode cX7_enter 104 = .ok (.aload_n 0, 1) := by decide +kernel
theorem dX7_enter_105 : decode cX7_enter 105 = .ok (.getfield 64, 3) := by decide +kernel
theorem dX7_enter_108 : decode cX7_enter 108 = .ok (.aload_n 0, 1) := by decide +kernel
theorem dX7_enter_109 : decode cX7_enter 109 = .ok (.getfield 132, 3) := by decide +kernel
theorem dX7_enter_112 : decode cX7_enter 112 = .ok (.iaload, 1) := by decide +kernel
theorem dX7_enter_113 : decode cX7_enter 113 = .ok (.if_icmp .le 10, 3) := by decide +kernel
theorem dX7_enter_116 : decode cX7_enter 116 = .ok (.aload_n 0, 1) := by decide +kernel
theorem dX7_enter_117 : decode cX7_enter 117 = .ok (.getfield 129, 3) := by decide +kernel
theorem dX7_enter_120 : decode cX7_enter 120 = .ok (.goto 12, 3) := by decide +kernel
theorem dX7_enter_123 : decode cX7_enter 123 = .ok (.aload_n 0, 1) := by decide +kernel
theorem dX7_enter_124 : decode cX7_enter 124 = .ok (.getfield 64, 3) := by decide +kernel
theorem dX7_enter_127 : decode cX7_enter 127 = .ok (.aload_n 0, 1) := by decide +kernel
theorem dX7_enter_128 : decode cX7_enter 128 = .ok (.getfield 132, 3) := by decide +kernel
theorem dX7_enter_131 : decode cX7_enter 131 = .ok (.iaload, 1) := by decide +kernel
theorem dX7_enter_132 : decode cX7_enter 132 = .ok (.iastore, 1) := by decide +kernel
theorem dX7_enter_133 : decode cX7_enter 133 = .ok (.return_, 1) := by decide +kernel
theorem dX7_returns_0 : decode cX7_returns 0 = .ok (.aload_n 0, 1) := by decide +kernel
theorem dX7_returns_1 : decode cX7_returns 1 = .ok (.dup, 1) := by decide +kernel
theorem dX7_returns_2 : decode cX7_returns 2 = .ok (.getfield 129, 3) := by decide +kernel
theorem dX7_returns_5 : decode cX7_returns 5 = .ok (.iconst 1, 1) := by decide +kernel
theorem dX7_returns_6 : decode cX7_returns 6 = .ok (.isub, 1) := by decide +kernel
theorem dX7_returns_7 : decode cX7_returns 7 = .ok (.putfield 129, 3) := by decide +kernel
theorem dX7_returns_10 : decode cX7_returns 10 = .ok (.aload_n 0, 1) := by decide +kernel
theorem dX7_returns_11 : decode cX7_returns 11 = .ok (.getfield 129, 3) := by decide +kernel
theorem dX7_returns_14 : decode cX7_returns 14 = .ok (.ifCond .ne 26, 3) := by decide +kernel
theorem dX7_returns_17 : decode cX7_returns 17 = .ok (.aload_n 0, 1) := by decide +kernel
theorem dX7_returns_18 : decode cX7_returns 18 = .ok (.getfield 52, 3) := by decide +kernel
theorem dX7_returns_21 : decode cX7_returns 21 = .ok (.aload_n 0, 1) := by decide +kernel
theorem dX7_returns_22 : decode cX7_returns 22 = .ok (.getfield 132, 3) := by decide +kernel
theorem dX7_returns_25 : decode cX7_returns 25 = .ok (.iconst 0, 1) := by decide +kernel
theorem dX7_returns_26 : decode cX7_returns 26 = .ok (.iastore, 1) := by decide +kernel
theorem dX7_returns_27 : decode cX7_returns 27 = .ok (.aload_n 0, 1) := by decide +kernel
theorem dX7_returns_28 : decode cX7_returns 28 = .ok (.getfield 58, 3) := by decide +kernel
theorem dX7_returns_31 : decode cX7_returns 31 = .ok (.aload_n 0, 1) := by decide +kernel
theorem dX7_returns_32 : decode cX7_returns 32 = .ok (.getfield 132, 3) := by decide +kernel
theorem dX7_returns_35 : decode cX7_returns 35 = .ok (.iload_n 1, 1) := by decide +kernel
theorem dX7_returns_36 : decode cX7_returns 36 = .ok (.iastore, 1) := by decide +kernel
theorem dX7_returns_37 : decode cX7_returns 37 = .ok (.goto 28, 3) := by decide +kernel
theorem dX7_returns_40 : decode cX7_returns 40 = .ok (.aload_n 0, 1) := by decide +kernel
theorem dX7_returns_41 : decode cX7_returns 41 = .ok (.getfield 49, 3) := by decide +kernel
theorem dX7_returns_44 : decode cX7_returns 44 = .ok (.bipush 6, 2) := by decide +kernel
theorem dX7_returns_46 : decode cX7_returns 46 = .ok (.aload_n 0, 1) := by decide +kernel
theorem dX7_returns_47 : decode cX7_returns 47 = .ok (.getfield 129, 3) := by decide +kernel
theorem dX7_returns_50 : decode cX7_returns 50 = .ok (.iconst 1, 1) := by decide +kernel
theorem dX7_returns_51 : decode cX7_returns 51 = .ok (.isub, 1) := by decide +kernel
theorem dX7_returns_52 : decode cX7_returns 52 = .ok (.imul, 1) := by decide +kernel
theorem dX7_returns_53 : decode cX7_returns 53 = .ok (.aload_n 0, 1) := by decide +kernel
theorem dX7_returns_54 : decode cX7_returns 54 = .ok (.getfield 46, 3) := by decide +kernel
theorem dX7_returns_57 : decode cX7_returns 57 = .ok (.aload_n 0, 1) := by decide +kernel
theorem dX7_returns_58 : decode cX7_returns 58 = .ok (.getfield 129, 3) := by decide +kernel
theorem dX7_returns_61 : decode cX7_returns 61 = .ok (.iaload, 1) := by decide +kernel
theorem dX7_returns_62 : decode cX7_returns 62 = .ok (.iadd, 1) := by decide +kernel
theorem dX7_returns_63 : decode cX7_returns 63 = .ok (.iload_n 1, 1) := by decide +kernel
theorem dX7_returns_64 : decode cX7_returns 64 = .ok (.iastore, 1) := by decide +kernel
theorem dX7_returns_65 : decode cX7_returns 65 = .ok (.return_, 1) := by decide +kernel
theorem dX7_throwsOut_0 : decode cX7_throwsOut 0 = .ok (.aload_n 0, 1) := by decide +kernel
theorem dX7_throwsOut_1 : decode cX7_throwsOut 1 = .ok (.getfield 52, 3) := by decide +kernel
theorem dX7_throwsOut_4 : decode cX7_throwsOut 4 = .ok (.aload_n 0, 1) := by decide +kernel
theorem dX7_throwsOut_5 : decode cX7_throwsOut 5 = .ok (.getfield 132, 3) := by decide +kernel
theorem dX7_throwsOut_8 : decode cX7_throwsOut 8 = .ok (.iconst 1, 1) := by decide +kernel
theorem dX7_throwsOut_9 : decode cX7_throwsOut 9 = .ok (.iastore, 1) := by decide +kernel
theorem dX7_throwsOut_10 : decode cX7_throwsOut 10 = .ok (.aload_n 0, 1) := by decide +kernel
theorem dX7_throwsOut_11 : decode cX7_throwsOut 11 = .ok (.getfield 55, 3) := by decide +kernel
theorem dX7_throwsOut_14 : decode cX7_throwsOut 14 = .ok (.aload_n 0, 1) := by decide +kernel
theorem dX7_throwsOut_15 : decode cX7_throwsOut 15 = .ok (.getfield 132, 3) := by decide +kernel
theorem dX7_throwsOut_18 : decode cX7_throwsOut 18 = .ok (.iload_n 1, 1) := by decide +kernel
theorem dX7_throwsOut_19 : decode cX7_throwsOut 19 = .ok (.iastore, 1) := by decide +kernel
theorem dX7_throwsOut_20 : decode cX7_throwsOut 20 = .ok (.aload_n 0, 1) := by decide +kernel
theorem dX7_throwsOut_21 : decode cX7_throwsOut 21 = .ok (.getfield 58, 3) := by decide +kernel
theorem dX7_throwsOut_24 : decode cX7_throwsOut 24 = .ok (.aload_n 0, 1) := by decide +kernel
theorem dX7_throwsOut_25 : decode cX7_throwsOut 25 = .ok (.getfield 132, 3) := by decide +kernel
theorem dX7_throwsOut_28 : decode cX7_throwsOut 28 = .ok (.iload_n 2, 1) := by decide +kernel
theorem dX7_throwsOut_29 : decode cX7_throwsOut 29 = .ok (.iastore, 1) := by decide +kernel
theorem dX7_throwsOut_30 : decode cX7_throwsOut 30 = .ok (.return_, 1) := by decide +kernel
theorem dX7_reckoned_0 : decode cX7_reckoned 0 = .ok (.iload_n 0, 1) := by decide +kernel
theorem dX7_reckoned_1 : decode cX7_reckoned 1 = .ok (.tableswitch 71 2 8 #[43, 47, 51, 55, 59, 63, 67], 43) := by decide +kernel
theorem dX7_reckoned_44 : decode cX7_reckoned 44 = .ok (.iload_n 1, 1) := by decide +kernel
theorem dX7_reckoned_45 : decode cX7_reckoned 45 = .ok (.iload_n 2, 1) := by decide +kernel
theorem dX7_reckoned_46 : decode cX7_reckoned 46 = .ok (.iadd, 1) := by decide +kernel
theorem dX7_reckoned_47 : decode cX7_reckoned 47 = .ok (.ireturn, 1) := by decide +kernel
theorem dX7_reckoned_48 : decode cX7_reckoned 48 = .ok (.iload_n 1, 1) := by decide +kernel
theorem dX7_reckoned_49 : decode cX7_reckoned 49 = .ok (.iload_n 2, 1) := by decide +kernel
theorem dX7_reckoned_50 : decode cX7_reckoned 50 = .ok (.isub, 1) := by decide +kernel
theorem dX7_reckoned_51 : decode cX7_reckoned 51 = .ok (.ireturn, 1) := by decide +kernel
theorem dX7_reckoned_52 : decode cX7_reckoned 52 = .ok (.iload_n 1, 1) := by decide +kernel
theorem dX7_reckoned_53 : decode cX7_reckoned 53 = .ok (.iload_n 2, 1) := by decide +kernel
theorem dX7_reckoned_54 : decode cX7_reckoned 54 = .ok (.imul, 1) := by decide +kernel
theorem dX7_reckoned_55 : decode cX7_reckoned 55 = .ok (.ireturn, 1) := by decide +kernel
theorem dX7_reckoned_56 : decode cX7_reckoned 56 = .ok (.iload_n 1, 1) := by decide +kernel
theorem dX7_reckoned_57 : decode cX7_reckoned 57 = .ok (.iload_n 2, 1) := by decide +kernel
theorem dX7_reckoned_58 : decode cX7_reckoned 58 = .ok (.idiv, 1) := by decide +kernel
theorem dX7_reckoned_59 : decode cX7_reckoned 59 = .ok (.ireturn, 1) := by decide +kernel
theorem dX7_reckoned_60 : decode cX7_reckoned 60 = .ok (.iload_n 1, 1) := by decide +kernel
theorem dX7_reckoned_61 : decode cX7_reckoned 61 = .ok (.iload_n 2, 1) := by decide +kernel
theorem dX7_reckoned_62 : decode cX7_reckoned 62 = .ok (.irem, 1) := by decide +kernel
theorem dX7_reckoned_63 : decode cX7_reckoned 63 = .ok (.ireturn, 1) := by decide +kernel
theorem dX7_reckoned_64 : decode cX7_reckoned 64 = .ok (.iload_n 1, 1) := by decide +kernel
theorem dX7_reckoned_65 : decode cX7_reckoned 65 = .ok (.iload_n 2, 1) := by decide +kernel
theorem dX7_reckoned_66 : decode cX7_reckoned 66 = .ok (.iand, 1) := by decide +kernel
theorem dX7_reckoned_67 : decode cX7_reckoned 67 = .ok (.ireturn, 1) := by decide +kernel
theorem dX7_reckoned_68 : decode cX7_reckoned 68 = .ok (.iload_n 1, 1) := by decide +kernel
theorem dX7_reckoned_69 : decode cX7_reckoned 69 = .ok (.iload_n 2, 1) := by decide +kernel
theorem dX7_reckoned_70 : decode cX7_reckoned 70 = .ok (.ixor, 1) := by decide +kernel
theorem dX7_reckoned_71 : decode cX7_reckoned 71 = .ok (.ireturn, 1) := by decide +kernel
theorem dX7_reckoned_72 : decode cX7_reckoned 72 = .ok (.iload_n 1, 1) := by decide +kernel
theorem dX7_reckoned_73 : decode cX7_reckoned 73 = .ok (.iload_n 2, 1) := by decide +kernel
theorem dX7_reckoned_74 : decode cX7_reckoned 74 = .ok (.if_icmp .ge 7, 3) := by decide +kernel
theorem dX7_reckoned_77 : decode cX7_reckoned 77 = .ok (.iconst 1, 1) := by decide +kernel
theorem dX7_reckoned_78 : decode cX7_reckoned 78 = .ok (.goto 4, 3) := by decide +kernel
theorem dX7_reckoned_81 : decode cX7_reckoned 81 = .ok (.iconst 0, 1) := by decide +kernel
theorem dX7_reckoned_82 : decode cX7_reckoned 82 = .ok (.ireturn, 1) := by decide +kernel
set_option maxRecDepth 20000 in
theorem ggX7_calls_X7_throwsOut : GoodIn wsX7_calls wsX7_throwsOut := goodIn_r _ [21, 7, 8, 22, 23, 32, 33, 34, 35, 36, 37, 38, 39, 40, 41, 42, 43, 44, 45, 46, 47, 48, 49, 50, 51, 52, 53, 54, 55, 56, 57, 58, 59, 60, 61, 62, 63, 64, 65, 66, 67, 68, 69, 70, 71, 72, 73] (by decide +kernel) (by decide +kernel)
set_option maxRecDepth 20000 in
theorem gX7_calls_X7_throwsOut : GoodIn wsX7_calls (wsV RX7 135 RX7 yX7_throwsOut wsX7_throwsOut) := goodIn_app (goodIn_of _ (by decide +kernel)) ggX7_calls_X7_throwsOut
set_option maxRecDepth 20000 in
theorem ggX7_calls_X7_enter : GoodIn wsX7_calls wsX7_enter := goodIn_r _ [27, 28, 6, 29, 30, 2, 31, 8, 32, 33, 34, 35, 36, 37, 38, 39, 40, 41, 42, 43, 44, 45, 46, 47, 48, 49, 50, 51, 52, 53, 54, 55, 56, 57, 58, 59, 60, 61, 62, 63, 64, 65, 66, 67, 68, 69, 70, 71, 72, 73] (by decide +kernel) (by decide +kernel)
set_option maxRecDepth 20000 in
theorem gX7_calls_X7_enter : GoodIn wsX7_calls (wsV RX7 143 RX7 yX7_enter wsX7_enter) := goodIn_app (goodIn_of _ (by decide +kernel)) ggX7_calls_X7_enter
theorem dX7_calls_0 : decode cX7_calls 0 = .ok (.aload_n 0, 1) := by decide +kernel
theorem dX7_calls_1 : decode cX7_calls 1 = .ok (.getfield 22, 3) := by decide +kernel
theorem dX7_calls_4 : decode cX7_calls 4 = .ok (.iload_n 1, 1) := by decide +kernel
theorem dX7_calls_5 : decode cX7_calls 5 = .ok (.iaload, 1) := by decide +kernel
theorem dX7_calls_6 : decode cX7_calls 6 = .ok (.istore 4, 2) := by decide +kernel
theorem dX7_calls_8 : decode cX7_calls 8 = .ok (.aload_n 0, 1) := by decide +kernel
theorem dX7_calls_9 : decode cX7_calls 9 = .ok (.getfield 49, 3) := by decide +kernel
theorem dX7_calls_12 : decode cX7_calls 12 = .ok (.iload_n 2, 1) := by decide +kernel
theorem dX7_calls_13 : decode cX7_calls 13 = .ok (.aload_n 0, 1) := by decide +kernel
theorem dX7_calls_14 : decode cX7_calls 14 = .ok (.getfield 25, 3) := by decide +kernel
theorem dX7_calls_17 : decode cX7_calls 17 = .ok (.iload_n 1, 1) := by decide +kernel
theorem dX7_calls_18 : decode cX7_calls 18 = .ok (.iaload, 1) := by decide +kernel
theorem dX7_calls_19 : decode cX7_calls 19 = .ok (.iadd, 1) := by decide +kernel
theorem dX7_calls_20 : decode cX7_calls 20 = .ok (.iaload, 1) := by decide +kernel
theorem dX7_calls_21 : decode cX7_calls 21 = .ok (.istore 5, 2) := by decide +kernel
theorem dX7_calls_23 : decode cX7_calls 23 = .ok (.aload_n 0, 1) := by decide +kernel
theorem dX7_calls_24 : decode cX7_calls 24 = .ok (.getfield 49, 3) := by decide +kernel
theorem dX7_calls_27 : decode cX7_calls 27 = .ok (.iload_n 2, 1) := by decide +kernel
theorem dX7_calls_28 : decode cX7_calls 28 = .ok (.aload_n 0, 1) := by decide +kernel
theorem dX7_calls_29 : decode cX7_calls 29 = .ok (.getfield 25, 3) := by decide +kernel
theorem dX7_calls_32 : decode cX7_calls 32 = .ok (.iload_n 1, 1) := by decide +kernel
theorem dX7_calls_33 : decode cX7_calls 33 = .ok (.iaload, 1) := by decide +kernel
theorem dX7_calls_34 : decode cX7_calls 34 = .ok (.iconst 1, 1) := by decide +kernel
theorem dX7_calls_35 : decode cX7_calls 35 = .ok (.iadd, 1) := by decide +kernel
theorem dX7_calls_36 : decode cX7_calls 36 = .ok (.bipush 6, 2) := by decide +kernel
theorem dX7_calls_38 : decode cX7_calls 38 = .ok (.irem, 1) := by decide +kernel
theorem dX7_calls_39 : decode cX7_calls 39 = .ok (.iadd, 1) := by decide +kernel
theorem dX7_calls_40 : decode cX7_calls 40 = .ok (.iaload, 1) := by decide +kernel
theorem dX7_calls_41 : decode cX7_calls 41 = .ok (.istore 6, 2) := by decide +kernel
theorem dX7_calls_43 : decode cX7_calls 43 = .ok (.iload 4, 2) := by decide +kernel
theorem dX7_calls_45 : decode cX7_calls 45 = .ok (.aload_n 0, 1) := by decide +kernel
theorem dX7_calls_46 : decode cX7_calls 46 = .ok (.getfield 7, 3) := by decide +kernel
theorem dX7_calls_49 : decode cX7_calls 49 = .ok (.iload_n 3, 1) := by decide +kernel
theorem dX7_calls_50 : decode cX7_calls 50 = .ok (.iaload, 1) := by decide +kernel
theorem dX7_calls_51 : decode cX7_calls 51 = .ok (.if_icmp .lt 14, 3) := by decide +kernel
theorem dX7_calls_54 : decode cX7_calls 54 = .ok (.aload_n 0, 1) := by decide +kernel
theorem dX7_calls_55 : decode cX7_calls 55 = .ok (.bipush 8, 2) := by decide +kernel
theorem dX7_calls_57 : decode cX7_calls 57 = .ok (.iload 4, 2) := by decide +kernel
theorem dX7_calls_59 : decode cX7_calls 59 = .ok (.invokevirtual 135, 3) := by decide +kernel
theorem dX7_calls_62 : decode cX7_calls 62 = .ok (.goto 201, 3) := by decide +kernel
theorem dX7_calls_65 : decode cX7_calls 65 = .ok (.aload_n 0, 1) := by decide +kernel
theorem dX7_calls_66 : decode cX7_calls 66 = .ok (.getfield 139, 3) := by decide +kernel
theorem dX7_calls_69 : decode cX7_calls 69 = .ok (.ifCond .ne 44, 3) := by decide +kernel
theorem dX7_calls_72 : decode cX7_calls 72 = .ok (.aload_n 0, 1) := by decide +kernel
theorem dX7_calls_73 : decode cX7_calls 73 = .ok (.getfield 129, 3) := by decide +kernel
theorem dX7_calls_76 : decode cX7_calls 76 = .ok (.bipush 8, 2) := by decide +kernel
theorem dX7_calls_78 : decode cX7_calls 78 = .ok (.if_icmp .ne 16, 3) := by decide +kernel
theorem dX7_calls_81 : decode cX7_calls 81 = .ok (.aload_n 0, 1) := by decide +kernel
theorem dX7_calls_82 : decode cX7_calls 82 = .ok (.getfield 52, 3) := by decide +kernel
theorem dX7_calls_85 : decode cX7_calls 85 = .ok (.aload_n 0, 1) := by decide +kernel
theorem dX7_calls_86 : decode cX7_calls 86 = .ok (.getfield 132, 3) := by decide +kernel
theorem dX7_calls_89 : decode cX7_calls 89 = .ok (.iconst 2, 1) := by decide +kernel
theorem dX7_calls_90 : decode cX7_calls 90 = .ok (.iastore, 1) := by decide +kernel
theorem dX7_calls_91 : decode cX7_calls 91 = .ok (.goto 172, 3) := by decide +kernel
theorem dX7_calls_94 : decode cX7_calls 94 = .ok (.aload_n 0, 1) := by decide +kernel
theorem dX7_calls_95 : decode cX7_calls 95 = .ok (.iload 4, 2) := by decide +kernel
theorem dX7_calls_97 : decode cX7_calls 97 = .ok (.iload 5, 2) := by decide +kernel
theorem dX7_calls_99 : decode cX7_calls 99 = .ok (.iload 6, 2) := by decide +kernel
theorem dX7_calls_101 : decode cX7_calls 101 = .ok (.aload_n 0, 1) := by decide +kernel
theorem dX7_calls_102 : decode cX7_calls 102 = .ok (.getfield 19, 3) := by decide +kernel
theorem dX7_calls_105 : decode cX7_calls 105 = .ok (.iload_n 1, 1) := by decide +kernel
theorem dX7_calls_106 : decode cX7_calls 106 = .ok (.iaload, 1) := by decide +kernel
theorem dX7_calls_107 : decode cX7_calls 107 = .ok (.invokevirtual 143, 3) := by decide +kernel
theorem dX7_calls_110 : decode cX7_calls 110 = .ok (.goto 153, 3) := by decide +kernel
theorem dX7_calls_113 : decode cX7_calls 113 = .ok (.aload_n 0, 1) := by decide +kernel
theorem dX7_calls_114 : decode cX7_calls 114 = .ok (.getfield 79, 3) := by decide +kernel
theorem dX7_calls_117 : decode cX7_calls 117 = .ok (.aload_n 0, 1) := by decide +kernel
theorem dX7_calls_118 : decode cX7_calls 118 = .ok (.getfield 132, 3) := by decide +kernel
theorem dX7_calls_121 : decode cX7_calls 121 = .ok (.iaload, 1) := by decide +kernel
theorem dX7_calls_122 : decode cX7_calls 122 = .ok (.iconst 2, 1) := by decide +kernel
theorem dX7_calls_123 : decode cX7_calls 123 = .ok (.if_icmp .ne 16, 3) := by decide +kernel
theorem dX7_calls_126 : decode cX7_calls 126 = .ok (.aload_n 0, 1) := by decide +kernel
theorem dX7_calls_127 : decode cX7_calls 127 = .ok (.getfield 52, 3) := by decide +kernel
theorem dX7_calls_130 : decode cX7_calls 130 = .ok (.aload_n 0, 1) := by decide +kernel
theorem dX7_calls_131 : decode cX7_calls 131 = .ok (.getfield 132, 3) := by decide +kernel
theorem dX7_calls_134 : decode cX7_calls 134 = .ok (.iconst 2, 1) := by decide +kernel
theorem dX7_calls_135 : decode cX7_calls 135 = .ok (.iastore, 1) := by decide +kernel
theorem dX7_calls_136 : decode cX7_calls 136 = .ok (.goto 127, 3) := by decide +kernel
theorem dX7_calls_139 : decode cX7_calls 139 = .ok (.aload_n 0, 1) := by decide +kernel
theorem dX7_calls_140 : decode cX7_calls 140 = .ok (.getfield 79, 3) := by decide +kernel
theorem dX7_calls_143 : decode cX7_calls 143 = .ok (.aload_n 0, 1) := by decide +kernel
theorem dX7_calls_144 : decode cX7_calls 144 = .ok (.getfield 132, 3) := by decide +kernel
theorem dX7_calls_147 : decode cX7_calls 147 = .ok (.iaload, 1) := by decide +kernel
theorem dX7_calls_148 : decode cX7_calls 148 = .ok (.istore 7, 2) := by decide +kernel
theorem dX7_calls_150 : decode cX7_calls 150 = .ok (.aload_n 0, 1) := by decide +kernel
theorem dX7_calls_151 : decode cX7_calls 151 = .ok (.getfield 82, 3) := by decide +kernel
theorem dX7_calls_154 : decode cX7_calls 154 = .ok (.iconst 2, 1) := by decide +kernel
theorem dX7_calls_155 : decode cX7_calls 155 = .ok (.aload_n 0, 1) := by decide +kernel
theorem dX7_calls_156 : decode cX7_calls 156 = .ok (.getfield 132, 3) := by decide +kernel
theorem dX7_calls_159 : decode cX7_calls 159 = .ok (.imul, 1) := by decide +kernel
theorem dX7_calls_160 : decode cX7_calls 160 = .ok (.iload 7, 2) := by decide +kernel
theorem dX7_calls_162 : decode cX7_calls 162 = .ok (.iadd, 1) := by decide +kernel
theorem dX7_calls_163 : decode cX7_calls 163 = .ok (.iload 4, 2) := by decide +kernel
theorem dX7_calls_165 : decode cX7_calls 165 = .ok (.iastore, 1) := by decide +kernel
theorem dX7_calls_166 : decode cX7_calls 166 = .ok (.aload_n 0, 1) := by decide +kernel
theorem dX7_calls_167 : decode cX7_calls 167 = .ok (.getfield 85, 3) := by decide +kernel
theorem dX7_calls_170 : decode cX7_calls 170 = .ok (.iconst 2, 1) := by decide +kernel
theorem dX7_calls_171 : decode cX7_calls 171 = .ok (.aload_n 0, 1) := by decide +kernel
theorem dX7_calls_172 : decode cX7_calls 172 = .ok (.getfield 132, 3) := by decide +kernel
theorem dX7_calls_175 : decode cX7_calls 175 = .ok (.imul, 1) := by decide +kernel
theorem dX7_calls_176 : decode cX7_calls 176 = .ok (.iload 7, 2) := by decide +kernel
theorem dX7_calls_178 : decode cX7_calls 178 = .ok (.iadd, 1) := by decide +kernel
theorem dX7_calls_179 : decode cX7_calls 179 = .ok (.iload 5, 2) := by decide +kernel
theorem dX7_calls_181 : decode cX7_calls 181 = .ok (.iastore, 1) := by decide +kernel
theorem dX7_calls_182 : decode cX7_calls 182 = .ok (.aload_n 0, 1) := by decide +kernel
theorem dX7_calls_183 : decode cX7_calls 183 = .ok (.getfield 88, 3) := by decide +kernel
theorem dX7_calls_186 : decode cX7_calls 186 = .ok (.iconst 2, 1) := by decide +kernel
theorem dX7_calls_187 : decode cX7_calls 187 = .ok (.aload_n 0, 1) := by decide +kernel
theorem dX7_calls_188 : decode cX7_calls 188 = .ok (.getfield 132, 3) := by decide +kernel
theorem dX7_calls_191 : decode cX7_calls 191 = .ok (.imul, 1) := by decide +kernel
theorem dX7_calls_192 : decode cX7_calls 192 = .ok (.iload 7, 2) := by decide +kernel
theorem dX7_calls_194 : decode cX7_calls 194 = .ok (.iadd, 1) := by decide +kernel
theorem dX7_calls_195 : decode cX7_calls 195 = .ok (.iload 6, 2) := by decide +kernel
theorem dX7_calls_197 : decode cX7_calls 197 = .ok (.iastore, 1) := by decide +kernel
theorem dX7_calls_198 : decode cX7_calls 198 = .ok (.aload_n 0, 1) := by decide +kernel
theorem dX7_calls_199 : decode cX7_calls 199 = .ok (.getfield 79, 3) := by decide +kernel
theorem dX7_calls_202 : decode cX7_calls 202 = .ok (.aload_n 0, 1) := by decide +kernel
theorem dX7_calls_203 : decode cX7_calls 203 = .ok (.getfield 132, 3) := by decide +kernel
theorem dX7_calls_206 : decode cX7_calls 206 = .ok (.dup2, 1) := by decide +kernel
theorem dX7_calls_207 : decode cX7_calls 207 = .ok (.iaload, 1) := by decide +kernel
theorem dX7_calls_208 : decode cX7_calls 208 = .ok (.iconst 1, 1) := by decide +kernel
theorem dX7_calls_209 : decode cX7_calls 209 = .ok (.iadd, 1) := by decide +kernel
theorem dX7_calls_210 : decode cX7_calls 210 = .ok (.iastore, 1) := by decide +kernel
theorem dX7_calls_211 : decode cX7_calls 211 = .ok (.iload 7, 2) := by decide +kernel
theorem dX7_calls_213 : decode cX7_calls 213 = .ok (.ifCond .ne 10, 3) := by decide +kernel
theorem dX7_calls_216 : decode cX7_calls 216 = .ok (.aload_n 0, 1) := by decide +kernel
theorem dX7_calls_217 : decode cX7_calls 217 = .ok (.getfield 147, 3) := by decide +kernel
theorem dX7_calls_220 : decode cX7_calls 220 = .ok (.goto 7, 3) := by decide +kernel
theorem dX7_calls_223 : decode cX7_calls 223 = .ok (.aload_n 0, 1) := by decide +kernel
theorem dX7_calls_224 : decode cX7_calls 224 = .ok (.getfield 150, 3) := by decide +kernel
theorem dX7_calls_227 : decode cX7_calls 227 = .ok (.istore 8, 2) := by decide +kernel
theorem dX7_calls_229 : decode cX7_calls 229 = .ok (.iload 8, 2) := by decide +kernel
theorem dX7_calls_231 : decode cX7_calls 231 = .ok (.aload_n 0, 1) := by decide +kernel
theorem dX7_calls_232 : decode cX7_calls 232 = .ok (.getfield 107, 3) := by decide +kernel
theorem dX7_calls_235 : decode cX7_calls 235 = .ok (.if_icmp .le 13, 3) := by decide +kernel
theorem dX7_calls_238 : decode cX7_calls 238 = .ok (.aload_n 0, 1) := by decide +kernel
theorem dX7_calls_239 : decode cX7_calls 239 = .ok (.bipush 9, 2) := by decide +kernel
theorem dX7_calls_241 : decode cX7_calls 241 = .ok (.iconst 0, 1) := by decide +kernel
theorem dX7_calls_242 : decode cX7_calls 242 = .ok (.invokevirtual 135, 3) := by decide +kernel
theorem dX7_calls_245 : decode cX7_calls 245 = .ok (.goto 18, 3) := by decide +kernel
theorem dX7_calls_248 : decode cX7_calls 248 = .ok (.aload_n 0, 1) := by decide +kernel
theorem dX7_calls_249 : decode cX7_calls 249 = .ok (.getfield 49, 3) := by decide +kernel
theorem dX7_calls_252 : decode cX7_calls 252 = .ok (.iload_n 2, 1) := by decide +kernel
theorem dX7_calls_253 : decode cX7_calls 253 = .ok (.aload_n 0, 1) := by decide +kernel
theorem dX7_calls_254 : decode cX7_calls 254 = .ok (.getfield 19, 3) := by decide +kernel
theorem dX7_calls_257 : decode cX7_calls 257 = .ok (.iload_n 1, 1) := by decide +kernel
theorem dX7_calls_258 : decode cX7_calls 258 = .ok (.iaload, 1) := by decide +kernel
theorem dX7_calls_259 : decode cX7_calls 259 = .ok (.iadd, 1) := by decide +kernel
theorem dX7_calls_260 : decode cX7_calls 260 = .ok (.iload 8, 2) := by decide +kernel
theorem dX7_calls_262 : decode cX7_calls 262 = .ok (.iastore, 1) := by decide +kernel
theorem dX7_calls_263 : decode cX7_calls 263 = .ok (.return_, 1) := by decide +kernel
theorem dX7_tell_0 : decode cX7_tell 0 = .ok (.aload_n 0, 1) := by decide +kernel
theorem dX7_tell_1 : decode cX7_tell 1 = .ok (.getfield 67, 3) := by decide +kernel
theorem dX7_tell_4 : decode cX7_tell 4 = .ok (.aload_n 0, 1) := by decide +kernel
theorem dX7_tell_5 : decode cX7_tell 5 = .ok (.getfield 132, 3) := by decide +kernel
theorem dX7_tell_8 : decode cX7_tell 8 = .ok (.iaload, 1) := by decide +kernel
theorem dX7_tell_9 : decode cX7_tell 9 = .ok (.bipush 40, 2) := by decide +kernel
theorem dX7_tell_11 : decode cX7_tell 11 = .ok (.if_icmp .ne 14, 3) := by decide +kernel
theorem dX7_tell_14 : decode cX7_tell 14 = .ok (.aload_n 0, 1) := by decide +kernel
theorem dX7_tell_15 : decode cX7_tell 15 = .ok (.getfield 52, 3) := by decide +kernel
theorem dX7_tell_18 : decode cX7_tell 18 = .ok (.aload_n 0, 1) := by decide +kernel
theorem dX7_tell_19 : decode cX7_tell 19 = .ok (.getfield 132, 3) := by decide +kernel
theorem dX7_tell_22 : decode cX7_tell 22 = .ok (.iconst 2, 1) := by decide +kernel
theorem dX7_tell_23 : decode cX7_tell 23 = .ok (.iastore, 1) := by decide +kernel
theorem dX7_tell_24 : decode cX7_tell 24 = .ok (.return_, 1) := by decide +kernel
theorem dX7_tell_25 : decode cX7_tell 25 = .ok (.bipush 40, 2) := by decide +kernel
theorem dX7_tell_27 : decode cX7_tell 27 = .ok (.aload_n 0, 1) := by decide +kernel
theorem dX7_tell_28 : decode cX7_tell 28 = .ok (.getfield 132, 3) := by decide +kernel
theorem dX7_tell_31 : decode cX7_tell 31 = .ok (.imul, 1) := by decide +kernel
theorem dX7_tell_32 : decode cX7_tell 32 = .ok (.aload_n 0, 1) := by decide +kernel
theorem dX7_tell_33 : decode cX7_tell 33 = .ok (.getfield 67, 3) := by decide +kernel
theorem dX7_tell_36 : decode cX7_tell 36 = .ok (.aload_n 0, 1) := by decide +kernel
theorem dX7_tell_37 : decode cX7_tell 37 = .ok (.getfield 132, 3) := by decide +kernel
theorem dX7_tell_40 : decode cX7_tell 40 = .ok (.iaload, 1) := by decide +kernel
theorem dX7_tell_41 : decode cX7_tell 41 = .ok (.iadd, 1) := by decide +kernel
theorem dX7_tell_42 : decode cX7_tell 42 = .ok (.istore_n 3, 1) := by decide +kernel
theorem dX7_tell_43 : decode cX7_tell 43 = .ok (.aload_n 0, 1) := by decide +kernel
theorem dX7_tell_44 : decode cX7_tell 44 = .ok (.getfield 70, 3) := by decide +kernel
theorem dX7_tell_47 : decode cX7_tell 47 = .ok (.iload_n 3, 1) := by decide +kernel
theorem dX7_tell_48 : decode cX7_tell 48 = .ok (.iload_n 1, 1) := by decide +kernel
theorem dX7_tell_49 : decode cX7_tell 49 = .ok (.iastore, 1) := by decide +kernel
theorem dX7_tell_50 : decode cX7_tell 50 = .ok (.aload_n 0, 1) := by decide +kernel
theorem dX7_tell_51 : decode cX7_tell 51 = .ok (.getfield 73, 3) := by decide +kernel
theorem dX7_tell_54 : decode cX7_tell 54 = .ok (.iload_n 3, 1) := by decide +kernel
theorem dX7_tell_55 : decode cX7_tell 55 = .ok (.iload_n 2, 1) := by decide +kernel
theorem dX7_tell_56 : decode cX7_tell 56 = .ok (.iastore, 1) := by decide +kernel
theorem dX7_tell_57 : decode cX7_tell 57 = .ok (.aload_n 0, 1) := by decide +kernel
theorem dX7_tell_58 : decode cX7_tell 58 = .ok (.getfield 76, 3) := by decide +kernel
theorem dX7_tell_61 : decode cX7_tell 61 = .ok (.iload_n 3, 1) := by decide +kernel
theorem dX7_tell_62 : decode cX7_tell 62 = .ok (.aload_n 0, 1) := by decide +kernel
theorem dX7_tell_63 : decode cX7_tell 63 = .ok (.getfield 79, 3) := by decide +kernel
theorem dX7_tell_66 : decode cX7_tell 66 = .ok (.aload_n 0, 1) := by decide +kernel
theorem dX7_tell_67 : decode cX7_tell 67 = .ok (.getfield 132, 3) := by decide +kernel
theorem dX7_tell_70 : decode cX7_tell 70 = .ok (.iaload, 1) := by decide +kernel
theorem dX7_tell_71 : decode cX7_tell 71 = .ok (.iastore, 1) := by decide +kernel
theorem dX7_tell_72 : decode cX7_tell 72 = .ok (.aload_n 0, 1) := by decide +kernel
theorem dX7_tell_73 : decode cX7_tell 73 = .ok (.getfield 67, 3) := by decide +kernel
theorem dX7_tell_76 : decode cX7_tell 76 = .ok (.aload_n 0, 1) := by decide +kernel
theorem dX7_tell_77 : decode cX7_tell 77 = .ok (.getfield 132, 3) := by decide +kernel
theorem dX7_tell_80 : decode cX7_tell 80 = .ok (.dup2, 1) := by decide +kernel
theorem dX7_tell_81 : decode cX7_tell 81 = .ok (.iaload, 1) := by decide +kernel
theorem dX7_tell_82 : decode cX7_tell 82 = .ok (.iconst 1, 1) := by decide +kernel
theorem dX7_tell_83 : decode cX7_tell 83 = .ok (.iadd, 1) := by decide +kernel
theorem dX7_tell_84 : decode cX7_tell 84 = .ok (.iastore, 1) := by decide +kernel
theorem dX7_tell_85 : decode cX7_tell 85 = .ok (.return_, 1) := by decide +kernel
set_option maxRecDepth 20000 in
theorem ggX7_act_X7_tell : GoodIn wsX7_act wsX7_tell := goodIn_r _ [12, 13, 14, 15, 16, 17, 18, 19, 52, 53, 54, 55, 56, 57, 58, 59, 60, 61, 62, 63, 64, 65, 66, 67, 68, 69, 70, 71, 72, 73, 74, 75, 76, 77, 78, 79, 80, 81, 82, 83, 84, 85, 86, 87, 88, 89, 90, 91, 92, 93] (by decide +kernel) (by decide +kernel)
set_option maxRecDepth 20000 in
theorem gX7_act_X7_tell : GoodIn wsX7_act (wsV RX7 153 RX7 yX7_tell wsX7_tell) := goodIn_app (goodIn_of _ (by decide +kernel)) ggX7_act_X7_tell
set_option maxRecDepth 20000 in
theorem ggX7_act_X7_calls : GoodIn wsX7_act wsX7_calls := goodIn_r _ [23, 3, 4, 6, 24, 25, 26, 15, 14, 2, 19, 27, 28, 29, 30, 31, 7, 32, 33, 34, 11, 35, 36, 37, 38, 39, 40, 41, 42, 5, 43, 44, 52, 53, 54, 55, 56, 57, 58, 59, 60, 61, 62, 63, 64, 65, 66, 67, 68, 69, 70, 71, 72, 73, 74, 75, 76, 77, 78, 79, 80, 81, 82, 83, 84, 85, 86, 87, 88, 89, 90, 91, 92, 93] (by decide +kernel) (by decide +kernel)
set_option maxRecDepth 20000 in
theorem gX7_act_X7_calls : GoodIn wsX7_act (wsV RX7 156 RX7 yX7_calls wsX7_calls) := goodIn_app (goodIn_of _ (by decide +kernel)) ggX7_act_X7_calls
set_option maxRecDepth 20000 in
theorem ggX7_act_X7_returns : GoodIn wsX7_act wsX7_returns := goodIn_r _ [48, 26, 15, 14, 37, 4, 43, 52, 53, 54, 55, 56, 57, 58, 59, 60, 61, 62, 63, 64, 65, 66, 67, 68, 69, 70, 71, 72, 73, 74, 75, 76, 77, 78, 79, 80, 81, 82, 83, 84, 85, 86, 87, 88, 89, 90, 91, 92, 93] (by decide +kernel) (by decide +kernel)
set_option maxRecDepth 20000 in
theorem gX7_act_X7_returns : GoodIn wsX7_act (wsV RX7 160 RX7 yX7_returns wsX7_returns) := goodIn_app (goodIn_of _ (by decide +kernel)) ggX7_act_X7_returns
set_option maxRecDepth 20000 in
theorem ggX7_act_X7_throwsOut : GoodIn wsX7_act wsX7_throwsOut := goodIn_r _ [35, 15, 14, 36, 37, 52, 53, 54, 55, 56, 57, 58, 59, 60, 61, 62, 63, 64, 65, 66, 67, 68, 69, 70, 71, 72, 73, 74, 75, 76, 77, 78, 79, 80, 81, 82, 83, 84, 85, 86, 87, 88, 89, 90, 91, 92, 93] (by decide +kernel) (by decide +kernel)
set_option maxRecDepth 20000 in
theorem gX7_act_X7_throwsOut : GoodIn wsX7_act (wsV RX7 135 RX7 yX7_throwsOut wsX7_throwsOut) := goodIn_app (goodIn_of _ (by decide +kernel)) ggX7_act_X7_throwsOut
set_option maxRecDepth 20000 in
theorem ggX7_act_X7_reckoned : GoodIn wsX7_act wsX7_reckoned := goodIn_r _ [51] (by decide +kernel) (by decide +kernel)
set_option maxRecDepth 20000 in
theorem gX7_act_X7_reckoned : GoodIn wsX7_act (va_wsS RX7 164 yX7_reckoned wsX7_reckoned) := goodIn_app (goodIn_of _ (by decide +kernel)) ggX7_act_X7_reckoned
theorem dX7_act_0 : decode cX7_act 0 = .ok (.bipush 6, 2) := by decide +kernel
theorem dX7_act_2 : decode cX7_act 2 = .ok (.iload_n 2, 1) := by decide +kernel
theorem dX7_act_3 : decode cX7_act 3 = .ok (.imul, 1) := by decide +kernel
theorem dX7_act_4 : decode cX7_act 4 = .ok (.istore 4, 2) := by decide +kernel
theorem dX7_act_6 : decode cX7_act 6 = .ok (.aload_n 0, 1) := by decide +kernel
theorem dX7_act_7 : decode cX7_act 7 = .ok (.getfield 16, 3) := by decide +kernel
theorem dX7_act_10 : decode cX7_act 10 = .ok (.iload_n 1, 1) := by decide +kernel
theorem dX7_act_11 : decode cX7_act 11 = .ok (.iaload, 1) := by decide +kernel
theorem dX7_act_12 : decode cX7_act 12 = .ok (.istore 5, 2) := by decide +kernel
theorem dX7_act_14 : decode cX7_act 14 = .ok (.aload_n 0, 1) := by decide +kernel
theorem dX7_act_15 : decode cX7_act 15 = .ok (.getfield 19, 3) := by decide +kernel
theorem dX7_act_18 : decode cX7_act 18 = .ok (.iload_n 1, 1) := by decide +kernel
theorem dX7_act_19 : decode cX7_act 19 = .ok (.iaload, 1) := by decide +kernel
theorem dX7_act_20 : decode cX7_act 20 = .ok (.istore 6, 2) := by decide +kernel
theorem dX7_act_22 : decode cX7_act 22 = .ok (.aload_n 0, 1) := by decide +kernel
theorem dX7_act_23 : decode cX7_act 23 = .ok (.getfield 22, 3) := by decide +kernel
theorem dX7_act_26 : decode cX7_act 26 = .ok (.iload_n 1, 1) := by decide +kernel
theorem dX7_act_27 : decode cX7_act 27 = .ok (.iaload, 1) := by decide +kernel
theorem dX7_act_28 : decode cX7_act 28 = .ok (.istore 7, 2) := by decide +kernel
theorem dX7_act_30 : decode cX7_act 30 = .ok (.iload 5, 2) := by decide +kernel
theorem dX7_act_32 : decode cX7_act 32 = .ok (.tableswitch 228 0 15 #[80, 95, 228, 228, 228, 228, 228, 228, 228, 228, 118, 151, 162, 181, 192, 209], 80) := by decide +kernel
theorem dX7_act_112 : decode cX7_act 112 = .ok (.aload_n 0, 1) := by decide +kernel
theorem dX7_act_113 : decode cX7_act 113 = .ok (.getfield 49, 3) := by decide +kernel
theorem dX7_act_116 : decode cX7_act 116 = .ok (.iload 4, 2) := by decide +kernel
theorem dX7_act_118 : decode cX7_act 118 = .ok (.iload 6, 2) := by decide +kernel
theorem dX7_act_120 : decode cX7_act 120 = .ok (.iadd, 1) := by decide +kernel
theorem dX7_act_121 : decode cX7_act 121 = .ok (.iload 7, 2) := by decide +kernel
theorem dX7_act_123 : decode cX7_act 123 = .ok (.iastore, 1) := by decide +kernel
theorem dX7_act_124 : decode cX7_act 124 = .ok (.goto 215, 3) := by decide +kernel
theorem dX7_act_127 : decode cX7_act 127 = .ok (.aload_n 0, 1) := by decide +kernel
theorem dX7_act_128 : decode cX7_act 128 = .ok (.getfield 49, 3) := by decide +kernel
theorem dX7_act_131 : decode cX7_act 131 = .ok (.iload 4, 2) := by decide +kernel
theorem dX7_act_133 : decode cX7_act 133 = .ok (.iload 6, 2) := by decide +kernel
theorem dX7_act_135 : decode cX7_act 135 = .ok (.iadd, 1) := by decide +kernel
theorem dX7_act_136 : decode cX7_act 136 = .ok (.aload_n 0, 1) := by decide +kernel
theorem dX7_act_137 : decode cX7_act 137 = .ok (.getfield 49, 3) := by decide +kernel
theorem dX7_act_140 : decode cX7_act 140 = .ok (.iload 4, 2) := by decide +kernel
theorem dX7_act_142 : decode cX7_act 142 = .ok (.iload 7, 2) := by decide +kernel
theorem dX7_act_144 : decode cX7_act 144 = .ok (.iadd, 1) := by decide +kernel
theorem dX7_act_145 : decode cX7_act 145 = .ok (.iaload, 1) := by decide +kernel
theorem dX7_act_146 : decode cX7_act 146 = .ok (.iastore, 1) := by decide +kernel
theorem dX7_act_147 : decode cX7_act 147 = .ok (.goto 192, 3) := by decide +kernel
theorem dX7_act_150 : decode cX7_act 150 = .ok (.aload_n 0, 1) := by decide +kernel
theorem dX7_act_151 : decode cX7_act 151 = .ok (.getfield 43, 3) := by decide +kernel
theorem dX7_act_154 : decode cX7_act 154 = .ok (.iload_n 2, 1) := by decide +kernel
theorem dX7_act_155 : decode cX7_act 155 = .ok (.aload_n 0, 1) := by decide +kernel
theorem dX7_act_156 : decode cX7_act 156 = .ok (.getfield 49, 3) := by decide +kernel
theorem dX7_act_159 : decode cX7_act 159 = .ok (.iload 4, 2) := by decide +kernel
theorem dX7_act_161 : decode cX7_act 161 = .ok (.iload 6, 2) := by decide +kernel
theorem dX7_act_163 : decode cX7_act 163 = .ok (.iadd, 1) := by decide +kernel
theorem dX7_act_164 : decode cX7_act 164 = .ok (.iaload, 1) := by decide +kernel
theorem dX7_act_165 : decode cX7_act 165 = .ok (.ifCond .ne 8, 3) := by decide +kernel
theorem dX7_act_168 : decode cX7_act 168 = .ok (.iload 7, 2) := by decide +kernel
theorem dX7_act_170 : decode cX7_act 170 = .ok (.goto 9, 3) := by decide +kernel
theorem dX7_act_173 : decode cX7_act 173 = .ok (.aload_n 0, 1) := by decide +kernel
theorem dX7_act_174 : decode cX7_act 174 = .ok (.getfield 43, 3) := by decide +kernel
theorem dX7_act_177 : decode cX7_act 177 = .ok (.iload_n 2, 1) := by decide +kernel
theorem dX7_act_178 : decode cX7_act 178 = .ok (.iaload, 1) := by decide +kernel
theorem dX7_act_179 : decode cX7_act 179 = .ok (.iastore, 1) := by decide +kernel
theorem dX7_act_180 : decode cX7_act 180 = .ok (.goto 159, 3) := by decide +kernel
theorem dX7_act_183 : decode cX7_act 183 = .ok (.aload_n 0, 1) := by decide +kernel
theorem dX7_act_184 : decode cX7_act 184 = .ok (.getfield 43, 3) := by decide +kernel
theorem dX7_act_187 : decode cX7_act 187 = .ok (.iload_n 2, 1) := by decide +kernel
theorem dX7_act_188 : decode cX7_act 188 = .ok (.iload 6, 2) := by decide +kernel
theorem dX7_act_190 : decode cX7_act 190 = .ok (.iastore, 1) := by decide +kernel
theorem dX7_act_191 : decode cX7_act 191 = .ok (.goto 148, 3) := by decide +kernel
theorem dX7_act_194 : decode cX7_act 194 = .ok (.aload_n 0, 1) := by decide +kernel
theorem dX7_act_195 : decode cX7_act 195 = .ok (.iload 6, 2) := by decide +kernel
theorem dX7_act_197 : decode cX7_act 197 = .ok (.aload_n 0, 1) := by decide +kernel
theorem dX7_act_198 : decode cX7_act 198 = .ok (.getfield 49, 3) := by decide +kernel
theorem dX7_act_201 : decode cX7_act 201 = .ok (.iload 4, 2) := by decide +kernel
theorem dX7_act_203 : decode cX7_act 203 = .ok (.iload 7, 2) := by decide +kernel
theorem dX7_act_205 : decode cX7_act 205 = .ok (.iadd, 1) := by decide +kernel
theorem dX7_act_206 : decode cX7_act 206 = .ok (.iaload, 1) := by decide +kernel
theorem dX7_act_207 : decode cX7_act 207 = .ok (.invokevirtual 153, 3) := by decide +kernel
theorem dX7_act_210 : decode cX7_act 210 = .ok (.goto 129, 3) := by decide +kernel
theorem dX7_act_213 : decode cX7_act 213 = .ok (.aload_n 0, 1) := by decide +kernel
theorem dX7_act_214 : decode cX7_act 214 = .ok (.iload_n 1, 1) := by decide +kernel
theorem dX7_act_215 : decode cX7_act 215 = .ok (.iload 4, 2) := by decide +kernel
theorem dX7_act_217 : decode cX7_act 217 = .ok (.iload_n 3, 1) := by decide +kernel
theorem dX7_act_218 : decode cX7_act 218 = .ok (.invokevirtual 156, 3) := by decide +kernel
theorem dX7_act_221 : decode cX7_act 221 = .ok (.goto 118, 3) := by decide +kernel
theorem dX7_act_224 : decode cX7_act 224 = .ok (.aload_n 0, 1) := by decide +kernel
theorem dX7_act_225 : decode cX7_act 225 = .ok (.aload_n 0, 1) := by decide +kernel
theorem dX7_act_226 : decode cX7_act 226 = .ok (.getfield 49, 3) := by decide +kernel
theorem dX7_act_229 : decode cX7_act 229 = .ok (.iload 4, 2) := by decide +kernel
theorem dX7_act_231 : decode cX7_act 231 = .ok (.iload 6, 2) := by decide +kernel
theorem dX7_act_233 : decode cX7_act 233 = .ok (.iadd, 1) := by decide +kernel
theorem dX7_act_234 : decode cX7_act 234 = .ok (.iaload, 1) := by decide +kernel
theorem dX7_act_235 : decode cX7_act 235 = .ok (.invokevirtual 160, 3) := by decide +kernel
theorem dX7_act_238 : decode cX7_act 238 = .ok (.goto 101, 3) := by decide +kernel
theorem dX7_act_241 : decode cX7_act 241 = .ok (.aload_n 0, 1) := by decide +kernel
theorem dX7_act_242 : decode cX7_act 242 = .ok (.iload 6, 2) := by decide +kernel
theorem dX7_act_244 : decode cX7_act 244 = .ok (.aload_n 0, 1) := by decide +kernel
theorem dX7_act_245 : decode cX7_act 245 = .ok (.getfield 49, 3) := by decide +kernel
theorem dX7_act_248 : decode cX7_act 248 = .ok (.iload 4, 2) := by decide +kernel
theorem dX7_act_250 : decode cX7_act 250 = .ok (.iload 7, 2) := by decide +kernel
theorem dX7_act_252 : decode cX7_act 252 = .ok (.iadd, 1) := by decide +kernel
theorem dX7_act_253 : decode cX7_act 253 = .ok (.iaload, 1) := by decide +kernel
theorem dX7_act_254 : decode cX7_act 254 = .ok (.invokevirtual 135, 3) := by decide +kernel
theorem dX7_act_257 : decode cX7_act 257 = .ok (.goto 82, 3) := by decide +kernel
theorem dX7_act_260 : decode cX7_act 260 = .ok (.aload_n 0, 1) := by decide +kernel
theorem dX7_act_261 : decode cX7_act 261 = .ok (.getfield 49, 3) := by decide +kernel
theorem dX7_act_264 : decode cX7_act 264 = .ok (.iload 4, 2) := by decide +kernel
theorem dX7_act_266 : decode cX7_act 266 = .ok (.iload 7, 2) := by decide +kernel
theorem dX7_act_268 : decode cX7_act 268 = .ok (.iadd, 1) := by decide +kernel
theorem dX7_act_269 : decode cX7_act 269 = .ok (.iaload, 1) := by decide +kernel
theorem dX7_act_270 : decode cX7_act 270 = .ok (.istore 8, 2) := by decide +kernel
theorem dX7_act_272 : decode cX7_act 272 = .ok (.aload_n 0, 1) := by decide +kernel
theorem dX7_act_273 : decode cX7_act 273 = .ok (.getfield 49, 3) := by decide +kernel
theorem dX7_act_276 : decode cX7_act 276 = .ok (.iload 4, 2) := by decide +kernel
theorem dX7_act_278 : decode cX7_act 278 = .ok (.aload_n 0, 1) := by decide +kernel
theorem dX7_act_279 : decode cX7_act 279 = .ok (.getfield 25, 3) := by decide +kernel
theorem dX7_act_282 : decode cX7_act 282 = .ok (.iload_n 1, 1) := by decide +kernel
theorem dX7_act_283 : decode cX7_act 283 = .ok (.iaload, 1) := by decide +kernel
theorem dX7_act_284 : decode cX7_act 284 = .ok (.iadd, 1) := by decide +kernel
theorem dX7_act_285 : decode cX7_act 285 = .ok (.iaload, 1) := by decide +kernel
theorem dX7_act_286 : decode cX7_act 286 = .ok (.istore 9, 2) := by decide +kernel
theorem dX7_act_288 : decode cX7_act 288 = .ok (.iload 5, 2) := by decide +kernel
theorem dX7_act_290 : decode cX7_act 290 = .ok (.iconst 5, 1) := by decide +kernel
theorem dX7_act_291 : decode cX7_act 291 = .ok (.if_icmp .eq 10, 3) := by decide +kernel
theorem dX7_act_294 : decode cX7_act 294 = .ok (.iload 5, 2) := by decide +kernel
theorem dX7_act_296 : decode cX7_act 296 = .ok (.bipush 6, 2) := by decide +kernel
theorem dX7_act_298 : decode cX7_act 298 = .ok (.if_icmp .ne 17, 3) := by decide +kernel
theorem dX7_act_301 : decode cX7_act 301 = .ok (.iload 9, 2) := by decide +kernel
theorem dX7_act_303 : decode cX7_act 303 = .ok (.ifCond .ne 12, 3) := by decide +kernel
theorem dX7_act_306 : decode cX7_act 306 = .ok (.aload_n 0, 1) := by decide +kernel
theorem dX7_act_307 : decode cX7_act 307 = .ok (.iconst 1, 1) := by decide +kernel
theorem dX7_act_308 : decode cX7_act 308 = .ok (.iconst 0, 1) := by decide +kernel
theorem dX7_act_309 : decode cX7_act 309 = .ok (.invokevirtual 135, 3) := by decide +kernel
theorem dX7_act_312 : decode cX7_act 312 = .ok (.goto 27, 3) := by decide +kernel
theorem dX7_act_315 : decode cX7_act 315 = .ok (.aload_n 0, 1) := by decide +kernel
theorem dX7_act_316 : decode cX7_act 316 = .ok (.getfield 49, 3) := by decide +kernel
theorem dX7_act_319 : decode cX7_act 319 = .ok (.iload 4, 2) := by decide +kernel
theorem dX7_act_321 : decode cX7_act 321 = .ok (.iload 6, 2) := by decide +kernel
theorem dX7_act_323 : decode cX7_act 323 = .ok (.iadd, 1) := by decide +kernel
theorem dX7_act_324 : decode cX7_act 324 = .ok (.iload 5, 2) := by decide +kernel
theorem dX7_act_326 : decode cX7_act 326 = .ok (.iload 8, 2) := by decide +kernel
theorem dX7_act_328 : decode cX7_act 328 = .ok (.iload 9, 2) := by decide +kernel
theorem dX7_act_330 : decode cX7_act 330 = .ok (.invokestatic 164, 3) := by decide +kernel
theorem dX7_act_333 : decode cX7_act 333 = .ok (.aload_n 0, 1) := by decide +kernel
theorem dX7_act_334 : decode cX7_act 334 = .ok (.getfield 107, 3) := by decide +kernel
theorem dX7_act_337 : decode cX7_act 337 = .ok (.iand, 1) := by decide +kernel
theorem dX7_act_338 : decode cX7_act 338 = .ok (.iastore, 1) := by decide +kernel
theorem dX7_act_339 : decode cX7_act 339 = .ok (.return_, 1) := by decide +kernel
set_option maxRecDepth 20000 in
theorem ggX7_play_X7_enter : GoodIn wsX7_play wsX7_enter := goodIn_r _ [17, 10, 2, 11, 18, 19, 7, 1, 58, 59, 60, 61, 62, 63, 64, 65, 66, 67, 68, 69, 70, 71, 72, 73, 74, 75, 76, 77, 78, 79, 80, 81, 82, 83, 84, 85, 86, 87, 88, 89, 90, 91, 92, 93, 94, 95, 96, 97, 98, 99] (by decide +kernel) (by decide +kernel)
set_option maxRecDepth 20000 in
theorem gX7_play_X7_enter : GoodIn wsX7_play (wsV RX7 143 RX7 yX7_enter wsX7_enter) := goodIn_app (goodIn_of _ (by decide +kernel)) ggX7_play_X7_enter
set_option maxRecDepth 20000 in
theorem ggX7_play_X7_returns : GoodIn wsX7_play wsX7_returns := goodIn_r _ [23, 2, 3, 1, 5, 19, 18, 58, 59, 60, 61, 62, 63, 64, 65, 66, 67, 68, 69, 70, 71, 72, 73, 74, 75, 76, 77, 78, 79, 80, 81, 82, 83, 84, 85, 86, 87, 88, 89, 90, 91, 92, 93, 94, 95, 96, 97, 98, 99] (by decide +kernel) (by decide +kernel)
set_option maxRecDepth 20000 in
theorem gX7_play_X7_returns : GoodIn wsX7_play (wsV RX7 160 RX7 yX7_returns wsX7_returns) := goodIn_app (goodIn_of _ (by decide +kernel)) ggX7_play_X7_returns
set_option maxRecDepth 20000 in
theorem ggX7_play_X7_act : GoodIn wsX7_play wsX7_act := goodIn_r _ [27, 28, 29, 30, 19, 11, 31, 32, 33, 34, 35, 16, 36, 8, 1, 3, 37, 38, 39, 9, 40, 41, 42, 43, 44, 45, 2, 46, 47, 48, 49, 50, 51, 52, 53, 54, 4, 5, 13, 14, 15, 17, 10, 18, 7, 20, 21, 22, 23, 55, 56, 57, 58, 59, 60, 61, 62, 63, 64, 65, 66, 67, 68, 69, 70, 71, 72, 73, 74, 75, 76, 77, 78, 79, 80, 81, 82, 83, 84, 85, 86, 87, 88, 89, 90, 91, 92, 93, 94, 95, 96, 97, 98, 99] (by decide +kernel) (by decide +kernel)
set_option maxRecDepth 20000 in
theorem gX7_play_X7_act : GoodIn wsX7_play (wsV RX7 168 RX7 yX7_act wsX7_act) := goodIn_app (goodIn_of _ (by decide +kernel)) ggX7_play_X7_act
theorem dX7_play_0 : decode cX7_play 0 = .ok (.aload_n 0, 1) := by decide +kernel
theorem dX7_play_1 : decode cX7_play 1 = .ok (.iload_n 1, 1) := by decide +kernel
theorem dX7_play_2 : decode cX7_play 2 = .ok (.putfield 132, 3) := by decide +kernel
theorem dX7_play_5 : decode cX7_play 5 = .ok (.aload_n 0, 1) := by decide +kernel
theorem dX7_play_6 : decode cX7_play 6 = .ok (.iconst 0, 1) := by decide +kernel
theorem dX7_play_7 : decode cX7_play 7 = .ok (.putfield 129, 3) := by decide +kernel
theorem dX7_play_10 : decode cX7_play 10 = .ok (.aload_n 0, 1) := by decide +kernel
theorem dX7_play_11 : decode cX7_play 11 = .ok (.getfield 52, 3) := by decide +kernel
theorem dX7_play_14 : decode cX7_play 14 = .ok (.iload_n 1, 1) := by decide +kernel
theorem dX7_play_15 : decode cX7_play 15 = .ok (.iconst (-1), 1) := by decide +kernel
theorem dX7_play_16 : decode cX7_play 16 = .ok (.iastore, 1) := by decide +kernel
theorem dX7_play_17 : decode cX7_play 17 = .ok (.aload_n 0, 1) := by decide +kernel
theorem dX7_play_18 : decode cX7_play 18 = .ok (.getfield 55, 3) := by decide +kernel
theorem dX7_play_21 : decode cX7_play 21 = .ok (.iload_n 1, 1) := by decide +kernel
theorem dX7_play_22 : decode cX7_play 22 = .ok (.iconst 0, 1) := by decide +kernel
theorem dX7_play_23 : decode cX7_play 23 = .ok (.iastore, 1) := by decide +kernel
theorem dX7_play_24 : decode cX7_play 24 = .ok (.aload_n 0, 1) := by decide +kernel
theorem dX7_play_25 : decode cX7_play 25 = .ok (.getfield 58, 3) := by decide +kernel
theorem dX7_play_28 : decode cX7_play 28 = .ok (.iload_n 1, 1) := by decide +kernel
theorem dX7_play_29 : decode cX7_play 29 = .ok (.iconst 0, 1) := by decide +kernel
theorem dX7_play_30 : decode cX7_play 30 = .ok (.iastore, 1) := by decide +kernel
theorem dX7_play_31 : decode cX7_play 31 = .ok (.aload_n 0, 1) := by decide +kernel
theorem dX7_play_32 : decode cX7_play 32 = .ok (.getfield 61, 3) := by decide +kernel
theorem dX7_play_35 : decode cX7_play 35 = .ok (.iload_n 1, 1) := by decide +kernel
theorem dX7_play_36 : decode cX7_play 36 = .ok (.iconst 0, 1) := by decide +kernel
theorem dX7_play_37 : decode cX7_play 37 = .ok (.iastore, 1) := by decide +kernel
theorem dX7_play_38 : decode cX7_play 38 = .ok (.aload_n 0, 1) := by decide +kernel
theorem dX7_play_39 : decode cX7_play 39 = .ok (.getfield 64, 3) := by decide +kernel
theorem dX7_play_42 : decode cX7_play 42 = .ok (.iload_n 1, 1) := by decide +kernel
theorem dX7_play_43 : decode cX7_play 43 = .ok (.iconst 0, 1) := by decide +kernel
theorem dX7_play_44 : decode cX7_play 44 = .ok (.iastore, 1) := by decide +kernel
theorem dX7_play_45 : decode cX7_play 45 = .ok (.aload_n 0, 1) := by decide +kernel
theorem dX7_play_46 : decode cX7_play 46 = .ok (.getfield 67, 3) := by decide +kernel
theorem dX7_play_49 : decode cX7_play 49 = .ok (.iload_n 1, 1) := by decide +kernel
theorem dX7_play_50 : decode cX7_play 50 = .ok (.iconst 0, 1) := by decide +kernel
theorem dX7_play_51 : decode cX7_play 51 = .ok (.iastore, 1) := by decide +kernel
theorem dX7_play_52 : decode cX7_play 52 = .ok (.aload_n 0, 1) := by decide +kernel
theorem dX7_play_53 : decode cX7_play 53 = .ok (.getfield 79, 3) := by decide +kernel
theorem dX7_play_56 : decode cX7_play 56 = .ok (.iload_n 1, 1) := by decide +kernel
theorem dX7_play_57 : decode cX7_play 57 = .ok (.iconst 0, 1) := by decide +kernel
theorem dX7_play_58 : decode cX7_play 58 = .ok (.iastore, 1) := by decide +kernel
theorem dX7_play_59 : decode cX7_play 59 = .ok (.aload_n 0, 1) := by decide +kernel
theorem dX7_play_60 : decode cX7_play 60 = .ok (.iload_n 3, 1) := by decide +kernel
theorem dX7_play_61 : decode cX7_play 61 = .ok (.iload 4, 2) := by decide +kernel
theorem dX7_play_63 : decode cX7_play 63 = .ok (.iload 5, 2) := by decide +kernel
theorem dX7_play_65 : decode cX7_play 65 = .ok (.iconst 0, 1) := by decide +kernel
theorem dX7_play_66 : decode cX7_play 66 = .ok (.invokevirtual 143, 3) := by decide +kernel
theorem dX7_play_69 : decode cX7_play 69 = .ok (.aload_n 0, 1) := by decide +kernel
theorem dX7_play_70 : decode cX7_play 70 = .ok (.getfield 52, 3) := by decide +kernel
theorem dX7_play_73 : decode cX7_play 73 = .ok (.iload_n 1, 1) := by decide +kernel
theorem dX7_play_74 : decode cX7_play 74 = .ok (.iaload, 1) := by decide +kernel
theorem dX7_play_75 : decode cX7_play 75 = .ok (.ifCond .ge 114, 3) := by decide +kernel
theorem dX7_play_78 : decode cX7_play 78 = .ok (.aload_n 0, 1) := by decide +kernel
theorem dX7_play_79 : decode cX7_play 79 = .ok (.getfield 129, 3) := by decide +kernel
theorem dX7_play_82 : decode cX7_play 82 = .ok (.iconst 1, 1) := by decide +kernel
theorem dX7_play_83 : decode cX7_play 83 = .ok (.isub, 1) := by decide +kernel
theorem dX7_play_84 : decode cX7_play 84 = .ok (.istore 6, 2) := by decide +kernel
theorem dX7_play_86 : decode cX7_play 86 = .ok (.bipush 6, 2) := by decide +kernel
theorem dX7_play_88 : decode cX7_play 88 = .ok (.iload_n 2, 1) := by decide +kernel
theorem dX7_play_89 : decode cX7_play 89 = .ok (.imul, 1) := by decide +kernel
theorem dX7_play_90 : decode cX7_play 90 = .ok (.aload_n 0, 1) := by decide +kernel
theorem dX7_play_91 : decode cX7_play 91 = .ok (.getfield 40, 3) := by decide +kernel
theorem dX7_play_94 : decode cX7_play 94 = .ok (.iload 6, 2) := by decide +kernel
theorem dX7_play_96 : decode cX7_play 96 = .ok (.iaload, 1) := by decide +kernel
theorem dX7_play_97 : decode cX7_play 97 = .ok (.iadd, 1) := by decide +kernel
theorem dX7_play_98 : decode cX7_play 98 = .ok (.istore 7, 2) := by decide +kernel
theorem dX7_play_100 : decode cX7_play 100 = .ok (.aload_n 0, 1) := by decide +kernel
theorem dX7_play_101 : decode cX7_play 101 = .ok (.getfield 43, 3) := by decide +kernel
theorem dX7_play_104 : decode cX7_play 104 = .ok (.iload 6, 2) := by decide +kernel
theorem dX7_play_106 : decode cX7_play 106 = .ok (.iaload, 1) := by decide +kernel
theorem dX7_play_107 : decode cX7_play 107 = .ok (.istore 8, 2) := by decide +kernel
theorem dX7_play_109 : decode cX7_play 109 = .ok (.iload 8, 2) := by decide +kernel
theorem dX7_play_111 : decode cX7_play 111 = .ok (.aload_n 0, 1) := by decide +kernel
theorem dX7_play_112 : decode cX7_play 112 = .ok (.getfield 13, 3) := by decide +kernel
theorem dX7_play_115 : decode cX7_play 115 = .ok (.iload 7, 2) := by decide +kernel
theorem dX7_play_117 : decode cX7_play 117 = .ok (.iaload, 1) := by decide +kernel
theorem dX7_play_118 : decode cX7_play 118 = .ok (.if_icmp .lt 11, 3) := by decide +kernel
theorem dX7_play_121 : decode cX7_play 121 = .ok (.aload_n 0, 1) := by decide +kernel
theorem dX7_play_122 : decode cX7_play 122 = .ok (.iconst 0, 1) := by decide +kernel
theorem dX7_play_123 : decode cX7_play 123 = .ok (.invokevirtual 160, 3) := by decide +kernel
theorem dX7_play_126 : decode cX7_play 126 = .ok (.goto 60, 3) := by decide +kernel
theorem dX7_play_129 : decode cX7_play 129 = .ok (.aload_n 0, 1) := by decide +kernel
theorem dX7_play_130 : decode cX7_play 130 = .ok (.getfield 61, 3) := by decide +kernel
theorem dX7_play_133 : decode cX7_play 133 = .ok (.iload_n 1, 1) := by decide +kernel
theorem dX7_play_134 : decode cX7_play 134 = .ok (.iaload, 1) := by decide +kernel
theorem dX7_play_135 : decode cX7_play 135 = .ok (.bipush 100, 2) := by decide +kernel
theorem dX7_play_137 : decode cX7_play 137 = .ok (.if_icmp .ne 13, 3) := by decide +kernel
theorem dX7_play_140 : decode cX7_play 140 = .ok (.aload_n 0, 1) := by decide +kernel
theorem dX7_play_141 : decode cX7_play 141 = .ok (.getfield 52, 3) := by decide +kernel
theorem dX7_play_144 : decode cX7_play 144 = .ok (.iload_n 1, 1) := by decide +kernel
theorem dX7_play_145 : decode cX7_play 145 = .ok (.iconst 2, 1) := by decide +kernel
theorem dX7_play_146 : decode cX7_play 146 = .ok (.iastore, 1) := by decide +kernel
theorem dX7_play_147 : decode cX7_play 147 = .ok (.goto 39, 3) := by decide +kernel
theorem dX7_play_150 : decode cX7_play 150 = .ok (.aload_n 0, 1) := by decide +kernel
theorem dX7_play_151 : decode cX7_play 151 = .ok (.getfield 61, 3) := by decide +kernel
theorem dX7_play_154 : decode cX7_play 154 = .ok (.iload_n 1, 1) := by decide +kernel
theorem dX7_play_155 : decode cX7_play 155 = .ok (.dup2, 1) := by decide +kernel
theorem dX7_play_156 : decode cX7_play 156 = .ok (.iaload, 1) := by decide +kernel
theorem dX7_play_157 : decode cX7_play 157 = .ok (.iconst 1, 1) := by decide +kernel
theorem dX7_play_158 : decode cX7_play 158 = .ok (.iadd, 1) := by decide +kernel
theorem dX7_play_159 : decode cX7_play 159 = .ok (.iastore, 1) := by decide +kernel
theorem dX7_play_160 : decode cX7_play 160 = .ok (.aload_n 0, 1) := by decide +kernel
theorem dX7_play_161 : decode cX7_play 161 = .ok (.getfield 43, 3) := by decide +kernel
theorem dX7_play_164 : decode cX7_play 164 = .ok (.iload 6, 2) := by decide +kernel
theorem dX7_play_166 : decode cX7_play 166 = .ok (.iload 8, 2) := by decide +kernel
theorem dX7_play_168 : decode cX7_play 168 = .ok (.iconst 1, 1) := by decide +kernel
theorem dX7_play_169 : decode cX7_play 169 = .ok (.iadd, 1) := by decide +kernel
theorem dX7_play_170 : decode cX7_play 170 = .ok (.iastore, 1) := by decide +kernel
theorem dX7_play_171 : decode cX7_play 171 = .ok (.aload_n 0, 1) := by decide +kernel
theorem dX7_play_172 : decode cX7_play 172 = .ok (.bipush 24, 2) := by decide +kernel
theorem dX7_play_174 : decode cX7_play 174 = .ok (.iload 7, 2) := by decide +kernel
theorem dX7_play_176 : decode cX7_play 176 = .ok (.imul, 1) := by decide +kernel
theorem dX7_play_177 : decode cX7_play 177 = .ok (.iload 8, 2) := by decide +kernel
theorem dX7_play_179 : decode cX7_play 179 = .ok (.iadd, 1) := by decide +kernel
theorem dX7_play_180 : decode cX7_play 180 = .ok (.iload 6, 2) := by decide +kernel
theorem dX7_play_182 : decode cX7_play 182 = .ok (.iload_n 2, 1) := by decide +kernel
theorem dX7_play_183 : decode cX7_play 183 = .ok (.invokevirtual 168, 3) := by decide +kernel
theorem dX7_play_186 : decode cX7_play 186 = .ok (.goto (-117), 3) := by decide +kernel
theorem dX7_play_189 : decode cX7_play 189 = .ok (.return_, 1) := by decide +kernel
set_option maxRecDepth 20000 in
theorem ggX7_run_X7_isMethod : GoodIn wsX7_run wsX7_isMethod := goodIn_r _ [7, 8, 9, 10, 6, 11, 73, 74, 75, 76, 77, 78, 79, 80, 81, 82, 83, 84, 85, 86, 87, 88, 89, 90, 91, 92, 93, 94, 95, 96, 97, 98, 99, 100, 101, 102, 103, 104, 105, 106, 107, 108, 109, 110, 111, 112, 113, 114] (by decide +kernel) (by decide +kernel)
set_option maxRecDepth 20000 in
theorem gX7_run_X7_isMethod : GoodIn wsX7_run (wsV RX7 121 RX7 yX7_isMethod wsX7_isMethod) := goodIn_app (goodIn_of _ (by decide +kernel)) ggX7_run_X7_isMethod
set_option maxRecDepth 20000 in
theorem ggX7_run_X7_isNumber : GoodIn wsX7_run wsX7_isNumber := goodIn_r _ [15, 16, 9, 10, 6, 11, 73, 74, 75, 76, 77, 78, 79, 80, 81, 82, 83, 84, 85, 86, 87, 88, 89, 90, 91, 92, 93, 94, 95, 96, 97, 98, 99, 100, 101, 102, 103, 104, 105, 106, 107, 108, 109, 110, 111, 112, 113, 114] (by decide +kernel) (by decide +kernel)
set_option maxRecDepth 20000 in
theorem gX7_run_X7_isNumber : GoodIn wsX7_run (wsV RX7 118 RX7 yX7_isNumber wsX7_isNumber) := goodIn_app (goodIn_of _ (by decide +kernel)) ggX7_run_X7_isNumber
set_option maxRecDepth 20000 in
theorem ggX7_run_X7_play : GoodIn wsX7_run wsX7_play := goodIn_r _ [20, 21, 22, 2, 23, 24, 25, 26, 27, 28, 29, 30, 31, 32, 33, 34, 6, 35, 36, 37, 38, 39, 40, 41, 42, 43, 44, 45, 46, 47, 48, 49, 16, 50, 51, 52, 53, 54, 55, 56, 57, 58, 59, 60, 8, 1, 61, 62, 63, 64, 65, 66, 67, 68, 69, 70, 71, 72, 73, 74, 75, 76, 77, 78, 79, 80, 81, 82, 83, 84, 85, 86, 87, 88, 89, 90, 91, 92, 93, 94, 95, 96, 97, 98, 99, 100, 101, 102, 103, 104, 105, 106, 107, 108, 109, 110, 111, 112, 113, 114] (by decide +kernel) (by decide +kernel)
set_option maxRecDepth 20000 in
theorem gX7_run_X7_play : GoodIn wsX7_run (wsV RX7 171 RX7 yX7_play wsX7_play) := goodIn_app (goodIn_of _ (by decide +kernel)) ggX7_run_X7_play
theorem dX7_run_0 : decode cX7_run 0 = .ok (.aload_n 0, 1) := by decide +kernel
theorem dX7_run_1 : decode cX7_run 1 = .ok (.iload_n 1, 1) := by decide +kernel
theorem dX7_run_2 : decode cX7_run 2 = .ok (.iload_n 2, 1) := by decide +kernel
theorem dX7_run_3 : decode cX7_run 3 = .ok (.invokevirtual 121, 3) := by decide +kernel
theorem dX7_run_6 : decode cX7_run 6 = .ok (.ifCond .ne 6, 3) := by decide +kernel
theorem dX7_run_9 : decode cX7_run 9 = .ok (.bipush (-101), 2) := by decide +kernel
theorem dX7_run_11 : decode cX7_run 11 = .ok (.ireturn, 1) := by decide +kernel
theorem dX7_run_12 : decode cX7_run 12 = .ok (.aload_n 0, 1) := by decide +kernel
theorem dX7_run_13 : decode cX7_run 13 = .ok (.iload_n 3, 1) := by decide +kernel
theorem dX7_run_14 : decode cX7_run 14 = .ok (.invokevirtual 118, 3) := by decide +kernel
theorem dX7_run_17 : decode cX7_run 17 = .ok (.ifCond .eq 12, 3) := by decide +kernel
theorem dX7_run_20 : decode cX7_run 20 = .ok (.aload_n 0, 1) := by decide +kernel
theorem dX7_run_21 : decode cX7_run 21 = .ok (.iload 4, 2) := by decide +kernel
theorem dX7_run_23 : decode cX7_run 23 = .ok (.invokevirtual 118, 3) := by decide +kernel
theorem dX7_run_26 : decode cX7_run 26 = .ok (.ifCond .ne 6, 3) := by decide +kernel
theorem dX7_run_29 : decode cX7_run 29 = .ok (.bipush (-102), 2) := by decide +kernel
theorem dX7_run_31 : decode cX7_run 31 = .ok (.ireturn, 1) := by decide +kernel
theorem dX7_run_32 : decode cX7_run 32 = .ok (.aload_n 0, 1) := by decide +kernel
theorem dX7_run_33 : decode cX7_run 33 = .ok (.iconst 0, 1) := by decide +kernel
theorem dX7_run_34 : decode cX7_run 34 = .ok (.putfield 139, 3) := by decide +kernel
theorem dX7_run_37 : decode cX7_run 37 = .ok (.aload_n 0, 1) := by decide +kernel
theorem dX7_run_38 : decode cX7_run 38 = .ok (.iconst 0, 1) := by decide +kernel
theorem dX7_run_39 : decode cX7_run 39 = .ok (.iload_n 1, 1) := by decide +kernel
theorem dX7_run_40 : decode cX7_run 40 = .ok (.iload_n 2, 1) := by decide +kernel
theorem dX7_run_41 : decode cX7_run 41 = .ok (.iload_n 3, 1) := by decide +kernel
theorem dX7_run_42 : decode cX7_run 42 = .ok (.iload 4, 2) := by decide +kernel
theorem dX7_run_44 : decode cX7_run 44 = .ok (.invokevirtual 171, 3) := by decide +kernel
theorem dX7_run_47 : decode cX7_run 47 = .ok (.aload_n 0, 1) := by decide +kernel
theorem dX7_run_48 : decode cX7_run 48 = .ok (.getfield 52, 3) := by decide +kernel
theorem dX7_run_51 : decode cX7_run 51 = .ok (.iconst 0, 1) := by decide +kernel
theorem dX7_run_52 : decode cX7_run 52 = .ok (.iaload, 1) := by decide +kernel
theorem dX7_run_53 : decode cX7_run 53 = .ok (.ireturn, 1) := by decide +kernel
theorem dX7_ran_0 : decode cX7_ran 0 = .ok (.iload_n 1, 1) := by decide +kernel
theorem dX7_ran_1 : decode cX7_ran 1 = .ok (.tableswitch 70 0 4 #[35, 42, 49, 56, 63], 35) := by decide +kernel
theorem dX7_ran_36 : decode cX7_ran 36 = .ok (.aload_n 0, 1) := by decide +kernel
theorem dX7_ran_37 : decode cX7_ran 37 = .ok (.getfield 58, 3) := by decide +kernel
theorem dX7_ran_40 : decode cX7_ran 40 = .ok (.iconst 0, 1) := by decide +kernel
theorem dX7_ran_41 : decode cX7_ran 41 = .ok (.iaload, 1) := by decide +kernel
theorem dX7_ran_42 : decode cX7_ran 42 = .ok (.ireturn, 1) := by decide +kernel
theorem dX7_ran_43 : decode cX7_ran 43 = .ok (.aload_n 0, 1) := by decide +kernel
theorem dX7_ran_44 : decode cX7_ran 44 = .ok (.getfield 55, 3) := by decide +kernel
theorem dX7_ran_47 : decode cX7_ran 47 = .ok (.iconst 0, 1) := by decide +kernel
theorem dX7_ran_48 : decode cX7_ran 48 = .ok (.iaload, 1) := by decide +kernel
theorem dX7_ran_49 : decode cX7_ran 49 = .ok (.ireturn, 1) := by decide +kernel
theorem dX7_ran_50 : decode cX7_ran 50 = .ok (.aload_n 0, 1) := by decide +kernel
theorem dX7_ran_51 : decode cX7_ran 51 = .ok (.getfield 61, 3) := by decide +kernel
theorem dX7_ran_54 : decode cX7_ran 54 = .ok (.iconst 0, 1) := by decide +kernel
theorem dX7_ran_55 : decode cX7_ran 55 = .ok (.iaload, 1) := by decide +kernel
theorem dX7_ran_56 : decode cX7_ran 56 = .ok (.ireturn, 1) := by decide +kernel
theorem dX7_ran_57 : decode cX7_ran 57 = .ok (.aload_n 0, 1) := by decide +kernel
theorem dX7_ran_58 : decode cX7_ran 58 = .ok (.getfield 67, 3) := by decide +kernel
theorem dX7_ran_61 : decode cX7_ran 61 = .ok (.iconst 0, 1) := by decide +kernel
theorem dX7_ran_62 : decode cX7_ran 62 = .ok (.iaload, 1) := by decide +kernel
theorem dX7_ran_63 : decode cX7_ran 63 = .ok (.ireturn, 1) := by decide +kernel
theorem dX7_ran_64 : decode cX7_ran 64 = .ok (.aload_n 0, 1) := by decide +kernel
theorem dX7_ran_65 : decode cX7_ran 65 = .ok (.getfield 64, 3) := by decide +kernel
theorem dX7_ran_68 : decode cX7_ran 68 = .ok (.iconst 0, 1) := by decide +kernel
theorem dX7_ran_69 : decode cX7_ran 69 = .ok (.iaload, 1) := by decide +kernel
theorem dX7_ran_70 : decode cX7_ran 70 = .ok (.ireturn, 1) := by decide +kernel
theorem dX7_ran_71 : decode cX7_ran 71 = .ok (.bipush (-101), 2) := by decide +kernel
theorem dX7_ran_73 : decode cX7_ran 73 = .ok (.ireturn, 1) := by decide +kernel
set_option maxRecDepth 20000 in
theorem ggX7_told_X7_in : GoodIn wsX7_told wsX7_in := goodIn_r _ [7] (by decide +kernel) (by decide +kernel)
set_option maxRecDepth 20000 in
theorem gX7_told_X7_in : GoodIn wsX7_told (va_wsS RX7 110 yX7_in wsX7_in) := goodIn_app (goodIn_of _ (by decide +kernel)) ggX7_told_X7_in
theorem dX7_told_0 : decode cX7_told 0 = .ok (.iload_n 2, 1) := by decide +kernel
theorem dX7_told_1 : decode cX7_told 1 = .ok (.iconst 0, 1) := by decide +kernel
theorem dX7_told_2 : decode cX7_told 2 = .ok (.iconst 1, 1) := by decide +kernel
theorem dX7_told_3 : decode cX7_told 3 = .ok (.invokestatic 110, 3) := by decide +kernel
theorem dX7_told_6 : decode cX7_told 6 = .ok (.ifCond .ne 6, 3) := by decide +kernel
theorem dX7_told_9 : decode cX7_told 9 = .ok (.bipush (-101), 2) := by decide +kernel
theorem dX7_told_11 : decode cX7_told 11 = .ok (.ireturn, 1) := by decide +kernel
theorem dX7_told_12 : decode cX7_told 12 = .ok (.iload_n 1, 1) := by decide +kernel
theorem dX7_told_13 : decode cX7_told 13 = .ok (.iconst 0, 1) := by decide +kernel
theorem dX7_told_14 : decode cX7_told 14 = .ok (.aload_n 0, 1) := by decide +kernel
theorem dX7_told_15 : decode cX7_told 15 = .ok (.getfield 67, 3) := by decide +kernel
theorem dX7_told_18 : decode cX7_told 18 = .ok (.iconst 0, 1) := by decide +kernel
theorem dX7_told_19 : decode cX7_told 19 = .ok (.iaload, 1) := by decide +kernel
theorem dX7_told_20 : decode cX7_told 20 = .ok (.iconst 1, 1) := by decide +kernel
theorem dX7_told_21 : decode cX7_told 21 = .ok (.isub, 1) := by decide +kernel
theorem dX7_told_22 : decode cX7_told 22 = .ok (.invokestatic 110, 3) := by decide +kernel
theorem dX7_told_25 : decode cX7_told 25 = .ok (.ifCond .ne 5, 3) := by decide +kernel
end
section
theorem dX7_told_28 : decode cX7_told 28 = .ok (.iconst (-1), 1) := by decide +kernel
theorem dX7_told_29 : decode cX7_told 29 = .ok (.ireturn, 1) := by decide +kernel
theorem dX7_told_30 : decode cX7_told 30 = .ok (.iload_n 2, 1) := by decide +kernel
theorem dX7_told_31 : decode cX7_told 31 = .ok (.ifCond .ne 12, 3) := by decide +kernel
theorem dX7_told_34 : decode cX7_told 34 = .ok (.aload_n 0, 1) := by decide +kernel
theorem dX7_told_35 : decode cX7_told 35 = .ok (.getfield 70, 3) := by decide +kernel
theorem dX7_told_38 : decode cX7_told 38 = .ok (.iload_n 1, 1) := by decide +kernel
theorem dX7_told_39 : decode cX7_told 39 = .ok (.iaload, 1) := by decide +kernel
theorem dX7_told_40 : decode cX7_told 40 = .ok (.goto 9, 3) := by decide +kernel
theorem dX7_told_43 : decode cX7_told 43 = .ok (.aload_n 0, 1) := by decide +kernel
theorem dX7_told_44 : decode cX7_told 44 = .ok (.getfield 73, 3) := by decide +kernel
theorem dX7_told_47 : decode cX7_told 47 = .ok (.iload_n 1, 1) := by decide +kernel
theorem dX7_told_48 : decode cX7_told 48 = .ok (.iaload, 1) := by decide +kernel
theorem dX7_told_49 : decode cX7_told 49 = .ok (.ireturn, 1) := by decide +kernel
set_option maxRecDepth 20000 in
theorem ggX7_rename_X7_in : GoodIn wsX7_rename wsX7_in := goodIn_r _ [5] (by decide +kernel) (by decide +kernel)
set_option maxRecDepth 20000 in
theorem gX7_rename_X7_in : GoodIn wsX7_rename (va_wsS RX7 110 yX7_in wsX7_in) := goodIn_app (goodIn_of _ (by decide +kernel)) ggX7_rename_X7_in
theorem dX7_rename_0 : decode cX7_rename 0 = .ok (.iload_n 1, 1) := by decide +kernel
theorem dX7_rename_1 : decode cX7_rename 1 = .ok (.iconst 0, 1) := by decide +kernel
theorem dX7_rename_2 : decode cX7_rename 2 = .ok (.iconst 3, 1) := by decide +kernel
theorem dX7_rename_3 : decode cX7_rename 3 = .ok (.invokestatic 110, 3) := by decide +kernel
theorem dX7_rename_6 : decode cX7_rename 6 = .ok (.ifCond .eq 12, 3) := by decide +kernel
theorem dX7_rename_9 : decode cX7_rename 9 = .ok (.iload_n 2, 1) := by decide +kernel
theorem dX7_rename_10 : decode cX7_rename 10 = .ok (.iconst 0, 1) := by decide +kernel
theorem dX7_rename_11 : decode cX7_rename 11 = .ok (.iconst 3, 1) := by decide +kernel
theorem dX7_rename_12 : decode cX7_rename 12 = .ok (.invokestatic 110, 3) := by decide +kernel
theorem dX7_rename_15 : decode cX7_rename 15 = .ok (.ifCond .ne 6, 3) := by decide +kernel
theorem dX7_rename_18 : decode cX7_rename 18 = .ok (.bipush (-101), 2) := by decide +kernel
theorem dX7_rename_20 : decode cX7_rename 20 = .ok (.ireturn, 1) := by decide +kernel
theorem dX7_rename_21 : decode cX7_rename 21 = .ok (.aload_n 0, 1) := by decide +kernel
theorem dX7_rename_22 : decode cX7_rename 22 = .ok (.getfield 28, 3) := by decide +kernel
theorem dX7_rename_25 : decode cX7_rename 25 = .ok (.iload_n 1, 1) := by decide +kernel
theorem dX7_rename_26 : decode cX7_rename 26 = .ok (.iaload, 1) := by decide +kernel
theorem dX7_rename_27 : decode cX7_rename 27 = .ok (.istore_n 3, 1) := by decide +kernel
theorem dX7_rename_28 : decode cX7_rename 28 = .ok (.iconst 0, 1) := by decide +kernel
theorem dX7_rename_29 : decode cX7_rename 29 = .ok (.istore 4, 2) := by decide +kernel
theorem dX7_rename_31 : decode cX7_rename 31 = .ok (.iload 4, 2) := by decide +kernel
theorem dX7_rename_33 : decode cX7_rename 33 = .ok (.iconst 4, 1) := by decide +kernel
theorem dX7_rename_34 : decode cX7_rename 34 = .ok (.if_icmp .ge 28, 3) := by decide +kernel
theorem dX7_rename_37 : decode cX7_rename 37 = .ok (.aload_n 0, 1) := by decide +kernel
theorem dX7_rename_38 : decode cX7_rename 38 = .ok (.getfield 28, 3) := by decide +kernel
theorem dX7_rename_41 : decode cX7_rename 41 = .ok (.iload 4, 2) := by decide +kernel
theorem dX7_rename_43 : decode cX7_rename 43 = .ok (.iaload, 1) := by decide +kernel
theorem dX7_rename_44 : decode cX7_rename 44 = .ok (.iload_n 2, 1) := by decide +kernel
theorem dX7_rename_45 : decode cX7_rename 45 = .ok (.if_icmp .ne 11, 3) := by decide +kernel
theorem dX7_rename_48 : decode cX7_rename 48 = .ok (.aload_n 0, 1) := by decide +kernel
theorem dX7_rename_49 : decode cX7_rename 49 = .ok (.getfield 28, 3) := by decide +kernel
theorem dX7_rename_52 : decode cX7_rename 52 = .ok (.iload 4, 2) := by decide +kernel
theorem dX7_rename_54 : decode cX7_rename 54 = .ok (.iload_n 3, 1) := by decide +kernel
theorem dX7_rename_55 : decode cX7_rename 55 = .ok (.iastore, 1) := by decide +kernel
theorem dX7_rename_56 : decode cX7_rename 56 = .ok (.iinc 4 1, 3) := by decide +kernel
theorem dX7_rename_59 : decode cX7_rename 59 = .ok (.goto (-28), 3) := by decide +kernel
theorem dX7_rename_62 : decode cX7_rename 62 = .ok (.aload_n 0, 1) := by decide +kernel
theorem dX7_rename_63 : decode cX7_rename 63 = .ok (.getfield 28, 3) := by decide +kernel
theorem dX7_rename_66 : decode cX7_rename 66 = .ok (.iload_n 1, 1) := by decide +kernel
theorem dX7_rename_67 : decode cX7_rename 67 = .ok (.iload_n 2, 1) := by decide +kernel
theorem dX7_rename_68 : decode cX7_rename 68 = .ok (.iastore, 1) := by decide +kernel
theorem dX7_rename_69 : decode cX7_rename 69 = .ok (.iload_n 3, 1) := by decide +kernel
theorem dX7_rename_70 : decode cX7_rename 70 = .ok (.ireturn, 1) := by decide +kernel
set_option maxRecDepth 20000 in
theorem ggX7_group_X7_in : GoodIn wsX7_group wsX7_in := goodIn_r _ [5] (by decide +kernel) (by decide +kernel)
set_option maxRecDepth 20000 in
theorem gX7_group_X7_in : GoodIn wsX7_group (va_wsS RX7 110 yX7_in wsX7_in) := goodIn_app (goodIn_of _ (by decide +kernel)) ggX7_group_X7_in
theorem dX7_group_0 : decode cX7_group 0 = .ok (.iload_n 1, 1) := by decide +kernel
theorem dX7_group_1 : decode cX7_group 1 = .ok (.iconst 0, 1) := by decide +kernel
theorem dX7_group_2 : decode cX7_group 2 = .ok (.iconst 3, 1) := by decide +kernel
theorem dX7_group_3 : decode cX7_group 3 = .ok (.invokestatic 110, 3) := by decide +kernel
theorem dX7_group_6 : decode cX7_group 6 = .ok (.ifCond .ne 6, 3) := by decide +kernel
theorem dX7_group_9 : decode cX7_group 9 = .ok (.bipush (-101), 2) := by decide +kernel
theorem dX7_group_11 : decode cX7_group 11 = .ok (.ireturn, 1) := by decide +kernel
theorem dX7_group_12 : decode cX7_group 12 = .ok (.iload_n 2, 1) := by decide +kernel
theorem dX7_group_13 : decode cX7_group 13 = .ok (.iconst 0, 1) := by decide +kernel
theorem dX7_group_14 : decode cX7_group 14 = .ok (.iconst 3, 1) := by decide +kernel
theorem dX7_group_15 : decode cX7_group 15 = .ok (.invokestatic 110, 3) := by decide +kernel
theorem dX7_group_18 : decode cX7_group 18 = .ok (.ifCond .ne 6, 3) := by decide +kernel
theorem dX7_group_21 : decode cX7_group 21 = .ok (.bipush (-102), 2) := by decide +kernel
theorem dX7_group_23 : decode cX7_group 23 = .ok (.ireturn, 1) := by decide +kernel
theorem dX7_group_24 : decode cX7_group 24 = .ok (.aload_n 0, 1) := by decide +kernel
theorem dX7_group_25 : decode cX7_group 25 = .ok (.getfield 31, 3) := by decide +kernel
theorem dX7_group_28 : decode cX7_group 28 = .ok (.iload_n 1, 1) := by decide +kernel
theorem dX7_group_29 : decode cX7_group 29 = .ok (.iaload, 1) := by decide +kernel
theorem dX7_group_30 : decode cX7_group 30 = .ok (.istore_n 3, 1) := by decide +kernel
theorem dX7_group_31 : decode cX7_group 31 = .ok (.aload_n 0, 1) := by decide +kernel
theorem dX7_group_32 : decode cX7_group 32 = .ok (.getfield 31, 3) := by decide +kernel
theorem dX7_group_35 : decode cX7_group 35 = .ok (.iload_n 1, 1) := by decide +kernel
theorem dX7_group_36 : decode cX7_group 36 = .ok (.iload_n 2, 1) := by decide +kernel
theorem dX7_group_37 : decode cX7_group 37 = .ok (.iastore, 1) := by decide +kernel
theorem dX7_group_38 : decode cX7_group 38 = .ok (.iload_n 3, 1) := by decide +kernel
theorem dX7_group_39 : decode cX7_group 39 = .ok (.ireturn, 1) := by decide +kernel
theorem dX7_portOf_0 : decode cX7_portOf 0 = .ok (.iload_n 1, 1) := by decide +kernel
theorem dX7_portOf_1 : decode cX7_portOf 1 = .ok (.bipush 80, 2) := by decide +kernel
theorem dX7_portOf_3 : decode cX7_portOf 3 = .ok (.if_icmp .ge 10, 3) := by decide +kernel
theorem dX7_portOf_6 : decode cX7_portOf 6 = .ok (.aload_n 0, 1) := by decide +kernel
theorem dX7_portOf_7 : decode cX7_portOf 7 = .ok (.getfield 70, 3) := by decide +kernel
theorem dX7_portOf_10 : decode cX7_portOf 10 = .ok (.iload_n 1, 1) := by decide +kernel
theorem dX7_portOf_11 : decode cX7_portOf 11 = .ok (.iaload, 1) := by decide +kernel
theorem dX7_portOf_12 : decode cX7_portOf 12 = .ok (.ireturn, 1) := by decide +kernel
theorem dX7_portOf_13 : decode cX7_portOf 13 = .ok (.iconst 0, 1) := by decide +kernel
theorem dX7_portOf_14 : decode cX7_portOf 14 = .ok (.istore_n 2, 1) := by decide +kernel
theorem dX7_portOf_15 : decode cX7_portOf 15 = .ok (.aload_n 0, 1) := by decide +kernel
theorem dX7_portOf_16 : decode cX7_portOf 16 = .ok (.getfield 28, 3) := by decide +kernel
theorem dX7_portOf_19 : decode cX7_portOf 19 = .ok (.iload_n 2, 1) := by decide +kernel
theorem dX7_portOf_20 : decode cX7_portOf 20 = .ok (.iaload, 1) := by decide +kernel
theorem dX7_portOf_21 : decode cX7_portOf 21 = .ok (.aload_n 0, 1) := by decide +kernel
theorem dX7_portOf_22 : decode cX7_portOf 22 = .ok (.getfield 70, 3) := by decide +kernel
theorem dX7_portOf_25 : decode cX7_portOf 25 = .ok (.iload_n 1, 1) := by decide +kernel
theorem dX7_portOf_26 : decode cX7_portOf 26 = .ok (.iaload, 1) := by decide +kernel
theorem dX7_portOf_27 : decode cX7_portOf 27 = .ok (.if_icmp .eq 9, 3) := by decide +kernel
theorem dX7_portOf_30 : decode cX7_portOf 30 = .ok (.iinc 2 1, 3) := by decide +kernel
theorem dX7_portOf_33 : decode cX7_portOf 33 = .ok (.goto (-18), 3) := by decide +kernel
theorem dX7_portOf_36 : decode cX7_portOf 36 = .ok (.iload_n 2, 1) := by decide +kernel
theorem dX7_portOf_37 : decode cX7_portOf 37 = .ok (.ireturn, 1) := by decide +kernel
set_option maxRecDepth 20000 in
theorem ggX7_next_X7_portOf : GoodIn wsX7_next wsX7_portOf := goodIn_r _ [8, 9, 10, 11, 12, 13, 14, 15, 16, 17, 18, 19, 20, 21, 22, 23, 24, 25, 26, 27, 28, 29, 30, 31, 32, 33, 34, 35, 36, 37, 38, 39, 40, 41, 42, 43, 44, 45, 46, 47, 48, 49, 50, 51, 52] (by decide +kernel) (by decide +kernel)
set_option maxRecDepth 20000 in
theorem gX7_next_X7_portOf : GoodIn wsX7_next (wsV RX7 175 RX7 yX7_portOf wsX7_portOf) := goodIn_app (goodIn_of _ (by decide +kernel)) ggX7_next_X7_portOf
theorem dX7_next_0 : decode cX7_next 0 = .ok (.iload_n 2, 1) := by decide +kernel
theorem dX7_next_1 : decode cX7_next 1 = .ok (.istore 5, 2) := by decide +kernel
theorem dX7_next_3 : decode cX7_next 3 = .ok (.iload 5, 2) := by decide +kernel
theorem dX7_next_5 : decode cX7_next 5 = .ok (.aload_n 0, 1) := by decide +kernel
theorem dX7_next_6 : decode cX7_next 6 = .ok (.getfield 67, 3) := by decide +kernel
theorem dX7_next_9 : decode cX7_next 9 = .ok (.iload_n 1, 1) := by decide +kernel
theorem dX7_next_10 : decode cX7_next 10 = .ok (.iaload, 1) := by decide +kernel
theorem dX7_next_11 : decode cX7_next 11 = .ok (.if_icmp .ge 46, 3) := by decide +kernel
theorem dX7_next_14 : decode cX7_next 14 = .ok (.aload_n 0, 1) := by decide +kernel
theorem dX7_next_15 : decode cX7_next 15 = .ok (.getfield 76, 3) := by decide +kernel
theorem dX7_next_18 : decode cX7_next 18 = .ok (.bipush 40, 2) := by decide +kernel
theorem dX7_next_20 : decode cX7_next 20 = .ok (.iload_n 1, 1) := by decide +kernel
theorem dX7_next_21 : decode cX7_next 21 = .ok (.imul, 1) := by decide +kernel
theorem dX7_next_22 : decode cX7_next 22 = .ok (.iload 5, 2) := by decide +kernel
theorem dX7_next_24 : decode cX7_next 24 = .ok (.iadd, 1) := by decide +kernel
theorem dX7_next_25 : decode cX7_next 25 = .ok (.iaload, 1) := by decide +kernel
theorem dX7_next_26 : decode cX7_next 26 = .ok (.iload 4, 2) := by decide +kernel
theorem dX7_next_28 : decode cX7_next 28 = .ok (.if_icmp .ne 23, 3) := by decide +kernel
theorem dX7_next_31 : decode cX7_next 31 = .ok (.aload_n 0, 1) := by decide +kernel
theorem dX7_next_32 : decode cX7_next 32 = .ok (.getfield 31, 3) := by decide +kernel
theorem dX7_next_35 : decode cX7_next 35 = .ok (.aload_n 0, 1) := by decide +kernel
theorem dX7_next_36 : decode cX7_next 36 = .ok (.bipush 40, 2) := by decide +kernel
theorem dX7_next_38 : decode cX7_next 38 = .ok (.iload_n 1, 1) := by decide +kernel
theorem dX7_next_39 : decode cX7_next 39 = .ok (.imul, 1) := by decide +kernel
theorem dX7_next_40 : decode cX7_next 40 = .ok (.iload 5, 2) := by decide +kernel
theorem dX7_next_42 : decode cX7_next 42 = .ok (.iadd, 1) := by decide +kernel
theorem dX7_next_43 : decode cX7_next 43 = .ok (.invokevirtual 175, 3) := by decide +kernel
theorem dX7_next_46 : decode cX7_next 46 = .ok (.iaload, 1) := by decide +kernel
theorem dX7_next_47 : decode cX7_next 47 = .ok (.iload_n 3, 1) := by decide +kernel
theorem dX7_next_48 : decode cX7_next 48 = .ok (.if_icmp .eq 9, 3) := by decide +kernel
theorem dX7_next_51 : decode cX7_next 51 = .ok (.iinc 5 1, 3) := by decide +kernel
theorem dX7_next_54 : decode cX7_next 54 = .ok (.goto (-51), 3) := by decide +kernel
theorem dX7_next_57 : decode cX7_next 57 = .ok (.iload 5, 2) := by decide +kernel
theorem dX7_next_59 : decode cX7_next 59 = .ok (.ireturn, 1) := by decide +kernel
set_option maxRecDepth 20000 in
theorem ggX7_areTellsLike_X7_next : GoodIn wsX7_areTellsLike wsX7_next := goodIn_r _ [7, 1, 8, 9, 10, 11, 12, 6, 13, 14, 15, 16, 17, 18, 19, 20, 21, 22, 23, 24, 25, 26, 27, 28, 29, 30, 31, 32, 33, 34, 35, 36, 37, 38, 39, 40, 41, 42, 43, 44, 45, 46, 47, 48, 49, 50, 51, 52, 53, 54, 55, 56, 57] (by decide +kernel) (by decide +kernel)
set_option maxRecDepth 20000 in
theorem gX7_areTellsLike_X7_next : GoodIn wsX7_areTellsLike (wsV RX7 179 RX7 yX7_next wsX7_next) := goodIn_app (goodIn_of _ (by decide +kernel)) ggX7_areTellsLike_X7_next
set_option maxRecDepth 20000 in
theorem ggX7_areTellsLike_X7_portOf : GoodIn wsX7_areTellsLike wsX7_portOf := goodIn_r _ [13, 14, 15, 16, 17, 18, 19, 20, 21, 22, 23, 24, 25, 26, 27, 28, 29, 30, 31, 32, 33, 34, 35, 36, 37, 38, 39, 40, 41, 42, 43, 44, 45, 46, 47, 48, 49, 50, 51, 52, 53, 54, 55, 56, 57] (by decide +kernel) (by decide +kernel)
set_option maxRecDepth 20000 in
theorem gX7_areTellsLike_X7_portOf : GoodIn wsX7_areTellsLike (wsV RX7 175 RX7 yX7_portOf wsX7_portOf) := goodIn_app (goodIn_of _ (by decide +kernel)) ggX7_areTellsLike_X7_portOf
theorem dX7_areTellsLike_0 : decode cX7_areTellsLike 0 = .ok (.aload_n 0, 1) := by decide +kernel
theorem dX7_areTellsLike_1 : decode cX7_areTellsLike 1 = .ok (.iconst 1, 1) := by decide +kernel
theorem dX7_areTellsLike_2 : decode cX7_areTellsLike 2 = .ok (.iconst 0, 1) := by decide +kernel
theorem dX7_areTellsLike_3 : decode cX7_areTellsLike 3 = .ok (.iload_n 1, 1) := by decide +kernel
theorem dX7_areTellsLike_4 : decode cX7_areTellsLike 4 = .ok (.iload_n 2, 1) := by decide +kernel
theorem dX7_areTellsLike_5 : decode cX7_areTellsLike 5 = .ok (.invokevirtual 179, 3) := by decide +kernel
theorem dX7_areTellsLike_8 : decode cX7_areTellsLike 8 = .ok (.istore_n 3, 1) := by decide +kernel
theorem dX7_areTellsLike_9 : decode cX7_areTellsLike 9 = .ok (.aload_n 0, 1) := by decide +kernel
theorem dX7_areTellsLike_10 : decode cX7_areTellsLike 10 = .ok (.iconst 2, 1) := by decide +kernel
theorem dX7_areTellsLike_11 : decode cX7_areTellsLike 11 = .ok (.iconst 0, 1) := by decide +kernel
theorem dX7_areTellsLike_12 : decode cX7_areTellsLike 12 = .ok (.iload_n 1, 1) := by decide +kernel
theorem dX7_areTellsLike_13 : decode cX7_areTellsLike 13 = .ok (.iload_n 2, 1) := by decide +kernel
theorem dX7_areTellsLike_14 : decode cX7_areTellsLike 14 = .ok (.invokevirtual 179, 3) := by decide +kernel
theorem dX7_areTellsLike_17 : decode cX7_areTellsLike 17 = .ok (.istore 4, 2) := by decide +kernel
theorem dX7_areTellsLike_19 : decode cX7_areTellsLike 19 = .ok (.iload_n 3, 1) := by decide +kernel
theorem dX7_areTellsLike_20 : decode cX7_areTellsLike 20 = .ok (.aload_n 0, 1) := by decide +kernel
theorem dX7_areTellsLike_21 : decode cX7_areTellsLike 21 = .ok (.getfield 67, 3) := by decide +kernel
theorem dX7_areTellsLike_24 : decode cX7_areTellsLike 24 = .ok (.iconst 1, 1) := by decide +kernel
theorem dX7_areTellsLike_25 : decode cX7_areTellsLike 25 = .ok (.iaload, 1) := by decide +kernel
theorem dX7_areTellsLike_26 : decode cX7_areTellsLike 26 = .ok (.if_icmp .ge 85, 3) := by decide +kernel
theorem dX7_areTellsLike_29 : decode cX7_areTellsLike 29 = .ok (.iload 4, 2) := by decide +kernel
theorem dX7_areTellsLike_31 : decode cX7_areTellsLike 31 = .ok (.aload_n 0, 1) := by decide +kernel
theorem dX7_areTellsLike_32 : decode cX7_areTellsLike 32 = .ok (.getfield 67, 3) := by decide +kernel
theorem dX7_areTellsLike_35 : decode cX7_areTellsLike 35 = .ok (.iconst 2, 1) := by decide +kernel
theorem dX7_areTellsLike_36 : decode cX7_areTellsLike 36 = .ok (.iaload, 1) := by decide +kernel
theorem dX7_areTellsLike_37 : decode cX7_areTellsLike 37 = .ok (.if_icmp .ge 74, 3) := by decide +kernel
theorem dX7_areTellsLike_40 : decode cX7_areTellsLike 40 = .ok (.aload_n 0, 1) := by decide +kernel
theorem dX7_areTellsLike_41 : decode cX7_areTellsLike 41 = .ok (.bipush 40, 2) := by decide +kernel
theorem dX7_areTellsLike_43 : decode cX7_areTellsLike 43 = .ok (.iload_n 3, 1) := by decide +kernel
theorem dX7_areTellsLike_44 : decode cX7_areTellsLike 44 = .ok (.iadd, 1) := by decide +kernel
theorem dX7_areTellsLike_45 : decode cX7_areTellsLike 45 = .ok (.invokevirtual 175, 3) := by decide +kernel
theorem dX7_areTellsLike_48 : decode cX7_areTellsLike 48 = .ok (.aload_n 0, 1) := by decide +kernel
theorem dX7_areTellsLike_49 : decode cX7_areTellsLike 49 = .ok (.bipush 80, 2) := by decide +kernel
theorem dX7_areTellsLike_51 : decode cX7_areTellsLike 51 = .ok (.iload 4, 2) := by decide +kernel
theorem dX7_areTellsLike_53 : decode cX7_areTellsLike 53 = .ok (.iadd, 1) := by decide +kernel
theorem dX7_areTellsLike_54 : decode cX7_areTellsLike 54 = .ok (.invokevirtual 175, 3) := by decide +kernel
theorem dX7_areTellsLike_57 : decode cX7_areTellsLike 57 = .ok (.if_icmp .ne 25, 3) := by decide +kernel
theorem dX7_areTellsLike_60 : decode cX7_areTellsLike 60 = .ok (.aload_n 0, 1) := by decide +kernel
theorem dX7_areTellsLike_61 : decode cX7_areTellsLike 61 = .ok (.getfield 73, 3) := by decide +kernel
theorem dX7_areTellsLike_64 : decode cX7_areTellsLike 64 = .ok (.bipush 40, 2) := by decide +kernel
theorem dX7_areTellsLike_66 : decode cX7_areTellsLike 66 = .ok (.iload_n 3, 1) := by decide +kernel
theorem dX7_areTellsLike_67 : decode cX7_areTellsLike 67 = .ok (.iadd, 1) := by decide +kernel
theorem dX7_areTellsLike_68 : decode cX7_areTellsLike 68 = .ok (.iaload, 1) := by decide +kernel
theorem dX7_areTellsLike_69 : decode cX7_areTellsLike 69 = .ok (.aload_n 0, 1) := by decide +kernel
theorem dX7_areTellsLike_70 : decode cX7_areTellsLike 70 = .ok (.getfield 73, 3) := by decide +kernel
theorem dX7_areTellsLike_73 : decode cX7_areTellsLike 73 = .ok (.bipush 80, 2) := by decide +kernel
theorem dX7_areTellsLike_75 : decode cX7_areTellsLike 75 = .ok (.iload 4, 2) := by decide +kernel
theorem dX7_areTellsLike_77 : decode cX7_areTellsLike 77 = .ok (.iadd, 1) := by decide +kernel
theorem dX7_areTellsLike_78 : decode cX7_areTellsLike 78 = .ok (.iaload, 1) := by decide +kernel
theorem dX7_areTellsLike_79 : decode cX7_areTellsLike 79 = .ok (.if_icmp .eq 5, 3) := by decide +kernel
theorem dX7_areTellsLike_82 : decode cX7_areTellsLike 82 = .ok (.iconst 0, 1) := by decide +kernel
theorem dX7_areTellsLike_83 : decode cX7_areTellsLike 83 = .ok (.ireturn, 1) := by decide +kernel
theorem dX7_areTellsLike_84 : decode cX7_areTellsLike 84 = .ok (.aload_n 0, 1) := by decide +kernel
theorem dX7_areTellsLike_85 : decode cX7_areTellsLike 85 = .ok (.iconst 1, 1) := by decide +kernel
theorem dX7_areTellsLike_86 : decode cX7_areTellsLike 86 = .ok (.iload_n 3, 1) := by decide +kernel
theorem dX7_areTellsLike_87 : decode cX7_areTellsLike 87 = .ok (.iconst 1, 1) := by decide +kernel
theorem dX7_areTellsLike_88 : decode cX7_areTellsLike 88 = .ok (.iadd, 1) := by decide +kernel
theorem dX7_areTellsLike_89 : decode cX7_areTellsLike 89 = .ok (.iload_n 1, 1) := by decide +kernel
theorem dX7_areTellsLike_90 : decode cX7_areTellsLike 90 = .ok (.iload_n 2, 1) := by decide +kernel
theorem dX7_areTellsLike_91 : decode cX7_areTellsLike 91 = .ok (.invokevirtual 179, 3) := by decide +kernel
theorem dX7_areTellsLike_94 : decode cX7_areTellsLike 94 = .ok (.istore_n 3, 1) := by decide +kernel
theorem dX7_areTellsLike_95 : decode cX7_areTellsLike 95 = .ok (.aload_n 0, 1) := by decide +kernel
theorem dX7_areTellsLike_96 : decode cX7_areTellsLike 96 = .ok (.iconst 2, 1) := by decide +kernel
theorem dX7_areTellsLike_97 : decode cX7_areTellsLike 97 = .ok (.iload 4, 2) := by decide +kernel
theorem dX7_areTellsLike_99 : decode cX7_areTellsLike 99 = .ok (.iconst 1, 1) := by decide +kernel
theorem dX7_areTellsLike_100 : decode cX7_areTellsLike 100 = .ok (.iadd, 1) := by decide +kernel
theorem dX7_areTellsLike_101 : decode cX7_areTellsLike 101 = .ok (.iload_n 1, 1) := by decide +kernel
theorem dX7_areTellsLike_102 : decode cX7_areTellsLike 102 = .ok (.iload_n 2, 1) := by decide +kernel
theorem dX7_areTellsLike_103 : decode cX7_areTellsLike 103 = .ok (.invokevirtual 179, 3) := by decide +kernel
theorem dX7_areTellsLike_106 : decode cX7_areTellsLike 106 = .ok (.istore 4, 2) := by decide +kernel
theorem dX7_areTellsLike_108 : decode cX7_areTellsLike 108 = .ok (.goto (-89), 3) := by decide +kernel
theorem dX7_areTellsLike_111 : decode cX7_areTellsLike 111 = .ok (.iload_n 3, 1) := by decide +kernel
theorem dX7_areTellsLike_112 : decode cX7_areTellsLike 112 = .ok (.aload_n 0, 1) := by decide +kernel
theorem dX7_areTellsLike_113 : decode cX7_areTellsLike 113 = .ok (.getfield 67, 3) := by decide +kernel
theorem dX7_areTellsLike_116 : decode cX7_areTellsLike 116 = .ok (.iconst 1, 1) := by decide +kernel
theorem dX7_areTellsLike_117 : decode cX7_areTellsLike 117 = .ok (.iaload, 1) := by decide +kernel
theorem dX7_areTellsLike_118 : decode cX7_areTellsLike 118 = .ok (.if_icmp .lt 18, 3) := by decide +kernel
theorem dX7_areTellsLike_121 : decode cX7_areTellsLike 121 = .ok (.iload 4, 2) := by decide +kernel
theorem dX7_areTellsLike_123 : decode cX7_areTellsLike 123 = .ok (.aload_n 0, 1) := by decide +kernel
theorem dX7_areTellsLike_124 : decode cX7_areTellsLike 124 = .ok (.getfield 67, 3) := by decide +kernel
theorem dX7_areTellsLike_127 : decode cX7_areTellsLike 127 = .ok (.iconst 2, 1) := by decide +kernel
theorem dX7_areTellsLike_128 : decode cX7_areTellsLike 128 = .ok (.iaload, 1) := by decide +kernel
theorem dX7_areTellsLike_129 : decode cX7_areTellsLike 129 = .ok (.if_icmp .lt 7, 3) := by decide +kernel
theorem dX7_areTellsLike_132 : decode cX7_areTellsLike 132 = .ok (.iconst 1, 1) := by decide +kernel
theorem dX7_areTellsLike_133 : decode cX7_areTellsLike 133 = .ok (.goto 4, 3) := by decide +kernel
theorem dX7_areTellsLike_136 : decode cX7_areTellsLike 136 = .ok (.iconst 0, 1) := by decide +kernel
theorem dX7_areTellsLike_137 : decode cX7_areTellsLike 137 = .ok (.ireturn, 1) := by decide +kernel
theorem dX7_isPair_0 : decode cX7_isPair 0 = .ok (.iconst 0, 1) := by decide +kernel
theorem dX7_isPair_1 : decode cX7_isPair 1 = .ok (.istore_n 3, 1) := by decide +kernel
theorem dX7_isPair_2 : decode cX7_isPair 2 = .ok (.iconst 0, 1) := by decide +kernel
theorem dX7_isPair_3 : decode cX7_isPair 3 = .ok (.istore 4, 2) := by decide +kernel
theorem dX7_isPair_5 : decode cX7_isPair 5 = .ok (.iload 4, 2) := by decide +kernel
theorem dX7_isPair_7 : decode cX7_isPair 7 = .ok (.aload_n 0, 1) := by decide +kernel
theorem dX7_isPair_8 : decode cX7_isPair 8 = .ok (.getfield 183, 3) := by decide +kernel
theorem dX7_isPair_11 : decode cX7_isPair 11 = .ok (.if_icmp .ge 41, 3) := by decide +kernel
theorem dX7_isPair_14 : decode cX7_isPair 14 = .ok (.iload_n 3, 1) := by decide +kernel
theorem dX7_isPair_15 : decode cX7_isPair 15 = .ok (.ifCond .ne 25, 3) := by decide +kernel
theorem dX7_isPair_18 : decode cX7_isPair 18 = .ok (.aload_n 0, 1) := by decide +kernel
theorem dX7_isPair_19 : decode cX7_isPair 19 = .ok (.getfield 34, 3) := by decide +kernel
theorem dX7_isPair_22 : decode cX7_isPair 22 = .ok (.iload 4, 2) := by decide +kernel
theorem dX7_isPair_24 : decode cX7_isPair 24 = .ok (.iaload, 1) := by decide +kernel
theorem dX7_isPair_25 : decode cX7_isPair 25 = .ok (.iload_n 1, 1) := by decide +kernel
theorem dX7_isPair_26 : decode cX7_isPair 26 = .ok (.if_icmp .ne 18, 3) := by decide +kernel
theorem dX7_isPair_29 : decode cX7_isPair 29 = .ok (.aload_n 0, 1) := by decide +kernel
theorem dX7_isPair_30 : decode cX7_isPair 30 = .ok (.getfield 37, 3) := by decide +kernel
theorem dX7_isPair_33 : decode cX7_isPair 33 = .ok (.iload 4, 2) := by decide +kernel
theorem dX7_isPair_35 : decode cX7_isPair 35 = .ok (.iaload, 1) := by decide +kernel
theorem dX7_isPair_36 : decode cX7_isPair 36 = .ok (.iload_n 2, 1) := by decide +kernel
theorem dX7_isPair_37 : decode cX7_isPair 37 = .ok (.if_icmp .ne 7, 3) := by decide +kernel
theorem dX7_isPair_40 : decode cX7_isPair 40 = .ok (.iconst 1, 1) := by decide +kernel
theorem dX7_isPair_41 : decode cX7_isPair 41 = .ok (.goto 4, 3) := by decide +kernel
theorem dX7_isPair_44 : decode cX7_isPair 44 = .ok (.iconst 0, 1) := by decide +kernel
theorem dX7_isPair_45 : decode cX7_isPair 45 = .ok (.istore_n 3, 1) := by decide +kernel
theorem dX7_isPair_46 : decode cX7_isPair 46 = .ok (.iinc 4 1, 3) := by decide +kernel
theorem dX7_isPair_49 : decode cX7_isPair 49 = .ok (.goto (-44), 3) := by decide +kernel
theorem dX7_isPair_52 : decode cX7_isPair 52 = .ok (.iload_n 3, 1) := by decide +kernel
theorem dX7_isPair_53 : decode cX7_isPair 53 = .ok (.ireturn, 1) := by decide +kernel
set_option maxRecDepth 20000 in
theorem ggX7_areLike_X7_isPair : GoodIn wsX7_areLike wsX7_isPair := goodIn_r _ [12, 13, 14, 15, 34, 35, 36, 37, 38, 39, 40, 41, 42, 43, 44, 45, 46, 47, 48, 49, 50, 51, 52, 53, 54, 55, 56, 57, 58, 59, 60, 61, 62, 63, 64, 65, 66, 67, 68, 69, 70, 71, 72, 73, 74, 75] (by decide +kernel) (by decide +kernel)
set_option maxRecDepth 20000 in
theorem gX7_areLike_X7_isPair : GoodIn wsX7_areLike (wsV RX7 186 RX7 yX7_isPair wsX7_isPair) := goodIn_app (goodIn_of _ (by decide +kernel)) ggX7_areLike_X7_isPair
set_option maxRecDepth 20000 in
theorem ggX7_areLike_X7_areTellsLike : GoodIn wsX7_areLike wsX7_areTellsLike := goodIn_r _ [19, 20, 21, 22, 23, 24, 11, 25, 26, 27, 28, 29, 30, 31, 32, 33, 34, 35, 36, 37, 38, 39, 40, 41, 42, 43, 44, 45, 46, 47, 48, 49, 50, 51, 52, 53, 54, 55, 56, 57, 58, 59, 60, 61, 62, 63, 64, 65, 66, 67, 68, 69, 70, 71, 72, 73, 74, 75] (by decide +kernel) (by decide +kernel)
set_option maxRecDepth 20000 in
theorem gX7_areLike_X7_areTellsLike : GoodIn wsX7_areLike (wsV RX7 189 RX7 yX7_areTellsLike wsX7_areTellsLike) := goodIn_app (goodIn_of _ (by decide +kernel)) ggX7_areLike_X7_areTellsLike
theorem dX7_areLike_0 : decode cX7_areLike 0 = .ok (.aload_n 0, 1) := by decide +kernel
theorem dX7_areLike_1 : decode cX7_areLike 1 = .ok (.getfield 52, 3) := by decide +kernel
theorem dX7_areLike_4 : decode cX7_areLike 4 = .ok (.iconst 1, 1) := by decide +kernel
theorem dX7_areLike_5 : decode cX7_areLike 5 = .ok (.iaload, 1) := by decide +kernel
theorem dX7_areLike_6 : decode cX7_areLike 6 = .ok (.aload_n 0, 1) := by decide +kernel
theorem dX7_areLike_7 : decode cX7_areLike 7 = .ok (.getfield 52, 3) := by decide +kernel
theorem dX7_areLike_10 : decode cX7_areLike 10 = .ok (.iconst 2, 1) := by decide +kernel
theorem dX7_areLike_11 : decode cX7_areLike 11 = .ok (.iaload, 1) := by decide +kernel
theorem dX7_areLike_12 : decode cX7_areLike 12 = .ok (.if_icmp .ne 52, 3) := by decide +kernel
theorem dX7_areLike_15 : decode cX7_areLike 15 = .ok (.aload_n 0, 1) := by decide +kernel
theorem dX7_areLike_16 : decode cX7_areLike 16 = .ok (.getfield 55, 3) := by decide +kernel
theorem dX7_areLike_19 : decode cX7_areLike 19 = .ok (.iconst 1, 1) := by decide +kernel
theorem dX7_areLike_20 : decode cX7_areLike 20 = .ok (.iaload, 1) := by decide +kernel
theorem dX7_areLike_21 : decode cX7_areLike 21 = .ok (.aload_n 0, 1) := by decide +kernel
theorem dX7_areLike_22 : decode cX7_areLike 22 = .ok (.getfield 55, 3) := by decide +kernel
theorem dX7_areLike_25 : decode cX7_areLike 25 = .ok (.iconst 2, 1) := by decide +kernel
theorem dX7_areLike_26 : decode cX7_areLike 26 = .ok (.iaload, 1) := by decide +kernel
theorem dX7_areLike_27 : decode cX7_areLike 27 = .ok (.if_icmp .ne 37, 3) := by decide +kernel
theorem dX7_areLike_30 : decode cX7_areLike 30 = .ok (.aload_n 0, 1) := by decide +kernel
theorem dX7_areLike_31 : decode cX7_areLike 31 = .ok (.getfield 58, 3) := by decide +kernel
theorem dX7_areLike_34 : decode cX7_areLike 34 = .ok (.iconst 1, 1) := by decide +kernel
theorem dX7_areLike_35 : decode cX7_areLike 35 = .ok (.iaload, 1) := by decide +kernel
theorem dX7_areLike_36 : decode cX7_areLike 36 = .ok (.aload_n 0, 1) := by decide +kernel
theorem dX7_areLike_37 : decode cX7_areLike 37 = .ok (.getfield 58, 3) := by decide +kernel
theorem dX7_areLike_40 : decode cX7_areLike 40 = .ok (.iconst 2, 1) := by decide +kernel
theorem dX7_areLike_41 : decode cX7_areLike 41 = .ok (.iaload, 1) := by decide +kernel
theorem dX7_areLike_42 : decode cX7_areLike 42 = .ok (.if_icmp .ne 22, 3) := by decide +kernel
theorem dX7_areLike_45 : decode cX7_areLike 45 = .ok (.aload_n 0, 1) := by decide +kernel
theorem dX7_areLike_46 : decode cX7_areLike 46 = .ok (.getfield 79, 3) := by decide +kernel
theorem dX7_areLike_49 : decode cX7_areLike 49 = .ok (.iconst 1, 1) := by decide +kernel
theorem dX7_areLike_50 : decode cX7_areLike 50 = .ok (.iaload, 1) := by decide +kernel
theorem dX7_areLike_51 : decode cX7_areLike 51 = .ok (.aload_n 0, 1) := by decide +kernel
theorem dX7_areLike_52 : decode cX7_areLike 52 = .ok (.getfield 79, 3) := by decide +kernel
theorem dX7_areLike_55 : decode cX7_areLike 55 = .ok (.iconst 2, 1) := by decide +kernel
theorem dX7_areLike_56 : decode cX7_areLike 56 = .ok (.iaload, 1) := by decide +kernel
theorem dX7_areLike_57 : decode cX7_areLike 57 = .ok (.if_icmp .ne 7, 3) := by decide +kernel
theorem dX7_areLike_60 : decode cX7_areLike 60 = .ok (.iconst 1, 1) := by decide +kernel
theorem dX7_areLike_61 : decode cX7_areLike 61 = .ok (.goto 4, 3) := by decide +kernel
theorem dX7_areLike_64 : decode cX7_areLike 64 = .ok (.iconst 0, 1) := by decide +kernel
theorem dX7_areLike_65 : decode cX7_areLike 65 = .ok (.istore_n 1, 1) := by decide +kernel
theorem dX7_areLike_66 : decode cX7_areLike 66 = .ok (.iconst 0, 1) := by decide +kernel
theorem dX7_areLike_67 : decode cX7_areLike 67 = .ok (.istore_n 2, 1) := by decide +kernel
theorem dX7_areLike_68 : decode cX7_areLike 68 = .ok (.iload_n 2, 1) := by decide +kernel
theorem dX7_areLike_69 : decode cX7_areLike 69 = .ok (.aload_n 0, 1) := by decide +kernel
theorem dX7_areLike_70 : decode cX7_areLike 70 = .ok (.getfield 79, 3) := by decide +kernel
theorem dX7_areLike_73 : decode cX7_areLike 73 = .ok (.iconst 1, 1) := by decide +kernel
theorem dX7_areLike_74 : decode cX7_areLike 74 = .ok (.iaload, 1) := by decide +kernel
theorem dX7_areLike_75 : decode cX7_areLike 75 = .ok (.if_icmp .ge 80, 3) := by decide +kernel
theorem dX7_areLike_78 : decode cX7_areLike 78 = .ok (.iload_n 1, 1) := by decide +kernel
theorem dX7_areLike_79 : decode cX7_areLike 79 = .ok (.ifCond .eq 76, 3) := by decide +kernel
theorem dX7_areLike_82 : decode cX7_areLike 82 = .ok (.aload_n 0, 1) := by decide +kernel
theorem dX7_areLike_83 : decode cX7_areLike 83 = .ok (.aload_n 0, 1) := by decide +kernel
theorem dX7_areLike_84 : decode cX7_areLike 84 = .ok (.getfield 82, 3) := by decide +kernel
theorem dX7_areLike_87 : decode cX7_areLike 87 = .ok (.iconst 2, 1) := by decide +kernel
theorem dX7_areLike_88 : decode cX7_areLike 88 = .ok (.iload_n 2, 1) := by decide +kernel
theorem dX7_areLike_89 : decode cX7_areLike 89 = .ok (.iadd, 1) := by decide +kernel
theorem dX7_areLike_90 : decode cX7_areLike 90 = .ok (.iaload, 1) := by decide +kernel
theorem dX7_areLike_91 : decode cX7_areLike 91 = .ok (.aload_n 0, 1) := by decide +kernel
theorem dX7_areLike_92 : decode cX7_areLike 92 = .ok (.getfield 82, 3) := by decide +kernel
theorem dX7_areLike_95 : decode cX7_areLike 95 = .ok (.iconst 4, 1) := by decide +kernel
theorem dX7_areLike_96 : decode cX7_areLike 96 = .ok (.iload_n 2, 1) := by decide +kernel
theorem dX7_areLike_97 : decode cX7_areLike 97 = .ok (.iadd, 1) := by decide +kernel
theorem dX7_areLike_98 : decode cX7_areLike 98 = .ok (.iaload, 1) := by decide +kernel
theorem dX7_areLike_99 : decode cX7_areLike 99 = .ok (.invokevirtual 186, 3) := by decide +kernel
theorem dX7_areLike_102 : decode cX7_areLike 102 = .ok (.ifCond .eq 45, 3) := by decide +kernel
theorem dX7_areLike_105 : decode cX7_areLike 105 = .ok (.aload_n 0, 1) := by decide +kernel
theorem dX7_areLike_106 : decode cX7_areLike 106 = .ok (.getfield 85, 3) := by decide +kernel
theorem dX7_areLike_109 : decode cX7_areLike 109 = .ok (.iconst 2, 1) := by decide +kernel
theorem dX7_areLike_110 : decode cX7_areLike 110 = .ok (.iload_n 2, 1) := by decide +kernel
theorem dX7_areLike_111 : decode cX7_areLike 111 = .ok (.iadd, 1) := by decide +kernel
theorem dX7_areLike_112 : decode cX7_areLike 112 = .ok (.iaload, 1) := by decide +kernel
theorem dX7_areLike_113 : decode cX7_areLike 113 = .ok (.aload_n 0, 1) := by decide +kernel
theorem dX7_areLike_114 : decode cX7_areLike 114 = .ok (.getfield 85, 3) := by decide +kernel
theorem dX7_areLike_117 : decode cX7_areLike 117 = .ok (.iconst 4, 1) := by decide +kernel
theorem dX7_areLike_118 : decode cX7_areLike 118 = .ok (.iload_n 2, 1) := by decide +kernel
theorem dX7_areLike_119 : decode cX7_areLike 119 = .ok (.iadd, 1) := by decide +kernel
theorem dX7_areLike_120 : decode cX7_areLike 120 = .ok (.iaload, 1) := by decide +kernel
theorem dX7_areLike_121 : decode cX7_areLike 121 = .ok (.if_icmp .ne 26, 3) := by decide +kernel
theorem dX7_areLike_124 : decode cX7_areLike 124 = .ok (.aload_n 0, 1) := by decide +kernel
theorem dX7_areLike_125 : decode cX7_areLike 125 = .ok (.getfield 88, 3) := by decide +kernel
theorem dX7_areLike_128 : decode cX7_areLike 128 = .ok (.iconst 2, 1) := by decide +kernel
theorem dX7_areLike_129 : decode cX7_areLike 129 = .ok (.iload_n 2, 1) := by decide +kernel
theorem dX7_areLike_130 : decode cX7_areLike 130 = .ok (.iadd, 1) := by decide +kernel
theorem dX7_areLike_131 : decode cX7_areLike 131 = .ok (.iaload, 1) := by decide +kernel
theorem dX7_areLike_132 : decode cX7_areLike 132 = .ok (.aload_n 0, 1) := by decide +kernel
theorem dX7_areLike_133 : decode cX7_areLike 133 = .ok (.getfield 88, 3) := by decide +kernel
theorem dX7_areLike_136 : decode cX7_areLike 136 = .ok (.iconst 4, 1) := by decide +kernel
theorem dX7_areLike_137 : decode cX7_areLike 137 = .ok (.iload_n 2, 1) := by decide +kernel
theorem dX7_areLike_138 : decode cX7_areLike 138 = .ok (.iadd, 1) := by decide +kernel
theorem dX7_areLike_139 : decode cX7_areLike 139 = .ok (.iaload, 1) := by decide +kernel
theorem dX7_areLike_140 : decode cX7_areLike 140 = .ok (.if_icmp .ne 7, 3) := by decide +kernel
theorem dX7_areLike_143 : decode cX7_areLike 143 = .ok (.iconst 1, 1) := by decide +kernel
theorem dX7_areLike_144 : decode cX7_areLike 144 = .ok (.goto 4, 3) := by decide +kernel
theorem dX7_areLike_147 : decode cX7_areLike 147 = .ok (.iconst 0, 1) := by decide +kernel
theorem dX7_areLike_148 : decode cX7_areLike 148 = .ok (.istore_n 1, 1) := by decide +kernel
theorem dX7_areLike_149 : decode cX7_areLike 149 = .ok (.iinc 2 1, 3) := by decide +kernel
theorem dX7_areLike_152 : decode cX7_areLike 152 = .ok (.goto (-84), 3) := by decide +kernel
theorem dX7_areLike_155 : decode cX7_areLike 155 = .ok (.iconst 0, 1) := by decide +kernel
theorem dX7_areLike_156 : decode cX7_areLike 156 = .ok (.istore_n 2, 1) := by decide +kernel
theorem dX7_areLike_157 : decode cX7_areLike 157 = .ok (.iload_n 2, 1) := by decide +kernel
theorem dX7_areLike_158 : decode cX7_areLike 158 = .ok (.iconst 4, 1) := by decide +kernel
theorem dX7_areLike_159 : decode cX7_areLike 159 = .ok (.if_icmp .ge 37, 3) := by decide +kernel
theorem dX7_areLike_162 : decode cX7_areLike 162 = .ok (.iload_n 1, 1) := by decide +kernel
theorem dX7_areLike_163 : decode cX7_areLike 163 = .ok (.ifCond .eq 33, 3) := by decide +kernel
theorem dX7_areLike_166 : decode cX7_areLike 166 = .ok (.iconst 0, 1) := by decide +kernel
theorem dX7_areLike_167 : decode cX7_areLike 167 = .ok (.istore_n 3, 1) := by decide +kernel
theorem dX7_areLike_168 : decode cX7_areLike 168 = .ok (.iload_n 3, 1) := by decide +kernel
theorem dX7_areLike_169 : decode cX7_areLike 169 = .ok (.iconst 3, 1) := by decide +kernel
theorem dX7_areLike_170 : decode cX7_areLike 170 = .ok (.if_icmp .ge 20, 3) := by decide +kernel
theorem dX7_areLike_173 : decode cX7_areLike 173 = .ok (.iload_n 1, 1) := by decide +kernel
theorem dX7_areLike_174 : decode cX7_areLike 174 = .ok (.ifCond .eq 16, 3) := by decide +kernel
theorem dX7_areLike_177 : decode cX7_areLike 177 = .ok (.aload_n 0, 1) := by decide +kernel
theorem dX7_areLike_178 : decode cX7_areLike 178 = .ok (.iload_n 2, 1) := by decide +kernel
theorem dX7_areLike_179 : decode cX7_areLike 179 = .ok (.iload_n 3, 1) := by decide +kernel
theorem dX7_areLike_180 : decode cX7_areLike 180 = .ok (.invokevirtual 189, 3) := by decide +kernel
theorem dX7_areLike_183 : decode cX7_areLike 183 = .ok (.istore_n 1, 1) := by decide +kernel
theorem dX7_areLike_184 : decode cX7_areLike 184 = .ok (.iinc 3 1, 3) := by decide +kernel
theorem dX7_areLike_187 : decode cX7_areLike 187 = .ok (.goto (-19), 3) := by decide +kernel
theorem dX7_areLike_190 : decode cX7_areLike 190 = .ok (.iinc 2 1, 3) := by decide +kernel
theorem dX7_areLike_193 : decode cX7_areLike 193 = .ok (.goto (-36), 3) := by decide +kernel
theorem dX7_areLike_196 : decode cX7_areLike 196 = .ok (.iload_n 1, 1) := by decide +kernel
theorem dX7_areLike_197 : decode cX7_areLike 197 = .ok (.ireturn, 1) := by decide +kernel
set_option maxRecDepth 20000 in
theorem ggX7_held_X7_play : GoodIn wsX7_held wsX7_play := goodIn_r _ [10, 11, 12, 3, 13, 14, 15, 16, 17, 18, 19, 20, 21, 22, 23, 24, 9, 25, 26, 27, 28, 29, 30, 31, 32, 33, 34, 35, 36, 37, 38, 39, 2, 40, 41, 42, 43, 44, 45, 46, 47, 48, 49, 50, 51, 1, 52, 53, 54, 55, 56, 57, 58, 59, 60, 61, 62, 63, 89, 90, 91, 92, 93, 94, 95, 96, 97, 98, 99, 100, 101, 102, 103, 104, 105, 106, 107, 108, 109, 110, 111, 112, 113, 114, 115, 116, 117, 118, 119, 120, 121, 122, 123, 124, 125, 126, 127, 128, 129, 130] (by decide +kernel) (by decide +kernel)
set_option maxRecDepth 20000 in
theorem gX7_held_X7_play : GoodIn wsX7_held (wsV RX7 171 RX7 yX7_play wsX7_play) := goodIn_app (goodIn_of _ (by decide +kernel)) ggX7_held_X7_play
set_option maxRecDepth 20000 in
theorem ggX7_held_X7_areLike : GoodIn wsX7_held wsX7_areLike := goodIn_r _ [67, 3, 13, 14, 18, 52, 53, 54, 68, 69, 70, 9, 71, 72, 73, 74, 75, 76, 77, 78, 17, 45, 79, 80, 81, 82, 46, 83, 84, 85, 86, 87, 44, 88, 89, 90, 91, 92, 93, 94, 95, 96, 97, 98, 99, 100, 101, 102, 103, 104, 105, 106, 107, 108, 109, 110, 111, 112, 113, 114, 115, 116, 117, 118, 119, 120, 121, 122, 123, 124, 125, 126, 127, 128, 129, 130] (by decide +kernel) (by decide +kernel)
set_option maxRecDepth 20000 in
theorem gX7_held_X7_areLike : GoodIn wsX7_held (wsV RX7 192 RX7 yX7_areLike wsX7_areLike) := goodIn_app (goodIn_of _ (by decide +kernel)) ggX7_held_X7_areLike
theorem dX7_held_0 : decode cX7_held 0 = .ok (.iconst 1, 1) := by decide +kernel
theorem dX7_held_1 : decode cX7_held 1 = .ok (.istore_n 3, 1) := by decide +kernel
theorem dX7_held_2 : decode cX7_held 2 = .ok (.aload_n 0, 1) := by decide +kernel
theorem dX7_held_3 : decode cX7_held 3 = .ok (.iconst 0, 1) := by decide +kernel
theorem dX7_held_4 : decode cX7_held 4 = .ok (.putfield 139, 3) := by decide +kernel
theorem dX7_held_7 : decode cX7_held 7 = .ok (.iconst 0, 1) := by decide +kernel
theorem dX7_held_8 : decode cX7_held 8 = .ok (.istore 4, 2) := by decide +kernel
theorem dX7_held_10 : decode cX7_held 10 = .ok (.iload 4, 2) := by decide +kernel
theorem dX7_held_12 : decode cX7_held 12 = .ok (.aload_n 0, 1) := by decide +kernel
theorem dX7_held_13 : decode cX7_held 13 = .ok (.getfield 107, 3) := by decide +kernel
theorem dX7_held_16 : decode cX7_held 16 = .ok (.if_icmp .gt 95, 3) := by decide +kernel
theorem dX7_held_19 : decode cX7_held 19 = .ok (.iconst 0, 1) := by decide +kernel
theorem dX7_held_20 : decode cX7_held 20 = .ok (.istore 5, 2) := by decide +kernel
theorem dX7_held_22 : decode cX7_held 22 = .ok (.iload 5, 2) := by decide +kernel
theorem dX7_held_24 : decode cX7_held 24 = .ok (.aload_n 0, 1) := by decide +kernel
theorem dX7_held_25 : decode cX7_held 25 = .ok (.getfield 107, 3) := by decide +kernel
theorem dX7_held_28 : decode cX7_held 28 = .ok (.if_icmp .gt 77, 3) := by decide +kernel
theorem dX7_held_31 : decode cX7_held 31 = .ok (.aload_n 0, 1) := by decide +kernel
theorem dX7_held_32 : decode cX7_held 32 = .ok (.iconst 1, 1) := by decide +kernel
theorem dX7_held_33 : decode cX7_held 33 = .ok (.iconst 0, 1) := by decide +kernel
theorem dX7_held_34 : decode cX7_held 34 = .ok (.iload_n 1, 1) := by decide +kernel
theorem dX7_held_35 : decode cX7_held 35 = .ok (.iload 4, 2) := by decide +kernel
theorem dX7_held_37 : decode cX7_held 37 = .ok (.iload 5, 2) := by decide +kernel
theorem dX7_held_39 : decode cX7_held 39 = .ok (.invokevirtual 171, 3) := by decide +kernel
theorem dX7_held_42 : decode cX7_held 42 = .ok (.aload_n 0, 1) := by decide +kernel
theorem dX7_held_43 : decode cX7_held 43 = .ok (.iconst 2, 1) := by decide +kernel
theorem dX7_held_44 : decode cX7_held 44 = .ok (.iconst 1, 1) := by decide +kernel
theorem dX7_held_45 : decode cX7_held 45 = .ok (.iload_n 2, 1) := by decide +kernel
theorem dX7_held_46 : decode cX7_held 46 = .ok (.iload 4, 2) := by decide +kernel
theorem dX7_held_48 : decode cX7_held 48 = .ok (.iload 5, 2) := by decide +kernel
theorem dX7_held_50 : decode cX7_held 50 = .ok (.invokevirtual 171, 3) := by decide +kernel
theorem dX7_held_53 : decode cX7_held 53 = .ok (.aload_n 0, 1) := by decide +kernel
theorem dX7_held_54 : decode cX7_held 54 = .ok (.getfield 52, 3) := by decide +kernel
theorem dX7_held_57 : decode cX7_held 57 = .ok (.iconst 1, 1) := by decide +kernel
theorem dX7_held_58 : decode cX7_held 58 = .ok (.iaload, 1) := by decide +kernel
theorem dX7_held_59 : decode cX7_held 59 = .ok (.iconst 2, 1) := by decide +kernel
theorem dX7_held_60 : decode cX7_held 60 = .ok (.if_icmp .eq 13, 3) := by decide +kernel
theorem dX7_held_63 : decode cX7_held 63 = .ok (.aload_n 0, 1) := by decide +kernel
theorem dX7_held_64 : decode cX7_held 64 = .ok (.getfield 52, 3) := by decide +kernel
theorem dX7_held_67 : decode cX7_held 67 = .ok (.iconst 2, 1) := by decide +kernel
theorem dX7_held_68 : decode cX7_held 68 = .ok (.iaload, 1) := by decide +kernel
theorem dX7_held_69 : decode cX7_held 69 = .ok (.iconst 2, 1) := by decide +kernel
theorem dX7_held_70 : decode cX7_held 70 = .ok (.if_icmp .ne 8, 3) := by decide +kernel
theorem dX7_held_73 : decode cX7_held 73 = .ok (.iconst 2, 1) := by decide +kernel
theorem dX7_held_74 : decode cX7_held 74 = .ok (.istore_n 3, 1) := by decide +kernel
theorem dX7_held_75 : decode cX7_held 75 = .ok (.goto 24, 3) := by decide +kernel
theorem dX7_held_78 : decode cX7_held 78 = .ok (.aload_n 0, 1) := by decide +kernel
theorem dX7_held_79 : decode cX7_held 79 = .ok (.invokevirtual 192, 3) := by decide +kernel
theorem dX7_held_82 : decode cX7_held 82 = .ok (.ifCond .ne 17, 3) := by decide +kernel
theorem dX7_held_85 : decode cX7_held 85 = .ok (.aload_n 0, 1) := by decide +kernel
theorem dX7_held_86 : decode cX7_held 86 = .ok (.iload 4, 2) := by decide +kernel
theorem dX7_held_88 : decode cX7_held 88 = .ok (.putfield 196, 3) := by decide +kernel
theorem dX7_held_91 : decode cX7_held 91 = .ok (.aload_n 0, 1) := by decide +kernel
theorem dX7_held_92 : decode cX7_held 92 = .ok (.iload 5, 2) := by decide +kernel
theorem dX7_held_94 : decode cX7_held 94 = .ok (.putfield 199, 3) := by decide +kernel
theorem dX7_held_97 : decode cX7_held 97 = .ok (.iconst 0, 1) := by decide +kernel
theorem dX7_held_98 : decode cX7_held 98 = .ok (.ireturn, 1) := by decide +kernel
theorem dX7_held_99 : decode cX7_held 99 = .ok (.iinc 5 1, 3) := by decide +kernel
theorem dX7_held_102 : decode cX7_held 102 = .ok (.goto (-80), 3) := by decide +kernel
theorem dX7_held_105 : decode cX7_held 105 = .ok (.iinc 4 1, 3) := by decide +kernel
theorem dX7_held_108 : decode cX7_held 108 = .ok (.goto (-98), 3) := by decide +kernel
theorem dX7_held_111 : decode cX7_held 111 = .ok (.iload_n 3, 1) := by decide +kernel
theorem dX7_held_112 : decode cX7_held 112 = .ok (.ireturn, 1) := by decide +kernel
set_option maxRecDepth 20000 in
theorem ggX7_hold_X7_isMethod : GoodIn wsX7_hold wsX7_isMethod := goodIn_r _ [9, 10, 11, 12, 8, 13, 102, 103, 104, 105, 106, 107, 108, 109, 110, 111, 112, 113, 114, 115, 116, 117, 118, 119, 120, 121, 122, 123, 124, 125, 126, 127, 128, 129, 130, 131, 132, 133, 134, 135, 136, 137, 138, 139, 140, 141, 142, 143] (by decide +kernel) (by decide +kernel)
set_option maxRecDepth 20000 in
theorem gX7_hold_X7_isMethod : GoodIn wsX7_hold (wsV RX7 121 RX7 yX7_isMethod wsX7_isMethod) := goodIn_app (goodIn_of _ (by decide +kernel)) ggX7_hold_X7_isMethod
set_option maxRecDepth 20000 in
theorem ggX7_hold_X7_held : GoodIn wsX7_hold wsX7_held := goodIn_r _ [17, 18, 19, 20, 1, 3, 21, 22, 23, 8, 24, 25, 26, 27, 28, 29, 30, 31, 32, 33, 34, 35, 36, 37, 38, 39, 40, 41, 42, 43, 44, 45, 46, 47, 48, 49, 50, 51, 52, 53, 54, 55, 56, 57, 58, 59, 60, 61, 62, 63, 64, 10, 65, 66, 67, 68, 69, 70, 71, 72, 73, 74, 75, 76, 77, 78, 79, 80, 81, 82, 83, 84, 85, 86, 87, 88, 89, 90, 91, 92, 93, 94, 95, 96, 97, 98, 99, 100, 101, 102, 103, 104, 105, 106, 107, 108, 109, 110, 111, 112, 113, 114, 115, 116, 117, 118, 119, 120, 121, 122, 123, 124, 125, 126, 127, 128, 129, 130, 131, 132, 133, 134, 135, 136, 137, 138, 139, 140, 141, 142, 143] (by decide +kernel) (by decide +kernel)
set_option maxRecDepth 20000 in
theorem gX7_hold_X7_held : GoodIn wsX7_hold (wsV RX7 202 RX7 yX7_held wsX7_held) := goodIn_app (goodIn_of _ (by decide +kernel)) ggX7_hold_X7_held
theorem dX7_hold_0 : decode cX7_hold 0 = .ok (.aload_n 0, 1) := by decide +kernel
theorem dX7_hold_1 : decode cX7_hold 1 = .ok (.iconst 0, 1) := by decide +kernel
theorem dX7_hold_2 : decode cX7_hold 2 = .ok (.iload_n 1, 1) := by decide +kernel
theorem dX7_hold_3 : decode cX7_hold 3 = .ok (.invokevirtual 121, 3) := by decide +kernel
theorem dX7_hold_6 : decode cX7_hold 6 = .ok (.ifCond .eq 12, 3) := by decide +kernel
theorem dX7_hold_9 : decode cX7_hold 9 = .ok (.aload_n 0, 1) := by decide +kernel
theorem dX7_hold_10 : decode cX7_hold 10 = .ok (.iconst 1, 1) := by decide +kernel
theorem dX7_hold_11 : decode cX7_hold 11 = .ok (.iload_n 2, 1) := by decide +kernel
theorem dX7_hold_12 : decode cX7_hold 12 = .ok (.invokevirtual 121, 3) := by decide +kernel
theorem dX7_hold_15 : decode cX7_hold 15 = .ok (.ifCond .ne 6, 3) := by decide +kernel
theorem dX7_hold_18 : decode cX7_hold 18 = .ok (.bipush (-101), 2) := by decide +kernel
theorem dX7_hold_20 : decode cX7_hold 20 = .ok (.ireturn, 1) := by decide +kernel
theorem dX7_hold_21 : decode cX7_hold 21 = .ok (.aload_n 0, 1) := by decide +kernel
theorem dX7_hold_22 : decode cX7_hold 22 = .ok (.iload_n 1, 1) := by decide +kernel
theorem dX7_hold_23 : decode cX7_hold 23 = .ok (.iload_n 2, 1) := by decide +kernel
theorem dX7_hold_24 : decode cX7_hold 24 = .ok (.invokevirtual 202, 3) := by decide +kernel
theorem dX7_hold_27 : decode cX7_hold 27 = .ok (.istore_n 3, 1) := by decide +kernel
theorem dX7_hold_28 : decode cX7_hold 28 = .ok (.aload_n 0, 1) := by decide +kernel
theorem dX7_hold_29 : decode cX7_hold 29 = .ok (.iload_n 3, 1) := by decide +kernel
theorem dX7_hold_30 : decode cX7_hold 30 = .ok (.ifCond .ne 10, 3) := by decide +kernel
theorem dX7_hold_33 : decode cX7_hold 33 = .ok (.aload_n 0, 1) := by decide +kernel
theorem dX7_hold_34 : decode cX7_hold 34 = .ok (.getfield 196, 3) := by decide +kernel
theorem dX7_hold_37 : decode cX7_hold 37 = .ok (.goto 4, 3) := by decide +kernel
theorem dX7_hold_40 : decode cX7_hold 40 = .ok (.iconst (-1), 1) := by decide +kernel
theorem dX7_hold_41 : decode cX7_hold 41 = .ok (.putfield 91, 3) := by decide +kernel
theorem dX7_hold_44 : decode cX7_hold 44 = .ok (.aload_n 0, 1) := by decide +kernel
theorem dX7_hold_45 : decode cX7_hold 45 = .ok (.iload_n 3, 1) := by decide +kernel
theorem dX7_hold_46 : decode cX7_hold 46 = .ok (.ifCond .ne 10, 3) := by decide +kernel
theorem dX7_hold_49 : decode cX7_hold 49 = .ok (.aload_n 0, 1) := by decide +kernel
theorem dX7_hold_50 : decode cX7_hold 50 = .ok (.getfield 199, 3) := by decide +kernel
theorem dX7_hold_53 : decode cX7_hold 53 = .ok (.goto 4, 3) := by decide +kernel
theorem dX7_hold_56 : decode cX7_hold 56 = .ok (.iconst (-1), 1) := by decide +kernel
theorem dX7_hold_57 : decode cX7_hold 57 = .ok (.putfield 95, 3) := by decide +kernel
theorem dX7_hold_60 : decode cX7_hold 60 = .ok (.iload_n 3, 1) := by decide +kernel
theorem dX7_hold_61 : decode cX7_hold 61 = .ok (.ireturn, 1) := by decide +kernel
theorem dX7_first_0 : decode cX7_first 0 = .ok (.iload_n 1, 1) := by decide +kernel
theorem dX7_first_1 : decode cX7_first 1 = .ok (.ifCond .ne 10, 3) := by decide +kernel
theorem dX7_first_4 : decode cX7_first 4 = .ok (.aload_n 0, 1) := by decide +kernel
theorem dX7_first_5 : decode cX7_first 5 = .ok (.getfield 91, 3) := by decide +kernel
theorem dX7_first_8 : decode cX7_first 8 = .ok (.goto 17, 3) := by decide +kernel
theorem dX7_first_11 : decode cX7_first 11 = .ok (.iload_n 1, 1) := by decide +kernel
theorem dX7_first_12 : decode cX7_first 12 = .ok (.iconst 1, 1) := by decide +kernel
theorem dX7_first_13 : decode cX7_first 13 = .ok (.if_icmp .ne 10, 3) := by decide +kernel
theorem dX7_first_16 : decode cX7_first 16 = .ok (.aload_n 0, 1) := by decide +kernel
theorem dX7_first_17 : decode cX7_first 17 = .ok (.getfield 95, 3) := by decide +kernel
theorem dX7_first_20 : decode cX7_first 20 = .ok (.goto 5, 3) := by decide +kernel
theorem dX7_first_23 : decode cX7_first 23 = .ok (.bipush (-101), 2) := by decide +kernel
theorem dX7_first_25 : decode cX7_first 25 = .ok (.ireturn, 1) := by decide +kernel
set_option maxRecDepth 20000 in
theorem ggX7_match_X7_isMethod : GoodIn wsX7_match wsX7_isMethod := goodIn_r _ [6, 1, 7, 8, 5, 9, 100, 101, 102, 103, 104, 105, 106, 107, 108, 109, 110, 111, 112, 113, 114, 115, 116, 117, 118, 119, 120, 121, 122, 123, 124, 125, 126, 127, 128, 129, 130, 131, 132, 133, 134, 135, 136, 137, 138, 139, 140, 141] (by decide +kernel) (by decide +kernel)
set_option maxRecDepth 20000 in
theorem gX7_match_X7_isMethod : GoodIn wsX7_match (wsV RX7 121 RX7 yX7_isMethod wsX7_isMethod) := goodIn_app (goodIn_of _ (by decide +kernel)) ggX7_match_X7_isMethod
set_option maxRecDepth 20000 in
theorem ggX7_match_X7_held : GoodIn wsX7_match wsX7_held := goodIn_r _ [13, 14, 15, 16, 17, 18, 19, 20, 21, 5, 22, 23, 24, 25, 26, 27, 28, 29, 30, 31, 32, 33, 34, 35, 36, 37, 38, 39, 40, 41, 42, 43, 44, 45, 46, 47, 48, 49, 50, 51, 52, 53, 54, 55, 56, 57, 58, 59, 60, 61, 62, 1, 63, 64, 65, 66, 67, 68, 69, 70, 71, 72, 73, 74, 75, 76, 77, 78, 79, 80, 81, 82, 83, 84, 85, 86, 87, 88, 89, 90, 91, 92, 93, 94, 95, 96, 97, 98, 99, 100, 101, 102, 103, 104, 105, 106, 107, 108, 109, 110, 111, 112, 113, 114, 115, 116, 117, 118, 119, 120, 121, 122, 123, 124, 125, 126, 127, 128, 129, 130, 131, 132, 133, 134, 135, 136, 137, 138, 139, 140, 141] (by decide +kernel) (by decide +kernel)
set_option maxRecDepth 20000 in
theorem gX7_match_X7_held : GoodIn wsX7_match (wsV RX7 202 RX7 yX7_held wsX7_held) := goodIn_app (goodIn_of _ (by decide +kernel)) ggX7_match_X7_held
theorem dX7_match_0 : decode cX7_match 0 = .ok (.aload_n 0, 1) := by decide +kernel
theorem dX7_match_1 : decode cX7_match 1 = .ok (.iconst 0, 1) := by decide +kernel
theorem dX7_match_2 : decode cX7_match 2 = .ok (.iload_n 1, 1) := by decide +kernel
theorem dX7_match_3 : decode cX7_match 3 = .ok (.invokevirtual 121, 3) := by decide +kernel
theorem dX7_match_6 : decode cX7_match 6 = .ok (.ifCond .ne 6, 3) := by decide +kernel
theorem dX7_match_9 : decode cX7_match 9 = .ok (.bipush (-101), 2) := by decide +kernel
theorem dX7_match_11 : decode cX7_match 11 = .ok (.ireturn, 1) := by decide +kernel
theorem dX7_match_12 : decode cX7_match 12 = .ok (.iconst 0, 1) := by decide +kernel
theorem dX7_match_13 : decode cX7_match 13 = .ok (.istore_n 2, 1) := by decide +kernel
theorem dX7_match_14 : decode cX7_match 14 = .ok (.iload_n 2, 1) := by decide +kernel
theorem dX7_match_15 : decode cX7_match 15 = .ok (.aload_n 0, 1) := by decide +kernel
theorem dX7_match_16 : decode cX7_match 16 = .ok (.getfield 7, 3) := by decide +kernel
theorem dX7_match_19 : decode cX7_match 19 = .ok (.iconst 1, 1) := by decide +kernel
theorem dX7_match_20 : decode cX7_match 20 = .ok (.iaload, 1) := by decide +kernel
theorem dX7_match_21 : decode cX7_match 21 = .ok (.if_icmp .ge 21, 3) := by decide +kernel
theorem dX7_match_24 : decode cX7_match 24 = .ok (.aload_n 0, 1) := by decide +kernel
theorem dX7_match_25 : decode cX7_match 25 = .ok (.iload_n 1, 1) := by decide +kernel
theorem dX7_match_26 : decode cX7_match 26 = .ok (.iload_n 2, 1) := by decide +kernel
theorem dX7_match_27 : decode cX7_match 27 = .ok (.invokevirtual 202, 3) := by decide +kernel
theorem dX7_match_30 : decode cX7_match 30 = .ok (.iconst 1, 1) := by decide +kernel
theorem dX7_match_31 : decode cX7_match 31 = .ok (.if_icmp .ne 5, 3) := by decide +kernel
theorem dX7_match_34 : decode cX7_match 34 = .ok (.iload_n 2, 1) := by decide +kernel
theorem dX7_match_35 : decode cX7_match 35 = .ok (.ireturn, 1) := by decide +kernel
theorem dX7_match_36 : decode cX7_match 36 = .ok (.iinc 2 1, 3) := by decide +kernel
theorem dX7_match_39 : decode cX7_match 39 = .ok (.goto (-25), 3) := by decide +kernel
theorem dX7_match_42 : decode cX7_match 42 = .ok (.iconst (-1), 1) := by decide +kernel
theorem dX7_match_43 : decode cX7_match 43 = .ok (.ireturn, 1) := by decide +kernel
theorem dX7_renames_0 : decode cX7_renames 0 = .ok (.iconst 0, 1) := by decide +kernel
theorem dX7_renames_1 : decode cX7_renames 1 = .ok (.istore_n 2, 1) := by decide +kernel
theorem dX7_renames_2 : decode cX7_renames 2 = .ok (.iconst 0, 1) := by decide +kernel
theorem dX7_renames_3 : decode cX7_renames 3 = .ok (.istore_n 3, 1) := by decide +kernel
theorem dX7_renames_4 : decode cX7_renames 4 = .ok (.iload_n 3, 1) := by decide +kernel
theorem dX7_renames_5 : decode cX7_renames 5 = .ok (.iconst 4, 1) := by decide +kernel
theorem dX7_renames_6 : decode cX7_renames 6 = .ok (.if_icmp .ge 36, 3) := by decide +kernel
theorem dX7_renames_9 : decode cX7_renames 9 = .ok (.aload_n 0, 1) := by decide +kernel
theorem dX7_renames_10 : decode cX7_renames 10 = .ok (.getfield 28, 3) := by decide +kernel
theorem dX7_renames_13 : decode cX7_renames 13 = .ok (.iload_n 3, 1) := by decide +kernel
theorem dX7_renames_14 : decode cX7_renames 14 = .ok (.iload_n 1, 1) := by decide +kernel
theorem dX7_renames_15 : decode cX7_renames 15 = .ok (.bipush 6, 2) := by decide +kernel
theorem dX7_renames_17 : decode cX7_renames 17 = .ok (.iconst 2, 1) := by decide +kernel
theorem dX7_renames_18 : decode cX7_renames 18 = .ok (.iload_n 3, 1) := by decide +kernel
theorem dX7_renames_19 : decode cX7_renames 19 = .ok (.imul, 1) := by decide +kernel
theorem dX7_renames_20 : decode cX7_renames 20 = .ok (.isub, 1) := by decide +kernel
theorem dX7_renames_21 : decode cX7_renames 21 = .ok (.ishr, 1) := by decide +kernel
theorem dX7_renames_22 : decode cX7_renames 22 = .ok (.iconst 3, 1) := by decide +kernel
theorem dX7_renames_23 : decode cX7_renames 23 = .ok (.iand, 1) := by decide +kernel
theorem dX7_renames_24 : decode cX7_renames 24 = .ok (.iastore, 1) := by decide +kernel
theorem dX7_renames_25 : decode cX7_renames 25 = .ok (.iload_n 2, 1) := by decide +kernel
theorem dX7_renames_26 : decode cX7_renames 26 = .ok (.iconst 1, 1) := by decide +kernel
theorem dX7_renames_27 : decode cX7_renames 27 = .ok (.aload_n 0, 1) := by decide +kernel
theorem dX7_renames_28 : decode cX7_renames 28 = .ok (.getfield 28, 3) := by decide +kernel
theorem dX7_renames_31 : decode cX7_renames 31 = .ok (.iload_n 3, 1) := by decide +kernel
theorem dX7_renames_32 : decode cX7_renames 32 = .ok (.iaload, 1) := by decide +kernel
theorem dX7_renames_33 : decode cX7_renames 33 = .ok (.ishl, 1) := by decide +kernel
theorem dX7_renames_34 : decode cX7_renames 34 = .ok (.ior, 1) := by decide +kernel
theorem dX7_renames_35 : decode cX7_renames 35 = .ok (.istore_n 2, 1) := by decide +kernel
theorem dX7_renames_36 : decode cX7_renames 36 = .ok (.iinc 3 1, 3) := by decide +kernel
theorem dX7_renames_39 : decode cX7_renames 39 = .ok (.goto (-35), 3) := by decide +kernel
theorem dX7_renames_42 : decode cX7_renames 42 = .ok (.iload_n 2, 1) := by decide +kernel
theorem dX7_renames_43 : decode cX7_renames 43 = .ok (.bipush 15, 2) := by decide +kernel
theorem dX7_renames_45 : decode cX7_renames 45 = .ok (.if_icmp .ne 7, 3) := by decide +kernel
theorem dX7_renames_48 : decode cX7_renames 48 = .ok (.iconst 1, 1) := by decide +kernel
theorem dX7_renames_49 : decode cX7_renames 49 = .ok (.goto 4, 3) := by decide +kernel
theorem dX7_renames_52 : decode cX7_renames 52 = .ok (.iconst 0, 1) := by decide +kernel
theorem dX7_renames_53 : decode cX7_renames 53 = .ok (.ireturn, 1) := by decide +kernel
set_option maxRecDepth 20000 in
theorem ggX7_find_X7_isMethod : GoodIn wsX7_find wsX7_isMethod := goodIn_r _ [7, 8, 9, 10, 6, 11, 105, 106, 107, 108, 109, 110, 111, 112, 113, 114, 115, 116, 117, 118, 119, 120, 121, 122, 123, 124, 125, 126, 127, 128, 129, 130, 131, 132, 133, 134, 135, 136, 137, 138, 139, 140, 141, 142, 143, 144, 145, 146] (by decide +kernel) (by decide +kernel)
set_option maxRecDepth 20000 in
theorem gX7_find_X7_isMethod : GoodIn wsX7_find (wsV RX7 121 RX7 yX7_isMethod wsX7_isMethod) := goodIn_app (goodIn_of _ (by decide +kernel)) ggX7_find_X7_isMethod
set_option maxRecDepth 20000 in
theorem ggX7_find_X7_renames : GoodIn wsX7_find wsX7_renames := goodIn_r _ [15, 2, 105, 106, 107, 108, 109, 110, 111, 112, 113, 114, 115, 116, 117, 118, 119, 120, 121, 122, 123, 124, 125, 126, 127, 128, 129, 130, 131, 132, 133, 134, 135, 136, 137, 138, 139, 140, 141, 142, 143, 144, 145, 146] (by decide +kernel) (by decide +kernel)
set_option maxRecDepth 20000 in
theorem gX7_find_X7_renames : GoodIn wsX7_find (wsV RX7 206 RX7 yX7_renames wsX7_renames) := goodIn_app (goodIn_of _ (by decide +kernel)) ggX7_find_X7_renames
set_option maxRecDepth 20000 in
theorem ggX7_find_X7_held : GoodIn wsX7_find wsX7_held := goodIn_r _ [19, 20, 21, 22, 23, 24, 25, 26, 27, 6, 28, 29, 30, 31, 32, 33, 34, 35, 36, 37, 38, 39, 40, 41, 42, 43, 44, 45, 46, 47, 48, 49, 50, 51, 52, 53, 54, 55, 56, 57, 58, 59, 60, 61, 62, 63, 64, 65, 66, 67, 68, 8, 69, 70, 71, 72, 73, 74, 75, 76, 77, 78, 79, 80, 81, 82, 83, 84, 85, 86, 87, 88, 89, 90, 91, 92, 93, 94, 95, 96, 97, 98, 99, 100, 101, 102, 103, 104, 2, 105, 106, 107, 108, 109, 110, 111, 112, 113, 114, 115, 116, 117, 118, 119, 120, 121, 122, 123, 124, 125, 126, 127, 128, 129, 130, 131, 132, 133, 134, 135, 136, 137, 138, 139, 140, 141, 142, 143, 144, 145, 146] (by decide +kernel) (by decide +kernel)
set_option maxRecDepth 20000 in
theorem gX7_find_X7_held : GoodIn wsX7_find (wsV RX7 202 RX7 yX7_held wsX7_held) := goodIn_app (goodIn_of _ (by decide +kernel)) ggX7_find_X7_held
theorem dX7_find_0 : decode cX7_find 0 = .ok (.aload_n 0, 1) := by decide +kernel
theorem dX7_find_1 : decode cX7_find 1 = .ok (.iconst 0, 1) := by decide +kernel
theorem dX7_find_2 : decode cX7_find 2 = .ok (.iload_n 1, 1) := by decide +kernel
theorem dX7_find_3 : decode cX7_find 3 = .ok (.invokevirtual 121, 3) := by decide +kernel
theorem dX7_find_6 : decode cX7_find 6 = .ok (.ifCond .eq 12, 3) := by decide +kernel
theorem dX7_find_9 : decode cX7_find 9 = .ok (.aload_n 0, 1) := by decide +kernel
theorem dX7_find_10 : decode cX7_find 10 = .ok (.iconst 1, 1) := by decide +kernel
theorem dX7_find_11 : decode cX7_find 11 = .ok (.iload_n 2, 1) := by decide +kernel
theorem dX7_find_12 : decode cX7_find 12 = .ok (.invokevirtual 121, 3) := by decide +kernel
theorem dX7_find_15 : decode cX7_find 15 = .ok (.ifCond .ne 6, 3) := by decide +kernel
theorem dX7_find_18 : decode cX7_find 18 = .ok (.bipush (-101), 2) := by decide +kernel
theorem dX7_find_20 : decode cX7_find 20 = .ok (.ireturn, 1) := by decide +kernel
theorem dX7_find_21 : decode cX7_find 21 = .ok (.iconst 0, 1) := by decide +kernel
theorem dX7_find_22 : decode cX7_find 22 = .ok (.istore_n 3, 1) := by decide +kernel
theorem dX7_find_23 : decode cX7_find 23 = .ok (.iload_n 3, 1) := by decide +kernel
theorem dX7_find_24 : decode cX7_find 24 = .ok (.iconst 4, 1) := by decide +kernel
theorem dX7_find_25 : decode cX7_find 25 = .ok (.if_icmp .ge 21, 3) := by decide +kernel
theorem dX7_find_28 : decode cX7_find 28 = .ok (.aload_n 0, 1) := by decide +kernel
theorem dX7_find_29 : decode cX7_find 29 = .ok (.getfield 98, 3) := by decide +kernel
theorem dX7_find_32 : decode cX7_find 32 = .ok (.iload_n 3, 1) := by decide +kernel
theorem dX7_find_33 : decode cX7_find 33 = .ok (.aload_n 0, 1) := by decide +kernel
theorem dX7_find_34 : decode cX7_find 34 = .ok (.getfield 28, 3) := by decide +kernel
theorem dX7_find_37 : decode cX7_find 37 = .ok (.iload_n 3, 1) := by decide +kernel
theorem dX7_find_38 : decode cX7_find 38 = .ok (.iaload, 1) := by decide +kernel
theorem dX7_find_39 : decode cX7_find 39 = .ok (.iastore, 1) := by decide +kernel
theorem dX7_find_40 : decode cX7_find 40 = .ok (.iinc 3 1, 3) := by decide +kernel
theorem dX7_find_43 : decode cX7_find 43 = .ok (.goto (-20), 3) := by decide +kernel
theorem dX7_find_46 : decode cX7_find 46 = .ok (.iconst (-1), 1) := by decide +kernel
theorem dX7_find_47 : decode cX7_find 47 = .ok (.istore_n 3, 1) := by decide +kernel
theorem dX7_find_48 : decode cX7_find 48 = .ok (.iconst 0, 1) := by decide +kernel
theorem dX7_find_49 : decode cX7_find 49 = .ok (.istore 4, 2) := by decide +kernel
theorem dX7_find_51 : decode cX7_find 51 = .ok (.iload 4, 2) := by decide +kernel
theorem dX7_find_53 : decode cX7_find 53 = .ok (.sipush 256, 3) := by decide +kernel
theorem dX7_find_56 : decode cX7_find 56 = .ok (.if_icmp .ge 71, 3) := by decide +kernel
theorem dX7_find_59 : decode cX7_find 59 = .ok (.iload_n 3, 1) := by decide +kernel
theorem dX7_find_60 : decode cX7_find 60 = .ok (.iconst (-1), 1) := by decide +kernel
theorem dX7_find_61 : decode cX7_find 61 = .ok (.if_icmp .ne 66, 3) := by decide +kernel
theorem dX7_find_64 : decode cX7_find 64 = .ok (.aload_n 0, 1) := by decide +kernel
theorem dX7_find_65 : decode cX7_find 65 = .ok (.iload 4, 2) := by decide +kernel
theorem dX7_find_67 : decode cX7_find 67 = .ok (.invokevirtual 206, 3) := by decide +kernel
theorem dX7_find_70 : decode cX7_find 70 = .ok (.ifCond .eq 51, 3) := by decide +kernel
theorem dX7_find_73 : decode cX7_find 73 = .ok (.aload_n 0, 1) := by decide +kernel
theorem dX7_find_74 : decode cX7_find 74 = .ok (.iload_n 1, 1) := by decide +kernel
theorem dX7_find_75 : decode cX7_find 75 = .ok (.iload_n 2, 1) := by decide +kernel
theorem dX7_find_76 : decode cX7_find 76 = .ok (.invokevirtual 202, 3) := by decide +kernel
theorem dX7_find_79 : decode cX7_find 79 = .ok (.iconst 1, 1) := by decide +kernel
theorem dX7_find_80 : decode cX7_find 80 = .ok (.if_icmp .ne 41, 3) := by decide +kernel
theorem dX7_find_83 : decode cX7_find 83 = .ok (.sipush 1000, 3) := by decide +kernel
theorem dX7_find_86 : decode cX7_find 86 = .ok (.aload_n 0, 1) := by decide +kernel
theorem dX7_find_87 : decode cX7_find 87 = .ok (.getfield 28, 3) := by decide +kernel
theorem dX7_find_90 : decode cX7_find 90 = .ok (.iconst 0, 1) := by decide +kernel
theorem dX7_find_91 : decode cX7_find 91 = .ok (.iaload, 1) := by decide +kernel
theorem dX7_find_92 : decode cX7_find 92 = .ok (.imul, 1) := by decide +kernel
theorem dX7_find_93 : decode cX7_find 93 = .ok (.bipush 100, 2) := by decide +kernel
theorem dX7_find_95 : decode cX7_find 95 = .ok (.aload_n 0, 1) := by decide +kernel
theorem dX7_find_96 : decode cX7_find 96 = .ok (.getfield 28, 3) := by decide +kernel
theorem dX7_find_99 : decode cX7_find 99 = .ok (.iconst 1, 1) := by decide +kernel
theorem dX7_find_100 : decode cX7_find 100 = .ok (.iaload, 1) := by decide +kernel
theorem dX7_find_101 : decode cX7_find 101 = .ok (.imul, 1) := by decide +kernel
theorem dX7_find_102 : decode cX7_find 102 = .ok (.iadd, 1) := by decide +kernel
theorem dX7_find_103 : decode cX7_find 103 = .ok (.bipush 10, 2) := by decide +kernel
theorem dX7_find_105 : decode cX7_find 105 = .ok (.aload_n 0, 1) := by decide +kernel
theorem dX7_find_106 : decode cX7_find 106 = .ok (.getfield 28, 3) := by decide +kernel
theorem dX7_find_109 : decode cX7_find 109 = .ok (.iconst 2, 1) := by decide +kernel
theorem dX7_find_110 : decode cX7_find 110 = .ok (.iaload, 1) := by decide +kernel
theorem dX7_find_111 : decode cX7_find 111 = .ok (.imul, 1) := by decide +kernel
theorem dX7_find_112 : decode cX7_find 112 = .ok (.iadd, 1) := by decide +kernel
theorem dX7_find_113 : decode cX7_find 113 = .ok (.aload_n 0, 1) := by decide +kernel
theorem dX7_find_114 : decode cX7_find 114 = .ok (.getfield 28, 3) := by decide +kernel
theorem dX7_find_117 : decode cX7_find 117 = .ok (.iconst 3, 1) := by decide +kernel
theorem dX7_find_118 : decode cX7_find 118 = .ok (.iaload, 1) := by decide +kernel
theorem dX7_find_119 : decode cX7_find 119 = .ok (.iadd, 1) := by decide +kernel
theorem dX7_find_120 : decode cX7_find 120 = .ok (.istore_n 3, 1) := by decide +kernel
theorem dX7_find_121 : decode cX7_find 121 = .ok (.iinc 4 1, 3) := by decide +kernel
theorem dX7_find_124 : decode cX7_find 124 = .ok (.goto (-73), 3) := by decide +kernel
theorem dX7_find_127 : decode cX7_find 127 = .ok (.iconst 0, 1) := by decide +kernel
theorem dX7_find_128 : decode cX7_find 128 = .ok (.istore 4, 2) := by decide +kernel
theorem dX7_find_130 : decode cX7_find 130 = .ok (.iload 4, 2) := by decide +kernel
theorem dX7_find_132 : decode cX7_find 132 = .ok (.iconst 4, 1) := by decide +kernel
theorem dX7_find_133 : decode cX7_find 133 = .ok (.if_icmp .ge 23, 3) := by decide +kernel
theorem dX7_find_136 : decode cX7_find 136 = .ok (.aload_n 0, 1) := by decide +kernel
theorem dX7_find_137 : decode cX7_find 137 = .ok (.getfield 28, 3) := by decide +kernel
theorem dX7_find_140 : decode cX7_find 140 = .ok (.iload 4, 2) := by decide +kernel
theorem dX7_find_142 : decode cX7_find 142 = .ok (.aload_n 0, 1) := by decide +kernel
theorem dX7_find_143 : decode cX7_find 143 = .ok (.getfield 98, 3) := by decide +kernel
theorem dX7_find_146 : decode cX7_find 146 = .ok (.iload 4, 2) := by decide +kernel
theorem dX7_find_148 : decode cX7_find 148 = .ok (.iaload, 1) := by decide +kernel
theorem dX7_find_149 : decode cX7_find 149 = .ok (.iastore, 1) := by decide +kernel
theorem dX7_find_150 : decode cX7_find 150 = .ok (.iinc 4 1, 3) := by decide +kernel
theorem dX7_find_153 : decode cX7_find 153 = .ok (.goto (-23), 3) := by decide +kernel
theorem dX7_find_156 : decode cX7_find 156 = .ok (.iload_n 3, 1) := by decide +kernel
theorem dX7_find_157 : decode cX7_find 157 = .ok (.ireturn, 1) := by decide +kernel
set_option maxRecDepth 20000 in
theorem ggX7_assume_X7_isMethod : GoodIn wsX7_assume wsX7_isMethod := goodIn_r _ [8, 9, 10, 11, 7, 12, 17, 18, 19, 20, 21, 22, 23, 24, 25, 26, 27, 28, 29, 30, 31, 32, 33, 34, 35, 36, 37, 38, 39, 40, 41, 42, 43, 44, 45, 46, 47, 48, 49, 50, 51, 52, 53, 54, 55, 56, 57, 58] (by decide +kernel) (by decide +kernel)
set_option maxRecDepth 20000 in
theorem gX7_assume_X7_isMethod : GoodIn wsX7_assume (wsV RX7 121 RX7 yX7_isMethod wsX7_isMethod) := goodIn_app (goodIn_of _ (by decide +kernel)) ggX7_assume_X7_isMethod
set_option maxRecDepth 20000 in
theorem ggX7_assume_X7_isPair : GoodIn wsX7_assume wsX7_isPair := goodIn_r _ [16, 1, 2, 3, 17, 18, 19, 20, 21, 22, 23, 24, 25, 26, 27, 28, 29, 30, 31, 32, 33, 34, 35, 36, 37, 38, 39, 40, 41, 42, 43, 44, 45, 46, 47, 48, 49, 50, 51, 52, 53, 54, 55, 56, 57, 58] (by decide +kernel) (by decide +kernel)
set_option maxRecDepth 20000 in
theorem gX7_assume_X7_isPair : GoodIn wsX7_assume (wsV RX7 186 RX7 yX7_isPair wsX7_isPair) := goodIn_app (goodIn_of _ (by decide +kernel)) ggX7_assume_X7_isPair
theorem dX7_assume_0 : decode cX7_assume 0 = .ok (.aload_n 0, 1) := by decide +kernel
theorem dX7_assume_1 : decode cX7_assume 1 = .ok (.iconst 0, 1) := by decide +kernel
theorem dX7_assume_2 : decode cX7_assume 2 = .ok (.iload_n 1, 1) := by decide +kernel
theorem dX7_assume_3 : decode cX7_assume 3 = .ok (.invokevirtual 121, 3) := by decide +kernel
theorem dX7_assume_6 : decode cX7_assume 6 = .ok (.ifCond .eq 12, 3) := by decide +kernel
theorem dX7_assume_9 : decode cX7_assume 9 = .ok (.aload_n 0, 1) := by decide +kernel
theorem dX7_assume_10 : decode cX7_assume 10 = .ok (.iconst 1, 1) := by decide +kernel
theorem dX7_assume_11 : decode cX7_assume 11 = .ok (.iload_n 2, 1) := by decide +kernel
theorem dX7_assume_12 : decode cX7_assume 12 = .ok (.invokevirtual 121, 3) := by decide +kernel
theorem dX7_assume_15 : decode cX7_assume 15 = .ok (.ifCond .ne 6, 3) := by decide +kernel
theorem dX7_assume_18 : decode cX7_assume 18 = .ok (.bipush (-101), 2) := by decide +kernel
theorem dX7_assume_20 : decode cX7_assume 20 = .ok (.ireturn, 1) := by decide +kernel
theorem dX7_assume_21 : decode cX7_assume 21 = .ok (.aload_n 0, 1) := by decide +kernel
theorem dX7_assume_22 : decode cX7_assume 22 = .ok (.iload_n 1, 1) := by decide +kernel
theorem dX7_assume_23 : decode cX7_assume 23 = .ok (.iload_n 2, 1) := by decide +kernel
theorem dX7_assume_24 : decode cX7_assume 24 = .ok (.invokevirtual 186, 3) := by decide +kernel
theorem dX7_assume_27 : decode cX7_assume 27 = .ok (.ifCond .eq 6, 3) := by decide +kernel
theorem dX7_assume_30 : decode cX7_assume 30 = .ok (.bipush (-103), 2) := by decide +kernel
theorem dX7_assume_32 : decode cX7_assume 32 = .ok (.ireturn, 1) := by decide +kernel
theorem dX7_assume_33 : decode cX7_assume 33 = .ok (.aload_n 0, 1) := by decide +kernel
theorem dX7_assume_34 : decode cX7_assume 34 = .ok (.getfield 183, 3) := by decide +kernel
theorem dX7_assume_37 : decode cX7_assume 37 = .ok (.bipush 6, 2) := by decide +kernel
theorem dX7_assume_39 : decode cX7_assume 39 = .ok (.if_icmp .ne 6, 3) := by decide +kernel
theorem dX7_assume_42 : decode cX7_assume 42 = .ok (.bipush (-104), 2) := by decide +kernel
theorem dX7_assume_44 : decode cX7_assume 44 = .ok (.ireturn, 1) := by decide +kernel
theorem dX7_assume_45 : decode cX7_assume 45 = .ok (.aload_n 0, 1) := by decide +kernel
theorem dX7_assume_46 : decode cX7_assume 46 = .ok (.getfield 34, 3) := by decide +kernel
theorem dX7_assume_49 : decode cX7_assume 49 = .ok (.aload_n 0, 1) := by decide +kernel
theorem dX7_assume_50 : decode cX7_assume 50 = .ok (.getfield 183, 3) := by decide +kernel
theorem dX7_assume_53 : decode cX7_assume 53 = .ok (.iload_n 1, 1) := by decide +kernel
theorem dX7_assume_54 : decode cX7_assume 54 = .ok (.iastore, 1) := by decide +kernel
theorem dX7_assume_55 : decode cX7_assume 55 = .ok (.aload_n 0, 1) := by decide +kernel
theorem dX7_assume_56 : decode cX7_assume 56 = .ok (.getfield 37, 3) := by decide +kernel
theorem dX7_assume_59 : decode cX7_assume 59 = .ok (.aload_n 0, 1) := by decide +kernel
theorem dX7_assume_60 : decode cX7_assume 60 = .ok (.getfield 183, 3) := by decide +kernel
theorem dX7_assume_63 : decode cX7_assume 63 = .ok (.iload_n 2, 1) := by decide +kernel
theorem dX7_assume_64 : decode cX7_assume 64 = .ok (.iastore, 1) := by decide +kernel
theorem dX7_assume_65 : decode cX7_assume 65 = .ok (.aload_n 0, 1) := by decide +kernel
theorem dX7_assume_66 : decode cX7_assume 66 = .ok (.dup, 1) := by decide +kernel
theorem dX7_assume_67 : decode cX7_assume 67 = .ok (.getfield 183, 3) := by decide +kernel
theorem dX7_assume_70 : decode cX7_assume 70 = .ok (.iconst 1, 1) := by decide +kernel
theorem dX7_assume_71 : decode cX7_assume 71 = .ok (.iadd, 1) := by decide +kernel
theorem dX7_assume_72 : decode cX7_assume 72 = .ok (.putfield 183, 3) := by decide +kernel
theorem dX7_assume_75 : decode cX7_assume 75 = .ok (.aload_n 0, 1) := by decide +kernel
theorem dX7_assume_76 : decode cX7_assume 76 = .ok (.getfield 183, 3) := by decide +kernel
theorem dX7_assume_79 : decode cX7_assume 79 = .ok (.iconst 1, 1) := by decide +kernel
theorem dX7_assume_80 : decode cX7_assume 80 = .ok (.isub, 1) := by decide +kernel
theorem dX7_assume_81 : decode cX7_assume 81 = .ok (.ireturn, 1) := by decide +kernel
theorem dX7_drop_0 : decode cX7_drop 0 = .ok (.aload_n 0, 1) := by decide +kernel
theorem dX7_drop_1 : decode cX7_drop 1 = .ok (.getfield 183, 3) := by decide +kernel
theorem dX7_drop_4 : decode cX7_drop 4 = .ok (.istore_n 1, 1) := by decide +kernel
theorem dX7_drop_5 : decode cX7_drop 5 = .ok (.aload_n 0, 1) := by decide +kernel
theorem dX7_drop_6 : decode cX7_drop 6 = .ok (.iconst 0, 1) := by decide +kernel
theorem dX7_drop_7 : decode cX7_drop 7 = .ok (.putfield 183, 3) := by decide +kernel
theorem dX7_drop_10 : decode cX7_drop 10 = .ok (.iload_n 1, 1) := by decide +kernel
theorem dX7_drop_11 : decode cX7_drop 11 = .ok (.ireturn, 1) := by decide +kernel
set_option maxRecDepth 20000 in
theorem ggX7_walks_X7_play : GoodIn wsX7_walks wsX7_play := goodIn_r _ [8, 9, 10, 3, 11, 12, 13, 14, 15, 16, 17, 18, 19, 20, 21, 22, 7, 23, 24, 25, 26, 27, 28, 29, 30, 31, 32, 33, 34, 35, 36, 37, 38, 39, 40, 41, 42, 43, 44, 45, 46, 47, 48, 49, 50, 51, 52, 53, 54, 55, 56, 57, 58, 59, 60, 61, 62, 63, 87, 88, 89, 90, 91, 92, 93, 94, 95, 96, 97, 98, 99, 100, 101, 102, 103, 104, 105, 106, 107, 108, 109, 110, 111, 112, 113, 114, 115, 116, 117, 118, 119, 120, 121, 122, 123, 124, 125, 126, 127, 128] (by decide +kernel) (by decide +kernel)
set_option maxRecDepth 20000 in
theorem gX7_walks_X7_play : GoodIn wsX7_walks (wsV RX7 171 RX7 yX7_play wsX7_play) := goodIn_app (goodIn_of _ (by decide +kernel)) ggX7_walks_X7_play
set_option maxRecDepth 20000 in
theorem ggX7_walks_X7_areLike : GoodIn wsX7_walks wsX7_areLike := goodIn_r _ [67, 3, 11, 12, 16, 52, 53, 54, 68, 69, 70, 7, 71, 72, 1, 2, 73, 74, 75, 76, 15, 44, 77, 78, 79, 80, 45, 81, 82, 83, 84, 85, 43, 86, 87, 88, 89, 90, 91, 92, 93, 94, 95, 96, 97, 98, 99, 100, 101, 102, 103, 104, 105, 106, 107, 108, 109, 110, 111, 112, 113, 114, 115, 116, 117, 118, 119, 120, 121, 122, 123, 124, 125, 126, 127, 128] (by decide +kernel) (by decide +kernel)
set_option maxRecDepth 20000 in
theorem gX7_walks_X7_areLike : GoodIn wsX7_walks (wsV RX7 192 RX7 yX7_areLike wsX7_areLike) := goodIn_app (goodIn_of _ (by decide +kernel)) ggX7_walks_X7_areLike
theorem dX7_walks_0 : decode cX7_walks 0 = .ok (.aload_n 0, 1) := by decide +kernel
theorem dX7_walks_1 : decode cX7_walks 1 = .ok (.iconst 1, 1) := by decide +kernel
theorem dX7_walks_2 : decode cX7_walks 2 = .ok (.iconst 0, 1) := by decide +kernel
theorem dX7_walks_3 : decode cX7_walks 3 = .ok (.aload_n 0, 1) := by decide +kernel
theorem dX7_walks_4 : decode cX7_walks 4 = .ok (.getfield 34, 3) := by decide +kernel
theorem dX7_walks_7 : decode cX7_walks 7 = .ok (.iload_n 1, 1) := by decide +kernel
theorem dX7_walks_8 : decode cX7_walks 8 = .ok (.iaload, 1) := by decide +kernel
theorem dX7_walks_9 : decode cX7_walks 9 = .ok (.iload_n 2, 1) := by decide +kernel
theorem dX7_walks_10 : decode cX7_walks 10 = .ok (.iload_n 3, 1) := by decide +kernel
theorem dX7_walks_11 : decode cX7_walks 11 = .ok (.invokevirtual 171, 3) := by decide +kernel
theorem dX7_walks_14 : decode cX7_walks 14 = .ok (.aload_n 0, 1) := by decide +kernel
theorem dX7_walks_15 : decode cX7_walks 15 = .ok (.iconst 2, 1) := by decide +kernel
theorem dX7_walks_16 : decode cX7_walks 16 = .ok (.iconst 1, 1) := by decide +kernel
theorem dX7_walks_17 : decode cX7_walks 17 = .ok (.aload_n 0, 1) := by decide +kernel
theorem dX7_walks_18 : decode cX7_walks 18 = .ok (.getfield 37, 3) := by decide +kernel
theorem dX7_walks_21 : decode cX7_walks 21 = .ok (.iload_n 1, 1) := by decide +kernel
theorem dX7_walks_22 : decode cX7_walks 22 = .ok (.iaload, 1) := by decide +kernel
theorem dX7_walks_23 : decode cX7_walks 23 = .ok (.iload_n 2, 1) := by decide +kernel
theorem dX7_walks_24 : decode cX7_walks 24 = .ok (.iload_n 3, 1) := by decide +kernel
theorem dX7_walks_25 : decode cX7_walks 25 = .ok (.invokevirtual 171, 3) := by decide +kernel
theorem dX7_walks_28 : decode cX7_walks 28 = .ok (.aload_n 0, 1) := by decide +kernel
theorem dX7_walks_29 : decode cX7_walks 29 = .ok (.getfield 52, 3) := by decide +kernel
theorem dX7_walks_32 : decode cX7_walks 32 = .ok (.iconst 1, 1) := by decide +kernel
theorem dX7_walks_33 : decode cX7_walks 33 = .ok (.iaload, 1) := by decide +kernel
theorem dX7_walks_34 : decode cX7_walks 34 = .ok (.iconst 2, 1) := by decide +kernel
theorem dX7_walks_35 : decode cX7_walks 35 = .ok (.if_icmp .eq 13, 3) := by decide +kernel
theorem dX7_walks_38 : decode cX7_walks 38 = .ok (.aload_n 0, 1) := by decide +kernel
theorem dX7_walks_39 : decode cX7_walks 39 = .ok (.getfield 52, 3) := by decide +kernel
theorem dX7_walks_42 : decode cX7_walks 42 = .ok (.iconst 2, 1) := by decide +kernel
theorem dX7_walks_43 : decode cX7_walks 43 = .ok (.iaload, 1) := by decide +kernel
theorem dX7_walks_44 : decode cX7_walks 44 = .ok (.iconst 2, 1) := by decide +kernel
theorem dX7_walks_45 : decode cX7_walks 45 = .ok (.if_icmp .ne 7, 3) := by decide +kernel
theorem dX7_walks_48 : decode cX7_walks 48 = .ok (.iconst 2, 1) := by decide +kernel
theorem dX7_walks_49 : decode cX7_walks 49 = .ok (.goto 15, 3) := by decide +kernel
theorem dX7_walks_52 : decode cX7_walks 52 = .ok (.aload_n 0, 1) := by decide +kernel
theorem dX7_walks_53 : decode cX7_walks 53 = .ok (.invokevirtual 192, 3) := by decide +kernel
theorem dX7_walks_56 : decode cX7_walks 56 = .ok (.ifCond .eq 7, 3) := by decide +kernel
theorem dX7_walks_59 : decode cX7_walks 59 = .ok (.iconst 1, 1) := by decide +kernel
theorem dX7_walks_60 : decode cX7_walks 60 = .ok (.goto 4, 3) := by decide +kernel
theorem dX7_walks_63 : decode cX7_walks 63 = .ok (.iconst 0, 1) := by decide +kernel
theorem dX7_walks_64 : decode cX7_walks 64 = .ok (.ireturn, 1) := by decide +kernel
theorem dX7_tells_0 : decode cX7_tells 0 = .ok (.aload_n 0, 1) := by decide +kernel
theorem dX7_tells_1 : decode cX7_tells 1 = .ok (.getfield 101, 3) := by decide +kernel
theorem dX7_tells_4 : decode cX7_tells 4 = .ok (.iconst 0, 1) := by decide +kernel
theorem dX7_tells_5 : decode cX7_tells 5 = .ok (.iload_n 1, 1) := by decide +kernel
theorem dX7_tells_6 : decode cX7_tells 6 = .ok (.iastore, 1) := by decide +kernel
theorem dX7_tells_7 : decode cX7_tells 7 = .ok (.aload_n 0, 1) := by decide +kernel
theorem dX7_tells_8 : decode cX7_tells 8 = .ok (.getfield 101, 3) := by decide +kernel
theorem dX7_tells_11 : decode cX7_tells 11 = .ok (.iconst 1, 1) := by decide +kernel
theorem dX7_tells_12 : decode cX7_tells 12 = .ok (.iload_n 2, 1) := by decide +kernel
theorem dX7_tells_13 : decode cX7_tells 13 = .ok (.iastore, 1) := by decide +kernel
theorem dX7_tells_14 : decode cX7_tells 14 = .ok (.aload_n 0, 1) := by decide +kernel
theorem dX7_tells_15 : decode cX7_tells 15 = .ok (.getfield 101, 3) := by decide +kernel
theorem dX7_tells_18 : decode cX7_tells 18 = .ok (.iconst 2, 1) := by decide +kernel
theorem dX7_tells_19 : decode cX7_tells 19 = .ok (.iload_n 3, 1) := by decide +kernel
theorem dX7_tells_20 : decode cX7_tells 20 = .ok (.iastore, 1) := by decide +kernel
theorem dX7_tells_21 : decode cX7_tells 21 = .ok (.aload_n 0, 1) := by decide +kernel
theorem dX7_tells_22 : decode cX7_tells 22 = .ok (.getfield 101, 3) := by decide +kernel
theorem dX7_tells_25 : decode cX7_tells 25 = .ok (.iconst 3, 1) := by decide +kernel
theorem dX7_tells_26 : decode cX7_tells 26 = .ok (.aload_n 0, 1) := by decide +kernel
theorem dX7_tells_27 : decode cX7_tells 27 = .ok (.getfield 147, 3) := by decide +kernel
theorem dX7_tells_30 : decode cX7_tells 30 = .ok (.iastore, 1) := by decide +kernel
theorem dX7_tells_31 : decode cX7_tells 31 = .ok (.aload_n 0, 1) := by decide +kernel
theorem dX7_tells_32 : decode cX7_tells 32 = .ok (.getfield 101, 3) := by decide +kernel
theorem dX7_tells_35 : decode cX7_tells 35 = .ok (.iconst 4, 1) := by decide +kernel
theorem dX7_tells_36 : decode cX7_tells 36 = .ok (.aload_n 0, 1) := by decide +kernel
theorem dX7_tells_37 : decode cX7_tells 37 = .ok (.getfield 150, 3) := by decide +kernel
theorem dX7_tells_40 : decode cX7_tells 40 = .ok (.iastore, 1) := by decide +kernel
theorem dX7_tells_41 : decode cX7_tells 41 = .ok (.aload_n 0, 1) := by decide +kernel
theorem dX7_tells_42 : decode cX7_tells 42 = .ok (.iconst 1, 1) := by decide +kernel
theorem dX7_tells_43 : decode cX7_tells 43 = .ok (.putfield 209, 3) := by decide +kernel
theorem dX7_tells_46 : decode cX7_tells 46 = .ok (.return_, 1) := by decide +kernel
set_option maxRecDepth 20000 in
theorem ggX7_proved_X7_walks : GoodIn wsX7_proved wsX7_walks := goodIn_r _ [8, 9, 10, 11, 12, 13, 14, 7, 15, 16, 17, 18, 19, 20, 21, 22, 23, 24, 25, 26, 27, 28, 29, 30, 31, 32, 33, 34, 35, 36, 37, 38, 39, 40, 41, 42, 43, 44, 1, 45, 46, 47, 48, 49, 50, 51, 52, 53, 54, 55, 56, 57, 58, 59, 60, 2, 3, 61, 62, 63, 64, 65, 66, 67, 68, 69, 70, 71, 72, 73, 74, 75, 76, 77, 78, 79, 80, 81, 82, 83, 84, 85, 86, 87, 88, 89, 90, 97, 98, 99, 100, 101, 102, 103, 104, 105, 106, 107, 108, 109, 110, 111, 112, 113, 114, 115, 116, 117, 118, 119, 120, 121, 122, 123, 124, 125, 126, 127, 128, 129, 130, 131, 132, 133, 134, 135, 136, 137, 138] (by decide +kernel) (by decide +kernel)
set_option maxRecDepth 20000 in
theorem gX7_proved_X7_walks : GoodIn wsX7_proved (wsV RX7 212 RX7 yX7_walks wsX7_walks) := goodIn_app (goodIn_of _ (by decide +kernel)) ggX7_proved_X7_walks
set_option maxRecDepth 20000 in
theorem ggX7_proved_X7_tells : GoodIn wsX7_proved wsX7_tells := goodIn_r _ [94, 95, 2, 3, 96, 97, 98, 99, 100, 101, 102, 103, 104, 105, 106, 107, 108, 109, 110, 111, 112, 113, 114, 115, 116, 117, 118, 119, 120, 121, 122, 123, 124, 125, 126, 127, 128, 129, 130, 131, 132, 133, 134, 135, 136, 137, 138] (by decide +kernel) (by decide +kernel)
set_option maxRecDepth 20000 in
theorem gX7_proved_X7_tells : GoodIn wsX7_proved (wsV RX7 215 RX7 yX7_tells wsX7_tells) := goodIn_app (goodIn_of _ (by decide +kernel)) ggX7_proved_X7_tells
theorem dX7_proved_0 : decode cX7_proved 0 = .ok (.iload_n 2, 1) := by decide +kernel
theorem dX7_proved_1 : decode cX7_proved 1 = .ok (.istore_n 3, 1) := by decide +kernel
theorem dX7_proved_2 : decode cX7_proved 2 = .ok (.iconst 0, 1) := by decide +kernel
theorem dX7_proved_3 : decode cX7_proved 3 = .ok (.istore 4, 2) := by decide +kernel
theorem dX7_proved_5 : decode cX7_proved 5 = .ok (.iload 4, 2) := by decide +kernel
theorem dX7_proved_7 : decode cX7_proved 7 = .ok (.aload_n 0, 1) := by decide +kernel
theorem dX7_proved_8 : decode cX7_proved 8 = .ok (.getfield 107, 3) := by decide +kernel
theorem dX7_proved_11 : decode cX7_proved 11 = .ok (.if_icmp .gt 135, 3) := by decide +kernel
theorem dX7_proved_14 : decode cX7_proved 14 = .ok (.iconst 0, 1) := by decide +kernel
theorem dX7_proved_15 : decode cX7_proved 15 = .ok (.istore 5, 2) := by decide +kernel
theorem dX7_proved_17 : decode cX7_proved 17 = .ok (.iload 5, 2) := by decide +kernel
theorem dX7_proved_19 : decode cX7_proved 19 = .ok (.aload_n 0, 1) := by decide +kernel
theorem dX7_proved_20 : decode cX7_proved 20 = .ok (.getfield 107, 3) := by decide +kernel
theorem dX7_proved_23 : decode cX7_proved 23 = .ok (.if_icmp .gt 117, 3) := by decide +kernel
theorem dX7_proved_26 : decode cX7_proved 26 = .ok (.aload_n 0, 1) := by decide +kernel
theorem dX7_proved_27 : decode cX7_proved 27 = .ok (.iconst 0, 1) := by decide +kernel
theorem dX7_proved_28 : decode cX7_proved 28 = .ok (.putfield 147, 3) := by decide +kernel
theorem dX7_proved_31 : decode cX7_proved 31 = .ok (.aload_n 0, 1) := by decide +kernel
theorem dX7_proved_32 : decode cX7_proved 32 = .ok (.getfield 147, 3) := by decide +kernel
theorem dX7_proved_35 : decode cX7_proved 35 = .ok (.aload_n 0, 1) := by decide +kernel
theorem dX7_proved_36 : decode cX7_proved 36 = .ok (.getfield 107, 3) := by decide +kernel
theorem dX7_proved_39 : decode cX7_proved 39 = .ok (.iconst 1, 1) := by decide +kernel
theorem dX7_proved_40 : decode cX7_proved 40 = .ok (.iadd, 1) := by decide +kernel
theorem dX7_proved_41 : decode cX7_proved 41 = .ok (.if_icmp .gt 93, 3) := by decide +kernel
theorem dX7_proved_44 : decode cX7_proved 44 = .ok (.aload_n 0, 1) := by decide +kernel
theorem dX7_proved_45 : decode cX7_proved 45 = .ok (.iconst 0, 1) := by decide +kernel
theorem dX7_proved_46 : decode cX7_proved 46 = .ok (.putfield 150, 3) := by decide +kernel
theorem dX7_proved_49 : decode cX7_proved 49 = .ok (.aload_n 0, 1) := by decide +kernel
theorem dX7_proved_50 : decode cX7_proved 50 = .ok (.getfield 150, 3) := by decide +kernel
theorem dX7_proved_53 : decode cX7_proved 53 = .ok (.aload_n 0, 1) := by decide +kernel
theorem dX7_proved_54 : decode cX7_proved 54 = .ok (.getfield 107, 3) := by decide +kernel
theorem dX7_proved_57 : decode cX7_proved 57 = .ok (.iconst 1, 1) := by decide +kernel
theorem dX7_proved_58 : decode cX7_proved 58 = .ok (.iadd, 1) := by decide +kernel
theorem dX7_proved_59 : decode cX7_proved 59 = .ok (.if_icmp .gt 62, 3) := by decide +kernel
theorem dX7_proved_62 : decode cX7_proved 62 = .ok (.aload_n 0, 1) := by decide +kernel
theorem dX7_proved_63 : decode cX7_proved 63 = .ok (.iload_n 1, 1) := by decide +kernel
theorem dX7_proved_64 : decode cX7_proved 64 = .ok (.iload 4, 2) := by decide +kernel
theorem dX7_proved_66 : decode cX7_proved 66 = .ok (.iload 5, 2) := by decide +kernel
theorem dX7_proved_68 : decode cX7_proved 68 = .ok (.invokevirtual 212, 3) := by decide +kernel
theorem dX7_proved_71 : decode cX7_proved 71 = .ok (.istore 6, 2) := by decide +kernel
theorem dX7_proved_73 : decode cX7_proved 73 = .ok (.iload 6, 2) := by decide +kernel
theorem dX7_proved_75 : decode cX7_proved 75 = .ok (.ifCond .eq 14, 3) := by decide +kernel
theorem dX7_proved_78 : decode cX7_proved 78 = .ok (.iload 6, 2) := by decide +kernel
theorem dX7_proved_80 : decode cX7_proved 80 = .ok (.iconst 2, 1) := by decide +kernel
theorem dX7_proved_81 : decode cX7_proved 81 = .ok (.if_icmp .ne 20, 3) := by decide +kernel
theorem dX7_proved_84 : decode cX7_proved 84 = .ok (.iload_n 3, 1) := by decide +kernel
theorem dX7_proved_85 : decode cX7_proved 85 = .ok (.iconst 1, 1) := by decide +kernel
theorem dX7_proved_86 : decode cX7_proved 86 = .ok (.if_icmp .ne 15, 3) := by decide +kernel
theorem dX7_proved_89 : decode cX7_proved 89 = .ok (.aload_n 0, 1) := by decide +kernel
theorem dX7_proved_90 : decode cX7_proved 90 = .ok (.iload_n 1, 1) := by decide +kernel
theorem dX7_proved_91 : decode cX7_proved 91 = .ok (.iload 4, 2) := by decide +kernel
theorem dX7_proved_93 : decode cX7_proved 93 = .ok (.iload 5, 2) := by decide +kernel
theorem dX7_proved_95 : decode cX7_proved 95 = .ok (.invokevirtual 215, 3) := by decide +kernel
theorem dX7_proved_98 : decode cX7_proved 98 = .ok (.iload 6, 2) := by decide +kernel
theorem dX7_proved_100 : decode cX7_proved 100 = .ok (.istore_n 3, 1) := by decide +kernel
theorem dX7_proved_101 : decode cX7_proved 101 = .ok (.iload 6, 2) := by decide +kernel
theorem dX7_proved_103 : decode cX7_proved 103 = .ok (.ifCond .ne 5, 3) := by decide +kernel
theorem dX7_proved_106 : decode cX7_proved 106 = .ok (.iconst 0, 1) := by decide +kernel
theorem dX7_proved_107 : decode cX7_proved 107 = .ok (.ireturn, 1) := by decide +kernel
theorem dX7_proved_108 : decode cX7_proved 108 = .ok (.aload_n 0, 1) := by decide +kernel
theorem dX7_proved_109 : decode cX7_proved 109 = .ok (.dup, 1) := by decide +kernel
theorem dX7_proved_110 : decode cX7_proved 110 = .ok (.getfield 150, 3) := by decide +kernel
theorem dX7_proved_113 : decode cX7_proved 113 = .ok (.iconst 1, 1) := by decide +kernel
theorem dX7_proved_114 : decode cX7_proved 114 = .ok (.iadd, 1) := by decide +kernel
theorem dX7_proved_115 : decode cX7_proved 115 = .ok (.putfield 150, 3) := by decide +kernel
theorem dX7_proved_118 : decode cX7_proved 118 = .ok (.goto (-69), 3) := by decide +kernel
theorem dX7_proved_121 : decode cX7_proved 121 = .ok (.aload_n 0, 1) := by decide +kernel
theorem dX7_proved_122 : decode cX7_proved 122 = .ok (.dup, 1) := by decide +kernel
theorem dX7_proved_123 : decode cX7_proved 123 = .ok (.getfield 147, 3) := by decide +kernel
theorem dX7_proved_126 : decode cX7_proved 126 = .ok (.iconst 1, 1) := by decide +kernel
theorem dX7_proved_127 : decode cX7_proved 127 = .ok (.iadd, 1) := by decide +kernel
theorem dX7_proved_128 : decode cX7_proved 128 = .ok (.putfield 147, 3) := by decide +kernel
theorem dX7_proved_131 : decode cX7_proved 131 = .ok (.goto (-100), 3) := by decide +kernel
theorem dX7_proved_134 : decode cX7_proved 134 = .ok (.iinc 5 1, 3) := by decide +kernel
theorem dX7_proved_137 : decode cX7_proved 137 = .ok (.goto (-120), 3) := by decide +kernel
theorem dX7_proved_140 : decode cX7_proved 140 = .ok (.iinc 4 1, 3) := by decide +kernel
theorem dX7_proved_143 : decode cX7_proved 143 = .ok (.goto (-138), 3) := by decide +kernel
theorem dX7_proved_146 : decode cX7_proved 146 = .ok (.iload_n 3, 1) := by decide +kernel
theorem dX7_proved_147 : decode cX7_proved 147 = .ok (.ireturn, 1) := by decide +kernel
set_option maxRecDepth 20000 in
theorem ggX7_prove_X7_proved : GoodIn wsX7_prove wsX7_proved := goodIn_r _ [8, 9, 10, 11, 12, 13, 14, 7, 15, 16, 17, 18, 19, 20, 21, 22, 23, 24, 25, 26, 27, 28, 29, 30, 31, 32, 33, 34, 35, 36, 37, 38, 39, 40, 41, 42, 43, 44, 45, 46, 47, 48, 49, 50, 51, 52, 53, 54, 55, 56, 57, 58, 59, 60, 61, 62, 63, 3, 64, 65, 66, 67, 68, 69, 70, 71, 72, 73, 74, 75, 76, 77, 78, 79, 80, 81, 2, 82, 83, 84, 85, 86, 87, 88, 89, 90, 91, 92, 93, 94, 95, 96, 97, 98, 99, 100, 1, 101, 102, 103, 104, 105, 106, 107, 108, 109, 110, 111, 112, 113, 114, 115, 116, 117, 118, 119, 120, 121, 122, 123, 124, 125, 126, 127, 128, 129, 130, 131, 132, 133, 134, 135, 136, 137, 138, 139, 140, 141, 142] (by decide +kernel) (by decide +kernel)
set_option maxRecDepth 20000 in
theorem gX7_prove_X7_proved : GoodIn wsX7_prove (wsV RX7 217 RX7 yX7_proved wsX7_proved) := goodIn_app (goodIn_of _ (by decide +kernel)) ggX7_prove_X7_proved
theorem dX7_prove_0 : decode cX7_prove 0 = .ok (.aload_n 0, 1) := by decide +kernel
theorem dX7_prove_1 : decode cX7_prove 1 = .ok (.iconst 0, 1) := by decide +kernel
theorem dX7_prove_2 : decode cX7_prove 2 = .ok (.putfield 209, 3) := by decide +kernel
theorem dX7_prove_5 : decode cX7_prove 5 = .ok (.aload_n 0, 1) := by decide +kernel
theorem dX7_prove_6 : decode cX7_prove 6 = .ok (.getfield 183, 3) := by decide +kernel
theorem dX7_prove_9 : decode cX7_prove 9 = .ok (.ifCond .ne 5, 3) := by decide +kernel
theorem dX7_prove_12 : decode cX7_prove 12 = .ok (.iconst (-1), 1) := by decide +kernel
theorem dX7_prove_13 : decode cX7_prove 13 = .ok (.ireturn, 1) := by decide +kernel
theorem dX7_prove_14 : decode cX7_prove 14 = .ok (.aload_n 0, 1) := by decide +kernel
theorem dX7_prove_15 : decode cX7_prove 15 = .ok (.iconst 1, 1) := by decide +kernel
theorem dX7_prove_16 : decode cX7_prove 16 = .ok (.putfield 139, 3) := by decide +kernel
theorem dX7_prove_19 : decode cX7_prove 19 = .ok (.iconst 1, 1) := by decide +kernel
theorem dX7_prove_20 : decode cX7_prove 20 = .ok (.istore_n 1, 1) := by decide +kernel
theorem dX7_prove_21 : decode cX7_prove 21 = .ok (.iconst 0, 1) := by decide +kernel
theorem dX7_prove_22 : decode cX7_prove 22 = .ok (.istore_n 2, 1) := by decide +kernel
theorem dX7_prove_23 : decode cX7_prove 23 = .ok (.iload_n 2, 1) := by decide +kernel
theorem dX7_prove_24 : decode cX7_prove 24 = .ok (.aload_n 0, 1) := by decide +kernel
theorem dX7_prove_25 : decode cX7_prove 25 = .ok (.getfield 183, 3) := by decide +kernel
theorem dX7_prove_28 : decode cX7_prove 28 = .ok (.if_icmp .ge 20, 3) := by decide +kernel
theorem dX7_prove_31 : decode cX7_prove 31 = .ok (.iload_n 1, 1) := by decide +kernel
theorem dX7_prove_32 : decode cX7_prove 32 = .ok (.ifCond .eq 16, 3) := by decide +kernel
theorem dX7_prove_35 : decode cX7_prove 35 = .ok (.aload_n 0, 1) := by decide +kernel
theorem dX7_prove_36 : decode cX7_prove 36 = .ok (.iload_n 2, 1) := by decide +kernel
theorem dX7_prove_37 : decode cX7_prove 37 = .ok (.iload_n 1, 1) := by decide +kernel
theorem dX7_prove_38 : decode cX7_prove 38 = .ok (.invokevirtual 217, 3) := by decide +kernel
theorem dX7_prove_41 : decode cX7_prove 41 = .ok (.istore_n 1, 1) := by decide +kernel
theorem dX7_prove_42 : decode cX7_prove 42 = .ok (.iinc 2 1, 3) := by decide +kernel
theorem dX7_prove_45 : decode cX7_prove 45 = .ok (.goto (-22), 3) := by decide +kernel
theorem dX7_prove_48 : decode cX7_prove 48 = .ok (.iload_n 1, 1) := by decide +kernel
theorem dX7_prove_49 : decode cX7_prove 49 = .ok (.ireturn, 1) := by decide +kernel
set_option maxRecDepth 20000 in
theorem ggX7_why_X7_in : GoodIn wsX7_why wsX7_in := goodIn_r _ [6] (by decide +kernel) (by decide +kernel)
set_option maxRecDepth 20000 in
theorem gX7_why_X7_in : GoodIn wsX7_why (va_wsS RX7 110 yX7_in wsX7_in) := goodIn_app (goodIn_of _ (by decide +kernel)) ggX7_why_X7_in
theorem dX7_why_0 : decode cX7_why 0 = .ok (.iload_n 1, 1) := by decide +kernel
theorem dX7_why_1 : decode cX7_why 1 = .ok (.iconst 0, 1) := by decide +kernel
theorem dX7_why_2 : decode cX7_why 2 = .ok (.iconst 4, 1) := by decide +kernel
theorem dX7_why_3 : decode cX7_why 3 = .ok (.invokestatic 110, 3) := by decide +kernel
theorem dX7_why_6 : decode cX7_why 6 = .ok (.ifCond .ne 6, 3) := by decide +kernel
theorem dX7_why_9 : decode cX7_why 9 = .ok (.bipush (-101), 2) := by decide +kernel
theorem dX7_why_11 : decode cX7_why 11 = .ok (.ireturn, 1) := by decide +kernel
theorem dX7_why_12 : decode cX7_why 12 = .ok (.aload_n 0, 1) := by decide +kernel
theorem dX7_why_13 : decode cX7_why 13 = .ok (.getfield 209, 3) := by decide +kernel
theorem dX7_why_16 : decode cX7_why 16 = .ok (.ifCond .eq 12, 3) := by decide +kernel
theorem dX7_why_19 : decode cX7_why 19 = .ok (.aload_n 0, 1) := by decide +kernel
theorem dX7_why_20 : decode cX7_why 20 = .ok (.getfield 101, 3) := by decide +kernel
theorem dX7_why_23 : decode cX7_why 23 = .ok (.iload_n 1, 1) := by decide +kernel
theorem dX7_why_24 : decode cX7_why 24 = .ok (.iaload, 1) := by decide +kernel
theorem dX7_why_25 : decode cX7_why 25 = .ok (.goto 4, 3) := by decide +kernel
theorem dX7_why_28 : decode cX7_why 28 = .ok (.iconst (-1), 1) := by decide +kernel
theorem dX7_why_29 : decode cX7_why 29 = .ok (.ireturn, 1) := by decide +kernel
set_option maxRecDepth 20000 in
theorem ggX7_count_X7_in : GoodIn wsX7_count wsX7_in := goodIn_r _ [9] (by decide +kernel) (by decide +kernel)
set_option maxRecDepth 20000 in
theorem gX7_count_X7_in : GoodIn wsX7_count (va_wsS RX7 110 yX7_in wsX7_in) := goodIn_app (goodIn_of _ (by decide +kernel)) ggX7_count_X7_in
theorem dX7_count_0 : decode cX7_count 0 = .ok (.iload_n 1, 1) := by decide +kernel
theorem dX7_count_1 : decode cX7_count 1 = .ok (.iconst 4, 1) := by decide +kernel
theorem dX7_count_2 : decode cX7_count 2 = .ok (.bipush 7, 2) := by decide +kernel
theorem dX7_count_4 : decode cX7_count 4 = .ok (.invokestatic 110, 3) := by decide +kernel
theorem dX7_count_7 : decode cX7_count 7 = .ok (.ifCond .eq 12, 3) := by decide +kernel
theorem dX7_count_10 : decode cX7_count 10 = .ok (.aload_n 0, 1) := by decide +kernel
theorem dX7_count_11 : decode cX7_count 11 = .ok (.getfield 28, 3) := by decide +kernel
theorem dX7_count_14 : decode cX7_count 14 = .ok (.iload_n 1, 1) := by decide +kernel
theorem dX7_count_15 : decode cX7_count 15 = .ok (.iconst 4, 1) := by decide +kernel
theorem dX7_count_16 : decode cX7_count 16 = .ok (.isub, 1) := by decide +kernel
theorem dX7_count_17 : decode cX7_count 17 = .ok (.iaload, 1) := by decide +kernel
theorem dX7_count_18 : decode cX7_count 18 = .ok (.ireturn, 1) := by decide +kernel
theorem dX7_count_19 : decode cX7_count 19 = .ok (.iload_n 1, 1) := by decide +kernel
theorem dX7_count_20 : decode cX7_count 20 = .ok (.bipush 8, 2) := by decide +kernel
theorem dX7_count_22 : decode cX7_count 22 = .ok (.bipush 11, 2) := by decide +kernel
theorem dX7_count_24 : decode cX7_count 24 = .ok (.invokestatic 110, 3) := by decide +kernel
theorem dX7_count_27 : decode cX7_count 27 = .ok (.ifCond .eq 13, 3) := by decide +kernel
theorem dX7_count_30 : decode cX7_count 30 = .ok (.aload_n 0, 1) := by decide +kernel
theorem dX7_count_31 : decode cX7_count 31 = .ok (.getfield 31, 3) := by decide +kernel
theorem dX7_count_34 : decode cX7_count 34 = .ok (.iload_n 1, 1) := by decide +kernel
theorem dX7_count_35 : decode cX7_count 35 = .ok (.bipush 8, 2) := by decide +kernel
theorem dX7_count_37 : decode cX7_count 37 = .ok (.isub, 1) := by decide +kernel
theorem dX7_count_38 : decode cX7_count 38 = .ok (.iaload, 1) := by decide +kernel
theorem dX7_count_39 : decode cX7_count 39 = .ok (.ireturn, 1) := by decide +kernel
theorem dX7_count_40 : decode cX7_count 40 = .ok (.iload_n 1, 1) := by decide +kernel
theorem dX7_count_41 : decode cX7_count 41 = .ok (.ifCond .ne 12, 3) := by decide +kernel
theorem dX7_count_44 : decode cX7_count 44 = .ok (.aload_n 0, 1) := by decide +kernel
theorem dX7_count_45 : decode cX7_count 45 = .ok (.getfield 7, 3) := by decide +kernel
theorem dX7_count_48 : decode cX7_count 48 = .ok (.iconst 0, 1) := by decide +kernel
theorem dX7_count_49 : decode cX7_count 49 = .ok (.iaload, 1) := by decide +kernel
theorem dX7_count_50 : decode cX7_count 50 = .ok (.goto 43, 3) := by decide +kernel
theorem dX7_count_53 : decode cX7_count 53 = .ok (.iload_n 1, 1) := by decide +kernel
theorem dX7_count_54 : decode cX7_count 54 = .ok (.iconst 1, 1) := by decide +kernel
theorem dX7_count_55 : decode cX7_count 55 = .ok (.if_icmp .ne 12, 3) := by decide +kernel
theorem dX7_count_58 : decode cX7_count 58 = .ok (.aload_n 0, 1) := by decide +kernel
theorem dX7_count_59 : decode cX7_count 59 = .ok (.getfield 7, 3) := by decide +kernel
theorem dX7_count_62 : decode cX7_count 62 = .ok (.iconst 1, 1) := by decide +kernel
theorem dX7_count_63 : decode cX7_count 63 = .ok (.iaload, 1) := by decide +kernel
theorem dX7_count_64 : decode cX7_count 64 = .ok (.goto 29, 3) := by decide +kernel
theorem dX7_count_67 : decode cX7_count 67 = .ok (.iload_n 1, 1) := by decide +kernel
theorem dX7_count_68 : decode cX7_count 68 = .ok (.iconst 2, 1) := by decide +kernel
theorem dX7_count_69 : decode cX7_count 69 = .ok (.if_icmp .ne 10, 3) := by decide +kernel
theorem dX7_count_72 : decode cX7_count 72 = .ok (.aload_n 0, 1) := by decide +kernel
theorem dX7_count_73 : decode cX7_count 73 = .ok (.getfield 183, 3) := by decide +kernel
theorem dX7_count_76 : decode cX7_count 76 = .ok (.goto 17, 3) := by decide +kernel
theorem dX7_count_79 : decode cX7_count 79 = .ok (.iload_n 1, 1) := by decide +kernel
theorem dX7_count_80 : decode cX7_count 80 = .ok (.iconst 3, 1) := by decide +kernel
theorem dX7_count_81 : decode cX7_count 81 = .ok (.if_icmp .ne 10, 3) := by decide +kernel
theorem dX7_count_84 : decode cX7_count 84 = .ok (.aload_n 0, 1) := by decide +kernel
theorem dX7_count_85 : decode cX7_count 85 = .ok (.getfield 104, 3) := by decide +kernel
theorem dX7_count_88 : decode cX7_count 88 = .ok (.goto 5, 3) := by decide +kernel
theorem dX7_count_91 : decode cX7_count 91 = .ok (.bipush (-101), 2) := by decide +kernel
theorem dX7_count_93 : decode cX7_count 93 = .ok (.ireturn, 1) := by decide +kernel
theorem dJ6_numberOfTrailingZeros_0f7a4_0 : decode cJ6_numberOfTrailingZeros_0f7a4 0 = .ok (.iload_n 0, 1) := by decide +kernel
theorem dJ6_numberOfTrailingZeros_0f7a4_1 : decode cJ6_numberOfTrailingZeros_0f7a4 1 = .ok (.iconst (-1), 1) := by decide +kernel
theorem dJ6_numberOfTrailingZeros_0f7a4_2 : decode cJ6_numberOfTrailingZeros_0f7a4 2 = .ok (.ixor, 1) := by decide +kernel
theorem dJ6_numberOfTrailingZeros_0f7a4_3 : decode cJ6_numberOfTrailingZeros_0f7a4 3 = .ok (.iload_n 0, 1) := by decide +kernel
theorem dJ6_numberOfTrailingZeros_0f7a4_4 : decode cJ6_numberOfTrailingZeros_0f7a4 4 = .ok (.iconst 1, 1) := by decide +kernel
theorem dJ6_numberOfTrailingZeros_0f7a4_5 : decode cJ6_numberOfTrailingZeros_0f7a4 5 = .ok (.isub, 1) := by decide +kernel
theorem dJ6_numberOfTrailingZeros_0f7a4_6 : decode cJ6_numberOfTrailingZeros_0f7a4 6 = .ok (.iand, 1) := by decide +kernel
theorem dJ6_numberOfTrailingZeros_0f7a4_7 : decode cJ6_numberOfTrailingZeros_0f7a4 7 = .ok (.istore_n 0, 1) := by decide +kernel
theorem dJ6_numberOfTrailingZeros_0f7a4_8 : decode cJ6_numberOfTrailingZeros_0f7a4 8 = .ok (.iload_n 0, 1) := by decide +kernel
theorem dJ6_numberOfTrailingZeros_0f7a4_9 : decode cJ6_numberOfTrailingZeros_0f7a4 9 = .ok (.ifCond .gt 8, 3) := by decide +kernel
theorem dJ6_numberOfTrailingZeros_0f7a4_12 : decode cJ6_numberOfTrailingZeros_0f7a4 12 = .ok (.iload_n 0, 1) := by decide +kernel
theorem dJ6_numberOfTrailingZeros_0f7a4_13 : decode cJ6_numberOfTrailingZeros_0f7a4 13 = .ok (.bipush 32, 2) := by decide +kernel
theorem dJ6_numberOfTrailingZeros_0f7a4_15 : decode cJ6_numberOfTrailingZeros_0f7a4 15 = .ok (.iand, 1) := by decide +kernel
theorem dJ6_numberOfTrailingZeros_0f7a4_16 : decode cJ6_numberOfTrailingZeros_0f7a4 16 = .ok (.ireturn, 1) := by decide +kernel
theorem dJ6_numberOfTrailingZeros_0f7a4_17 : decode cJ6_numberOfTrailingZeros_0f7a4 17 = .ok (.iconst 1, 1) := by decide +kernel
theorem dJ6_numberOfTrailingZeros_0f7a4_18 : decode cJ6_numberOfTrailingZeros_0f7a4 18 = .ok (.istore_n 1, 1) := by decide +kernel
theorem dJ6_numberOfTrailingZeros_0f7a4_19 : decode cJ6_numberOfTrailingZeros_0f7a4 19 = .ok (.iload_n 0, 1) := by decide +kernel
theorem dJ6_numberOfTrailingZeros_0f7a4_20 : decode cJ6_numberOfTrailingZeros_0f7a4 20 = .ok (.ldc_w 264, 3) := by decide +kernel
theorem dJ6_numberOfTrailingZeros_0f7a4_23 : decode cJ6_numberOfTrailingZeros_0f7a4 23 = .ok (.if_icmp .le 11, 3) := by decide +kernel
theorem dJ6_numberOfTrailingZeros_0f7a4_26 : decode cJ6_numberOfTrailingZeros_0f7a4 26 = .ok (.iinc 1 16, 3) := by decide +kernel
theorem dJ6_numberOfTrailingZeros_0f7a4_29 : decode cJ6_numberOfTrailingZeros_0f7a4 29 = .ok (.iload_n 0, 1) := by decide +kernel
theorem dJ6_numberOfTrailingZeros_0f7a4_30 : decode cJ6_numberOfTrailingZeros_0f7a4 30 = .ok (.bipush 16, 2) := by decide +kernel
theorem dJ6_numberOfTrailingZeros_0f7a4_32 : decode cJ6_numberOfTrailingZeros_0f7a4 32 = .ok (.iushr, 1) := by decide +kernel
theorem dJ6_numberOfTrailingZeros_0f7a4_33 : decode cJ6_numberOfTrailingZeros_0f7a4 33 = .ok (.istore_n 0, 1) := by decide +kernel
theorem dJ6_numberOfTrailingZeros_0f7a4_34 : decode cJ6_numberOfTrailingZeros_0f7a4 34 = .ok (.iload_n 0, 1) := by decide +kernel
theorem dJ6_numberOfTrailingZeros_0f7a4_35 : decode cJ6_numberOfTrailingZeros_0f7a4 35 = .ok (.sipush 256, 3) := by decide +kernel
theorem dJ6_numberOfTrailingZeros_0f7a4_38 : decode cJ6_numberOfTrailingZeros_0f7a4 38 = .ok (.if_icmp .le 11, 3) := by decide +kernel
theorem dJ6_numberOfTrailingZeros_0f7a4_41 : decode cJ6_numberOfTrailingZeros_0f7a4 41 = .ok (.iinc 1 8, 3) := by decide +kernel
theorem dJ6_numberOfTrailingZeros_0f7a4_44 : decode cJ6_numberOfTrailingZeros_0f7a4 44 = .ok (.iload_n 0, 1) := by decide +kernel
theorem dJ6_numberOfTrailingZeros_0f7a4_45 : decode cJ6_numberOfTrailingZeros_0f7a4 45 = .ok (.bipush 8, 2) := by decide +kernel
theorem dJ6_numberOfTrailingZeros_0f7a4_47 : decode cJ6_numberOfTrailingZeros_0f7a4 47 = .ok (.iushr, 1) := by decide +kernel
theorem dJ6_numberOfTrailingZeros_0f7a4_48 : decode cJ6_numberOfTrailingZeros_0f7a4 48 = .ok (.istore_n 0, 1) := by decide +kernel
theorem dJ6_numberOfTrailingZeros_0f7a4_49 : decode cJ6_numberOfTrailingZeros_0f7a4 49 = .ok (.iload_n 0, 1) := by decide +kernel
theorem dJ6_numberOfTrailingZeros_0f7a4_50 : decode cJ6_numberOfTrailingZeros_0f7a4 50 = .ok (.bipush 16, 2) := by decide +kernel
theorem dJ6_numberOfTrailingZeros_0f7a4_52 : decode cJ6_numberOfTrailingZeros_0f7a4 52 = .ok (.if_icmp .le 10, 3) := by decide +kernel
theorem dJ6_numberOfTrailingZeros_0f7a4_55 : decode cJ6_numberOfTrailingZeros_0f7a4 55 = .ok (.iinc 1 4, 3) := by decide +kernel
theorem dJ6_numberOfTrailingZeros_0f7a4_58 : decode cJ6_numberOfTrailingZeros_0f7a4 58 = .ok (.iload_n 0, 1) := by decide +kernel
theorem dJ6_numberOfTrailingZeros_0f7a4_59 : decode cJ6_numberOfTrailingZeros_0f7a4 59 = .ok (.iconst 4, 1) := by decide +kernel
theorem dJ6_numberOfTrailingZeros_0f7a4_60 : decode cJ6_numberOfTrailingZeros_0f7a4 60 = .ok (.iushr, 1) := by decide +kernel
theorem dJ6_numberOfTrailingZeros_0f7a4_61 : decode cJ6_numberOfTrailingZeros_0f7a4 61 = .ok (.istore_n 0, 1) := by decide +kernel
theorem dJ6_numberOfTrailingZeros_0f7a4_62 : decode cJ6_numberOfTrailingZeros_0f7a4 62 = .ok (.iload_n 0, 1) := by decide +kernel
theorem dJ6_numberOfTrailingZeros_0f7a4_63 : decode cJ6_numberOfTrailingZeros_0f7a4 63 = .ok (.iconst 4, 1) := by decide +kernel
theorem dJ6_numberOfTrailingZeros_0f7a4_64 : decode cJ6_numberOfTrailingZeros_0f7a4 64 = .ok (.if_icmp .le 10, 3) := by decide +kernel
theorem dJ6_numberOfTrailingZeros_0f7a4_67 : decode cJ6_numberOfTrailingZeros_0f7a4 67 = .ok (.iinc 1 2, 3) := by decide +kernel
theorem dJ6_numberOfTrailingZeros_0f7a4_70 : decode cJ6_numberOfTrailingZeros_0f7a4 70 = .ok (.iload_n 0, 1) := by decide +kernel
theorem dJ6_numberOfTrailingZeros_0f7a4_71 : decode cJ6_numberOfTrailingZeros_0f7a4 71 = .ok (.iconst 2, 1) := by decide +kernel
theorem dJ6_numberOfTrailingZeros_0f7a4_72 : decode cJ6_numberOfTrailingZeros_0f7a4 72 = .ok (.iushr, 1) := by decide +kernel
theorem dJ6_numberOfTrailingZeros_0f7a4_73 : decode cJ6_numberOfTrailingZeros_0f7a4 73 = .ok (.istore_n 0, 1) := by decide +kernel
theorem dJ6_numberOfTrailingZeros_0f7a4_74 : decode cJ6_numberOfTrailingZeros_0f7a4 74 = .ok (.iload_n 1, 1) := by decide +kernel
theorem dJ6_numberOfTrailingZeros_0f7a4_75 : decode cJ6_numberOfTrailingZeros_0f7a4 75 = .ok (.iload_n 0, 1) := by decide +kernel
theorem dJ6_numberOfTrailingZeros_0f7a4_76 : decode cJ6_numberOfTrailingZeros_0f7a4 76 = .ok (.iconst 1, 1) := by decide +kernel
theorem dJ6_numberOfTrailingZeros_0f7a4_77 : decode cJ6_numberOfTrailingZeros_0f7a4 77 = .ok (.iushr, 1) := by decide +kernel
theorem dJ6_numberOfTrailingZeros_0f7a4_78 : decode cJ6_numberOfTrailingZeros_0f7a4 78 = .ok (.iadd, 1) := by decide +kernel
theorem dJ6_numberOfTrailingZeros_0f7a4_79 : decode cJ6_numberOfTrailingZeros_0f7a4 79 = .ok (.ireturn, 1) := by decide +kernel
theorem dJ9_max_7cf53_0 : decode cJ9_max_7cf53 0 = .ok (.iload_n 0, 1) := by decide +kernel
theorem dJ9_max_7cf53_1 : decode cJ9_max_7cf53 1 = .ok (.iload_n 1, 1) := by decide +kernel
theorem dJ9_max_7cf53_2 : decode cJ9_max_7cf53 2 = .ok (.if_icmp .lt 7, 3) := by decide +kernel
theorem dJ9_max_7cf53_5 : decode cJ9_max_7cf53 5 = .ok (.iload_n 0, 1) := by decide +kernel
theorem dJ9_max_7cf53_6 : decode cJ9_max_7cf53 6 = .ok (.goto 4, 3) := by decide +kernel
theorem dJ9_max_7cf53_9 : decode cJ9_max_7cf53 9 = .ok (.iload_n 1, 1) := by decide +kernel
theorem dJ9_max_7cf53_10 : decode cJ9_max_7cf53 10 = .ok (.ireturn, 1) := by decide +kernel
theorem dL_cell_0 : decode cL_cell 0 = .ok (.iload_n 1, 1) := by decide +kernel
theorem dL_cell_1 : decode cL_cell 1 = .ok (.aload_n 0, 1) := by decide +kernel
theorem dL_cell_2 : decode cL_cell 2 = .ok (.arraylength, 1) := by decide +kernel
theorem dL_cell_3 : decode cL_cell 3 = .ok (.if_icmp .ge 9, 3) := by decide +kernel
theorem dL_cell_6 : decode cL_cell 6 = .ok (.aload_n 0, 1) := by decide +kernel
theorem dL_cell_7 : decode cL_cell 7 = .ok (.iload_n 1, 1) := by decide +kernel
theorem dL_cell_8 : decode cL_cell 8 = .ok (.iaload, 1) := by decide +kernel
theorem dL_cell_9 : decode cL_cell 9 = .ok (.goto 4, 3) := by decide +kernel
theorem dL_cell_12 : decode cL_cell 12 = .ok (.iconst 0, 1) := by decide +kernel
theorem dL_cell_13 : decode cL_cell 13 = .ok (.ireturn, 1) := by decide +kernel
end
section
set_option maxRecDepth 20000 in
theorem ggL_law_L_cell : GoodIn wsL_law wsL_cell := goodIn_r _ [9] (by decide +kernel) (by decide +kernel)
set_option maxRecDepth 20000 in
theorem gL_law_L_cell : GoodIn wsL_law (va_wsS RL 9 yL_cell wsL_cell) := goodIn_app (goodIn_of _ (by decide +kernel)) ggL_law_L_cell
set_option maxRecDepth 20000 in
theorem ggL_law_X6_init : GoodIn wsL_law wsX6_init := goodIn_r _ [12, 13, 14, 15, 16, 17, 18, 19, 20, 21, 22, 23, 24, 25, 26, 27, 28, 29, 30, 31, 32, 33, 34, 35, 36, 37, 38, 39, 40, 41, 42, 43, 44, 45, 46, 47, 48, 49, 50, 51, 52, 53, 54, 55, 56, 57, 58, 59, 60, 61, 62, 63, 64, 65, 66, 67, 68, 69, 70, 71, 72, 73, 74, 75, 76, 77, 78, 79, 80, 81, 82, 83, 84, 85, 86, 87, 88, 89, 90, 91, 92, 93, 94, 95, 96, 97, 98, 99, 100, 101, 102, 103, 104, 105, 106, 687, 688, 689, 690, 691, 692, 628, 629, 630, 631, 632, 633, 634, 635, 636, 637, 638, 639, 640, 641, 642, 643, 644, 693, 694, 695, 696, 697, 698, 699, 700, 701, 702, 703, 704, 705, 706, 707, 708, 709, 710, 711, 712, 713, 714, 715, 716, 717, 718, 719, 720, 721, 722] (by decide +kernel) (by decide +kernel)
set_option maxRecDepth 20000 in
theorem gL_law_X6_init : GoodIn wsL_law (wsX6_init) := ggL_law_X6_init
set_option maxRecDepth 20000 in
theorem ggL_law_X7_init : GoodIn wsL_law wsX7_init := goodIn_r _ [109, 110, 14, 15, 52, 111, 112, 113, 114, 115, 116, 117, 118, 119, 120, 121, 122, 123, 124, 125, 126, 127, 128, 129, 130, 131, 132, 133, 134, 135, 136, 137, 138, 139, 140, 141, 142, 143, 645, 646, 647, 648, 649, 650, 651, 652, 653, 654, 655, 656, 657, 658, 659, 660, 661, 662, 663, 664, 665, 666, 667, 668, 669, 670, 671, 672, 673, 674, 675, 676, 677, 678, 679, 680, 681, 682, 683, 684, 685, 686] (by decide +kernel) (by decide +kernel)
set_option maxRecDepth 20000 in
theorem gL_law_X7_init : GoodIn wsL_law (wsX7_init) := ggL_law_X7_init
set_option maxRecDepth 20000 in
theorem ggL_law_X6_method : GoodIn wsL_law wsX6_method := goodIn_r _ [147, 148, 149, 150, 2, 151, 152, 153, 154, 155, 19, 20, 156, 157, 158, 18, 159, 51, 687, 688, 689, 690, 691, 692, 628, 629, 630, 631, 632, 633, 634, 635, 636, 637, 638, 639, 640, 641, 642, 643, 644] (by decide +kernel) (by decide +kernel)
set_option maxRecDepth 20000 in
theorem gL_law_X6_method : GoodIn wsL_law (wsV RL 21 RX6 yX6_method wsX6_method) := goodIn_app (goodIn_of _ (by decide +kernel)) ggL_law_X6_method
set_option maxRecDepth 20000 in
theorem ggL_law_X7_method : GoodIn wsL_law wsX7_method := goodIn_r _ [163, 111, 112, 164, 165, 5, 166, 645, 646, 647, 648, 649, 650, 651, 652, 653, 654, 655, 656, 657, 658, 659, 660, 661, 662, 663, 664, 665, 666, 667, 668, 669, 670, 671, 672, 673, 674, 675, 676, 677, 678, 679, 680, 681, 682, 683, 684, 685, 686] (by decide +kernel) (by decide +kernel)
set_option maxRecDepth 20000 in
theorem gL_law_X7_method : GoodIn wsL_law (wsV RL 25 RX7 yX7_method wsX7_method) := goodIn_app (goodIn_of _ (by decide +kernel)) ggL_law_X7_method
set_option maxRecDepth 20000 in
theorem ggL_law_X6_op : GoodIn wsL_law wsX6_op := goodIn_r _ [170, 171, 172, 173, 174, 2, 175, 149, 150, 151, 152, 153, 154, 155, 19, 20, 176, 177, 178, 18, 179, 51, 180, 181, 182, 183, 184, 39, 185, 186, 187, 188, 53, 54, 55, 56, 57, 189, 190, 191, 192, 687, 688, 689, 690, 691, 692, 628, 629, 630, 631, 632, 633, 634, 635, 636, 637, 638, 639, 640, 641, 642, 643, 644] (by decide +kernel) (by decide +kernel)
set_option maxRecDepth 20000 in
theorem gL_law_X6_op : GoodIn wsL_law (wsV RL 26 RX6 yX6_op wsX6_op) := goodIn_app (goodIn_of _ (by decide +kernel)) ggL_law_X6_op
set_option maxRecDepth 20000 in
theorem ggL_law_X7_op : GoodIn wsL_law wsX7_op := goodIn_r _ [196, 112, 113, 114, 115, 116, 197, 198, 199, 5, 200, 111, 164, 165, 166, 201, 202, 203, 204, 205, 206, 207, 208, 209, 210, 211, 143, 645, 646, 647, 648, 649, 650, 651, 652, 653, 654, 655, 656, 657, 658, 659, 660, 661, 662, 663, 664, 665, 666, 667, 668, 669, 670, 671, 672, 673, 674, 675, 676, 677, 678, 679, 680, 681, 682, 683, 684, 685, 686] (by decide +kernel) (by decide +kernel)
set_option maxRecDepth 20000 in
theorem gL_law_X7_op : GoodIn wsL_law (wsV RL 30 RX7 yX7_op wsX7_op) := goodIn_app (goodIn_of _ (by decide +kernel)) ggL_law_X7_op
set_option maxRecDepth 20000 in
theorem ggL_law_X6_clear : GoodIn wsL_law wsX6_clear := goodIn_r _ [215, 172, 173, 174, 2, 175, 149, 150, 151, 152, 153, 154, 155, 19, 20, 176, 177, 178, 18, 179, 51, 216, 217, 218, 219, 53, 628, 629, 630, 631, 632, 633, 634, 635, 636, 637, 638, 639, 640, 641, 642, 643, 644, 687, 688, 689, 690, 691, 692] (by decide +kernel) (by decide +kernel)
set_option maxRecDepth 20000 in
theorem gL_law_X6_clear : GoodIn wsL_law (wsV RL 31 RX6 yX6_clear wsX6_clear) := goodIn_app (goodIn_of _ (by decide +kernel)) ggL_law_X6_clear
set_option maxRecDepth 20000 in
theorem ggL_law_X7_clear : GoodIn wsL_law wsX7_clear := goodIn_r _ [223, 112, 197, 198, 199, 5, 200, 111, 164, 165, 166, 645, 646, 647, 648, 649, 650, 651, 652, 653, 654, 655, 656, 657, 658, 659, 660, 661, 662, 663, 664, 665, 666, 667, 668, 669, 670, 671, 672, 673, 674, 675, 676, 677, 678, 679, 680, 681, 682, 683, 684, 685, 686] (by decide +kernel) (by decide +kernel)
set_option maxRecDepth 20000 in
theorem gL_law_X7_clear : GoodIn wsL_law (wsV RL 35 RX7 yX7_clear wsX7_clear) := goodIn_app (goodIn_of _ (by decide +kernel)) ggL_law_X7_clear
set_option maxRecDepth 20000 in
theorem ggL_law_X6_run : GoodIn wsL_law wsX6_run := goodIn_r _ [227, 39, 43, 228, 229, 172, 173, 174, 2, 175, 149, 150, 151, 152, 153, 154, 155, 19, 20, 176, 177, 178, 18, 179, 51, 230, 231, 232, 42, 233, 88, 234, 235, 236, 237, 82, 87, 84, 238, 85, 239, 240, 241, 242, 81, 243, 97, 98, 99, 102, 244, 245, 246, 247, 94, 95, 96, 248, 249, 250, 251, 83, 252, 253, 254, 255, 256, 257, 258, 259, 260, 261, 262, 263, 190, 191, 192, 264, 265, 266, 267, 268, 269, 270, 271, 272, 273, 274, 275, 276, 277, 278, 279, 280, 281, 282, 283, 284, 285, 286, 287, 288, 289, 290, 291, 100, 101, 292, 293, 294, 295, 89, 90, 296, 297, 298, 299, 300, 301, 86, 302, 303, 304, 305, 103, 104, 105, 106, 306, 307, 308, 309, 310, 311, 312, 628, 629, 630, 631, 632, 633, 634, 635, 636, 637, 638, 639, 640, 641, 642, 643, 644, 701, 702, 703, 704, 705, 706, 707, 708, 709, 710, 711, 712, 713, 714, 715, 716, 717, 718, 719, 720, 721, 722, 687, 688, 689, 690, 691, 692] (by decide +kernel) (by decide +kernel)
set_option maxRecDepth 20000 in
theorem gL_law_X6_run : GoodIn wsL_law (wsV RL 36 RX6 yX6_run wsX6_run) := goodIn_app (goodIn_of _ (by decide +kernel)) ggL_law_X6_run
end
section
set_option maxRecDepth 20000 in
theorem ggL_law_X7_run : GoodIn wsL_law wsX7_run := goodIn_r _ [316, 317, 125, 197, 198, 199, 5, 200, 111, 164, 165, 166, 208, 209, 210, 211, 143, 318, 319, 320, 321, 322, 323, 126, 127, 128, 129, 130, 134, 121, 122, 112, 324, 325, 326, 327, 123, 124, 328, 329, 330, 331, 332, 333, 334, 335, 113, 114, 115, 116, 336, 337, 338, 339, 131, 132, 133, 340, 341, 342, 343, 135, 136, 137, 344, 345, 346, 347, 348, 349, 350, 351, 352, 645, 646, 647, 648, 649, 650, 651, 652, 653, 654, 655, 656, 657, 658, 659, 660, 661, 662, 663, 664, 665, 666, 667, 668, 669, 670, 671, 672, 673, 674, 675, 676, 677, 678, 679, 680, 681, 682, 683, 684, 685, 686] (by decide +kernel) (by decide +kernel)
set_option maxRecDepth 20000 in
theorem gL_law_X7_run : GoodIn wsL_law (wsV RL 40 RX7 yX7_run wsX7_run) := goodIn_app (goodIn_of _ (by decide +kernel)) ggL_law_X7_run
set_option maxRecDepth 20000 in
theorem ggL_law_X6_ran : GoodIn wsL_law wsX6_ran := goodIn_r _ [356, 43, 228, 357, 358, 359, 360, 361, 628, 629, 630, 631, 632, 633, 634, 635, 636, 637, 638, 639, 640, 641, 642, 643, 644, 701, 702, 703, 704, 705, 706, 707, 708, 709, 710, 711, 712, 713, 714, 715, 716, 717, 718, 719, 720, 721, 722] (by decide +kernel) (by decide +kernel)
set_option maxRecDepth 20000 in
theorem gL_law_X6_ran : GoodIn wsL_law (wsV RL 41 RX6 yX6_ran wsX6_ran) := goodIn_app (goodIn_of _ (by decide +kernel)) ggL_law_X6_ran
set_option maxRecDepth 20000 in
theorem ggL_law_X7_ran : GoodIn wsL_law wsX7_ran := goodIn_r _ [365, 127, 126, 128, 130, 129, 645, 646, 647, 648, 649, 650, 651, 652, 653, 654, 655, 656, 657, 658, 659, 660, 661, 662, 663, 664, 665, 666, 667, 668, 669, 670, 671, 672, 673, 674, 675, 676, 677, 678, 679, 680, 681, 682, 683, 684, 685, 686] (by decide +kernel) (by decide +kernel)
set_option maxRecDepth 20000 in
theorem gL_law_X7_ran : GoodIn wsL_law (wsV RL 44 RX7 yX7_ran wsX7_ran) := goodIn_app (goodIn_of _ (by decide +kernel)) ggL_law_X7_ran
set_option maxRecDepth 20000 in
theorem ggL_law_X6_told : GoodIn wsL_law wsX6_told := goodIn_r _ [369, 43, 228, 360, 370, 371, 149, 150, 2, 151, 628, 629, 630, 631, 632, 633, 634, 635, 636, 637, 638, 639, 640, 641, 642, 643, 644, 701, 702, 703, 704, 705, 706, 707, 708, 709, 710, 711, 712, 713, 714, 715, 716, 717, 718, 719, 720, 721, 722] (by decide +kernel) (by decide +kernel)
set_option maxRecDepth 20000 in
theorem gL_law_X6_told : GoodIn wsL_law (wsV RL 45 RX6 yX6_told wsX6_told) := goodIn_app (goodIn_of _ (by decide +kernel)) ggL_law_X6_told
set_option maxRecDepth 20000 in
theorem ggL_law_X7_told : GoodIn wsL_law wsX7_told := goodIn_r _ [375, 130, 131, 132, 164, 165, 5, 166, 645, 646, 647, 648, 649, 650, 651, 652, 653, 654, 655, 656, 657, 658, 659, 660, 661, 662, 663, 664, 665, 666, 667, 668, 669, 670, 671, 672, 673, 674, 675, 676, 677, 678, 679, 680, 681, 682, 683, 684, 685, 686] (by decide +kernel) (by decide +kernel)
set_option maxRecDepth 20000 in
theorem gL_law_X7_told : GoodIn wsL_law (wsV RL 48 RX7 yX7_told wsX7_told) := goodIn_app (goodIn_of _ (by decide +kernel)) ggL_law_X7_told
set_option maxRecDepth 20000 in
theorem ggL_law_X6_rename : GoodIn wsL_law wsX6_rename := goodIn_r _ [379, 24, 149, 150, 2, 151, 380, 381, 382, 23, 383, 61, 63, 384, 385, 386, 387, 628, 629, 630, 631, 632, 633, 634, 635, 636, 637, 638, 639, 640, 641, 642, 643, 644, 693, 694, 695] (by decide +kernel) (by decide +kernel)
set_option maxRecDepth 20000 in
theorem gL_law_X6_rename : GoodIn wsL_law (wsV RL 49 RX6 yX6_rename wsX6_rename) := goodIn_app (goodIn_of _ (by decide +kernel)) ggL_law_X6_rename
set_option maxRecDepth 20000 in
theorem ggL_law_X7_rename : GoodIn wsL_law wsX7_rename := goodIn_r _ [391, 117, 164, 165, 5, 166, 645, 646, 647, 648, 649, 650, 651, 652, 653, 654, 655, 656, 657, 658, 659, 660, 661, 662, 663, 664, 665, 666, 667, 668, 669, 670, 671, 672, 673, 674, 675, 676, 677, 678, 679, 680, 681, 682, 683, 684, 685, 686] (by decide +kernel) (by decide +kernel)
set_option maxRecDepth 20000 in
theorem gL_law_X7_rename : GoodIn wsL_law (wsV RL 52 RX7 yX7_rename wsX7_rename) := goodIn_app (goodIn_of _ (by decide +kernel)) ggL_law_X7_rename
set_option maxRecDepth 20000 in
theorem ggL_law_X6_group : GoodIn wsL_law wsX6_group := goodIn_r _ [395, 24, 396, 149, 150, 2, 151, 628, 629, 630, 631, 632, 633, 634, 635, 636, 637, 638, 639, 640, 641, 642, 643, 644, 693, 694, 695] (by decide +kernel) (by decide +kernel)
set_option maxRecDepth 20000 in
theorem gL_law_X6_group : GoodIn wsL_law (wsV RL 53 RX6 yX6_group wsX6_group) := goodIn_app (goodIn_of _ (by decide +kernel)) ggL_law_X6_group
set_option maxRecDepth 20000 in
theorem ggL_law_X7_group : GoodIn wsL_law wsX7_group := goodIn_r _ [400, 118, 164, 165, 5, 166, 645, 646, 647, 648, 649, 650, 651, 652, 653, 654, 655, 656, 657, 658, 659, 660, 661, 662, 663, 664, 665, 666, 667, 668, 669, 670, 671, 672, 673, 674, 675, 676, 677, 678, 679, 680, 681, 682, 683, 684, 685, 686] (by decide +kernel) (by decide +kernel)
set_option maxRecDepth 20000 in
theorem gL_law_X7_group : GoodIn wsL_law (wsV RL 56 RX7 yX7_group wsX7_group) := goodIn_app (goodIn_of _ (by decide +kernel)) ggL_law_X7_group
set_option maxRecDepth 20000 in
theorem ggL_law_X6_hold : GoodIn wsL_law wsX6_hold := goodIn_r _ [404, 34, 36, 35, 37, 405, 406, 407, 2, 408, 19, 20, 176, 177, 178, 18, 179, 51, 409, 410, 411, 412, 39, 24, 413, 414, 415, 416, 44, 45, 228, 229, 234, 235, 236, 42, 237, 82, 87, 84, 88, 238, 85, 239, 240, 241, 242, 81, 243, 97, 98, 99, 102, 244, 245, 246, 247, 94, 95, 96, 248, 249, 250, 251, 83, 252, 253, 254, 255, 256, 257, 258, 259, 260, 261, 262, 263, 190, 191, 192, 264, 265, 266, 267, 268, 269, 270, 271, 272, 273, 274, 275, 276, 277, 278, 279, 280, 281, 282, 283, 284, 285, 286, 287, 288, 289, 290, 291, 100, 101, 292, 293, 294, 295, 89, 90, 296, 297, 298, 299, 300, 301, 86, 302, 303, 304, 305, 103, 104, 105, 106, 306, 307, 308, 309, 310, 311, 312, 417, 418, 419, 420, 360, 421, 422, 423, 424, 425, 426, 427, 23, 428, 429, 430, 431, 432, 433, 62, 63, 434, 435, 436, 437, 438, 628, 629, 630, 631, 632, 633, 634, 635, 636, 637, 638, 639, 640, 641, 642, 643, 644, 687, 688, 689, 690, 691, 692, 701, 702, 703, 704, 705, 706, 707, 708, 709, 710, 711, 712, 713, 714, 715, 716, 717, 718, 719, 720, 721, 722, 693, 694, 695] (by decide +kernel) (by decide +kernel)
set_option maxRecDepth 20000 in
theorem gL_law_X6_hold : GoodIn wsL_law (wsV RL 57 RX6 yX6_hold wsX6_hold) := goodIn_app (goodIn_of _ (by decide +kernel)) ggL_law_X6_hold
end
section
set_option maxRecDepth 20000 in
theorem ggL_law_X7_hold_c : GoodIn wsL_law [Cond.code yX7_hold cX7_hold 4 (some .int)] := goodIn_r _ [442] (by decide +kernel) (by decide +kernel)
set_option maxRecDepth 20000 in
theorem ggL_law_X7_hold_r1 : GoodIn wsL_law wsX7_hold_r1 := goodIn_r _ [443, 138, 444, 139, 197, 198, 199, 5, 200, 111, 164, 165, 166, 445, 446, 447, 448, 317, 143, 125, 318, 319, 320, 321] (by decide +kernel) (by decide +kernel)
set_option maxRecDepth 20000 in
theorem ggL_law_X7_hold_r2 : GoodIn wsL_law wsX7_hold_r2 := goodIn_r _ [322, 323, 126, 127, 128, 129, 130, 134, 121, 122, 112, 324, 325, 326, 327, 123, 124, 328, 329, 330, 331, 332, 333, 334] (by decide +kernel) (by decide +kernel)
set_option maxRecDepth 20000 in
theorem ggL_law_X7_hold_r3 : GoodIn wsL_law wsX7_hold_r3 := goodIn_r _ [335, 113, 114, 115, 116, 336, 337, 338, 339, 131, 132, 133, 340, 341, 342, 343, 135, 136, 137, 344, 345, 346, 347, 348] (by decide +kernel) (by decide +kernel)
set_option maxRecDepth 20000 in
theorem ggL_law_X7_hold_r4 : GoodIn wsL_law wsX7_hold_r4 := goodIn_r _ [349, 350, 351, 352, 449, 450, 451, 452, 453, 454, 455, 456, 457, 119, 120, 458, 459, 460, 461, 462, 463, 464, 465, 118] (by decide +kernel) (by decide +kernel)
set_option maxRecDepth 20000 in
theorem ggL_law_X7_hold_r5 : GoodIn wsL_law wsX7_hold_r5 := goodIn_r _ [466, 467, 468, 469, 117] (by decide +kernel) (by decide +kernel)
set_option maxRecDepth 20000 in
theorem ggL_law_X7_hold_tX7 : GoodIn wsL_law wsX70 := goodIn_r _ [645, 646, 647, 648, 649, 650, 651, 652, 653, 654, 655, 656, 657, 658, 659, 660, 661, 662, 663, 664, 665, 666, 667, 668, 669, 670, 671, 672, 673, 674, 675, 676, 677, 678, 679, 680, 681, 682, 683, 684, 685, 686] (by decide +kernel) (by decide +kernel)
theorem ggL_law_X7_hold : GoodIn wsL_law wsX7_hold := goodIn_app ggL_law_X7_hold_c (goodIn_app (goodIn_app ggL_law_X7_hold_r1 (goodIn_app ggL_law_X7_hold_r2 (goodIn_app ggL_law_X7_hold_r3 (goodIn_app ggL_law_X7_hold_r4 ggL_law_X7_hold_r5)))) ggL_law_X7_hold_tX7)
set_option maxRecDepth 20000 in
theorem gL_law_X7_hold : GoodIn wsL_law (wsV RL 60 RX7 yX7_hold wsX7_hold) := goodIn_app (goodIn_of _ (by decide +kernel)) ggL_law_X7_hold
set_option maxRecDepth 20000 in
theorem ggL_law_X6_first : GoodIn wsL_law wsX6_first := goodIn_r _ [473, 36, 37, 628, 629, 630, 631, 632, 633, 634, 635, 636, 637, 638, 639, 640, 641, 642, 643, 644] (by decide +kernel) (by decide +kernel)
set_option maxRecDepth 20000 in
theorem gL_law_X6_first : GoodIn wsL_law (wsV RL 61 RX6 yX6_first wsX6_first) := goodIn_app (goodIn_of _ (by decide +kernel)) ggL_law_X6_first
set_option maxRecDepth 20000 in
theorem ggL_law_X7_first : GoodIn wsL_law wsX7_first := goodIn_r _ [477, 138, 139, 645, 646, 647, 648, 649, 650, 651, 652, 653, 654, 655, 656, 657, 658, 659, 660, 661, 662, 663, 664, 665, 666, 667, 668, 669, 670, 671, 672, 673, 674, 675, 676, 677, 678, 679, 680, 681, 682, 683, 684, 685, 686] (by decide +kernel) (by decide +kernel)
set_option maxRecDepth 20000 in
theorem gL_law_X7_first : GoodIn wsL_law (wsV RL 64 RX7 yX7_first wsX7_first) := goodIn_app (goodIn_of _ (by decide +kernel)) ggL_law_X7_first
set_option maxRecDepth 20000 in
theorem ggL_law_X6_match_c : GoodIn wsL_law [Cond.code yX6_match cX6_match 3 (some .int)] := goodIn_r _ [481] (by decide +kernel) (by decide +kernel)
set_option maxRecDepth 20000 in
theorem ggL_law_X6_match_r1 : GoodIn wsL_law wsX6_match_r1 := goodIn_r _ [19, 20, 148, 176, 177, 178, 18, 179, 51, 409, 410, 411, 2, 412, 39, 24, 34, 35, 413, 414, 415, 416, 44, 45] (by decide +kernel) (by decide +kernel)
set_option maxRecDepth 20000 in
theorem ggL_law_X6_match_r2 : GoodIn wsL_law wsX6_match_r2 := goodIn_r _ [228, 229, 234, 235, 236, 42, 237, 82, 87, 84, 88, 238, 85, 239, 240, 241, 242, 81, 243, 97, 98, 99, 102, 244] (by decide +kernel) (by decide +kernel)
set_option maxRecDepth 20000 in
theorem ggL_law_X6_match_r3 : GoodIn wsL_law wsX6_match_r3 := goodIn_r _ [245, 246, 247, 94, 95, 96, 248, 249, 250, 251, 83, 252, 253, 254, 255, 256, 257, 258, 259, 260, 261, 262, 263, 190] (by decide +kernel) (by decide +kernel)
set_option maxRecDepth 20000 in
theorem ggL_law_X6_match_r4 : GoodIn wsL_law wsX6_match_r4 := goodIn_r _ [191, 192, 264, 265, 266, 267, 268, 269, 270, 271, 272, 273, 274, 275, 276, 277, 278, 279, 280, 281, 282, 283, 284, 285] (by decide +kernel) (by decide +kernel)
set_option maxRecDepth 20000 in
theorem ggL_law_X6_match_r5 : GoodIn wsL_law wsX6_match_r5 := goodIn_r _ [286, 287, 288, 289, 290, 291, 100, 101, 292, 293, 294, 295, 89, 90, 296, 297, 298, 299, 300, 301, 86, 302, 303, 304] (by decide +kernel) (by decide +kernel)
set_option maxRecDepth 20000 in
theorem ggL_law_X6_match_r6 : GoodIn wsL_law wsX6_match_r6 := goodIn_r _ [305, 103, 104, 105, 106, 306, 307, 308, 309, 310, 311, 312, 417, 418, 419, 420, 360, 421, 422, 423, 424, 425, 426, 427] (by decide +kernel) (by decide +kernel)
set_option maxRecDepth 20000 in
theorem ggL_law_X6_match_r7 : GoodIn wsL_law wsX6_match_r7 := goodIn_r _ [23, 428, 429, 430, 431, 432, 433, 62, 63, 434, 435, 436, 437, 438] (by decide +kernel) (by decide +kernel)
set_option maxRecDepth 20000 in
theorem ggL_law_X6_match_tX6 : GoodIn wsL_law wsX60 := goodIn_r _ [628, 629, 630, 631, 632, 633, 634, 635, 636, 637, 638, 639, 640, 641, 642, 643, 644] (by decide +kernel) (by decide +kernel)
set_option maxRecDepth 20000 in
theorem ggL_law_X6_match_tX0 : GoodIn wsL_law wsX00 := goodIn_r _ [687, 688, 689, 690, 691, 692] (by decide +kernel) (by decide +kernel)
set_option maxRecDepth 20000 in
theorem ggL_law_X6_match_tX1 : GoodIn wsL_law wsX10 := goodIn_r _ [701, 702, 703, 704, 705, 706, 707, 708, 709] (by decide +kernel) (by decide +kernel)
set_option maxRecDepth 20000 in
theorem ggL_law_X6_match_tX5 : GoodIn wsL_law wsX50 := goodIn_r _ [710, 711, 712, 713, 714, 715, 716, 717, 718, 719, 720, 721, 722] (by decide +kernel) (by decide +kernel)
set_option maxRecDepth 20000 in
theorem ggL_law_X6_match_tX3 : GoodIn wsL_law wsX30 := goodIn_r _ [693, 694, 695] (by decide +kernel) (by decide +kernel)
theorem ggL_law_X6_match : GoodIn wsL_law wsX6_match := goodIn_app ggL_law_X6_match_c (goodIn_app (goodIn_app (goodIn_app (goodIn_app (goodIn_app (goodIn_app ggL_law_X6_match_r1 (goodIn_app ggL_law_X6_match_r2 (goodIn_app ggL_law_X6_match_r3 (goodIn_app ggL_law_X6_match_r4 (goodIn_app ggL_law_X6_match_r5 (goodIn_app ggL_law_X6_match_r6 ggL_law_X6_match_r7)))))) ggL_law_X6_match_tX6) ggL_law_X6_match_tX0) ggL_law_X6_match_tX1) ggL_law_X6_match_tX5) ggL_law_X6_match_tX3)
set_option maxRecDepth 20000 in
theorem gL_law_X6_match : GoodIn wsL_law (wsV RL 65 RX6 yX6_match wsX6_match) := goodIn_app (goodIn_of _ (by decide +kernel)) ggL_law_X6_match
set_option maxRecDepth 20000 in
theorem ggL_law_X7_match_c : GoodIn wsL_law [Cond.code yX7_match cX7_match 3 (some .int)] := goodIn_r _ [485] (by decide +kernel) (by decide +kernel)
set_option maxRecDepth 20000 in
theorem ggL_law_X7_match_r1 : GoodIn wsL_law wsX7_match_r1 := goodIn_r _ [111, 197, 198, 199, 5, 200, 164, 165, 166, 445, 446, 447, 448, 317, 143, 125, 443, 444, 318, 319, 320, 321, 322, 323] (by decide +kernel) (by decide +kernel)
set_option maxRecDepth 20000 in
theorem ggL_law_X7_match_r2 : GoodIn wsL_law wsX7_match_r2 := goodIn_r _ [126, 127, 128, 129, 130, 134, 121, 122, 112, 324, 325, 326, 327, 123, 124, 328, 329, 330, 331, 332, 333, 334, 335, 113] (by decide +kernel) (by decide +kernel)
set_option maxRecDepth 20000 in
theorem ggL_law_X7_match_r3 : GoodIn wsL_law wsX7_match_r3 := goodIn_r _ [114, 115, 116, 336, 337, 338, 339, 131, 132, 133, 340, 341, 342, 343, 135, 136, 137, 344, 345, 346, 347, 348, 349, 350] (by decide +kernel) (by decide +kernel)
set_option maxRecDepth 20000 in
theorem ggL_law_X7_match_r4 : GoodIn wsL_law wsX7_match_r4 := goodIn_r _ [351, 352, 449, 450, 451, 452, 453, 454, 455, 456, 457, 119, 120, 458, 459, 460, 461, 462, 463, 464, 465, 118, 466, 467] (by decide +kernel) (by decide +kernel)
set_option maxRecDepth 20000 in
theorem ggL_law_X7_match_r5 : GoodIn wsL_law wsX7_match_r5 := goodIn_r _ [468, 469, 117] (by decide +kernel) (by decide +kernel)
set_option maxRecDepth 20000 in
theorem ggL_law_X7_match_tX7 : GoodIn wsL_law wsX70 := goodIn_r _ [645, 646, 647, 648, 649, 650, 651, 652, 653, 654, 655, 656, 657, 658, 659, 660, 661, 662, 663, 664, 665, 666, 667, 668, 669, 670, 671, 672, 673, 674, 675, 676, 677, 678, 679, 680, 681, 682, 683, 684, 685, 686] (by decide +kernel) (by decide +kernel)
theorem ggL_law_X7_match : GoodIn wsL_law wsX7_match := goodIn_app ggL_law_X7_match_c (goodIn_app (goodIn_app ggL_law_X7_match_r1 (goodIn_app ggL_law_X7_match_r2 (goodIn_app ggL_law_X7_match_r3 (goodIn_app ggL_law_X7_match_r4 ggL_law_X7_match_r5)))) ggL_law_X7_match_tX7)
set_option maxRecDepth 20000 in
theorem gL_law_X7_match : GoodIn wsL_law (wsV RL 68 RX7 yX7_match wsX7_match) := goodIn_app (goodIn_of _ (by decide +kernel)) ggL_law_X7_match
set_option maxRecDepth 20000 in
theorem ggL_law_X6_find_c : GoodIn wsL_law [Cond.code yX6_find cX6_find 6 (some .int)] := goodIn_r _ [489] (by decide +kernel) (by decide +kernel)
set_option maxRecDepth 20000 in
theorem ggL_law_X6_find_r1 : GoodIn wsL_law wsX6_find_r1 := goodIn_r _ [25, 24, 490, 39, 491, 405, 406, 407, 2, 408, 19, 20, 176, 177, 178, 18, 179, 51, 492, 493, 494, 23, 495, 62] (by decide +kernel) (by decide +kernel)
set_option maxRecDepth 20000 in
theorem ggL_law_X6_find_r2 : GoodIn wsL_law wsX6_find_r2 := goodIn_r _ [496, 497, 498, 499, 413, 414, 415, 416, 44, 45, 228, 229, 234, 235, 236, 42, 237, 82, 87, 84, 88, 238, 85, 239] (by decide +kernel) (by decide +kernel)
set_option maxRecDepth 20000 in
theorem ggL_law_X6_find_r3 : GoodIn wsL_law wsX6_find_r3 := goodIn_r _ [240, 241, 242, 81, 243, 97, 98, 99, 102, 244, 245, 246, 247, 94, 95, 96, 248, 249, 250, 251, 83, 252, 253, 254] (by decide +kernel) (by decide +kernel)
set_option maxRecDepth 20000 in
theorem ggL_law_X6_find_r4 : GoodIn wsL_law wsX6_find_r4 := goodIn_r _ [255, 256, 257, 258, 259, 260, 261, 262, 263, 190, 191, 192, 264, 265, 266, 267, 268, 269, 270, 271, 272, 273, 274, 275] (by decide +kernel) (by decide +kernel)
set_option maxRecDepth 20000 in
theorem ggL_law_X6_find_r5 : GoodIn wsL_law wsX6_find_r5 := goodIn_r _ [276, 277, 278, 279, 280, 281, 282, 283, 284, 285, 286, 287, 288, 289, 290, 291, 100, 101, 292, 293, 294, 295, 89, 90] (by decide +kernel) (by decide +kernel)
set_option maxRecDepth 20000 in
theorem ggL_law_X6_find_r6 : GoodIn wsL_law wsX6_find_r6 := goodIn_r _ [296, 297, 298, 299, 300, 301, 86, 302, 303, 304, 305, 103, 104, 105, 106, 306, 307, 308, 309, 310, 311, 312, 500, 501] (by decide +kernel) (by decide +kernel)
set_option maxRecDepth 20000 in
theorem ggL_law_X6_find_r7 : GoodIn wsL_law wsX6_find_r7 := goodIn_r _ [502, 503, 504, 505, 506, 507, 384, 385, 386, 387, 61, 63, 417, 418, 419, 420, 360, 421, 422, 423, 424, 425, 426, 427] (by decide +kernel) (by decide +kernel)
set_option maxRecDepth 20000 in
theorem ggL_law_X6_find_r8 : GoodIn wsL_law wsX6_find_r8 := goodIn_r _ [428, 429, 430, 431, 432, 433, 434, 435, 436, 437, 438, 508, 509, 510, 511, 512] (by decide +kernel) (by decide +kernel)
set_option maxRecDepth 20000 in
theorem ggL_law_X6_find_tX6 : GoodIn wsL_law wsX60 := goodIn_r _ [628, 629, 630, 631, 632, 633, 634, 635, 636, 637, 638, 639, 640, 641, 642, 643, 644] (by decide +kernel) (by decide +kernel)
set_option maxRecDepth 20000 in
theorem ggL_law_X6_find_tX0 : GoodIn wsL_law wsX00 := goodIn_r _ [687, 688, 689, 690, 691, 692] (by decide +kernel) (by decide +kernel)
set_option maxRecDepth 20000 in
theorem ggL_law_X6_find_tX3 : GoodIn wsL_law wsX30 := goodIn_r _ [693, 694, 695] (by decide +kernel) (by decide +kernel)
set_option maxRecDepth 20000 in
theorem ggL_law_X6_find_tX1 : GoodIn wsL_law wsX10 := goodIn_r _ [701, 702, 703, 704, 705, 706, 707, 708, 709] (by decide +kernel) (by decide +kernel)
set_option maxRecDepth 20000 in
theorem ggL_law_X6_find_tX5 : GoodIn wsL_law wsX50 := goodIn_r _ [710, 711, 712, 713, 714, 715, 716, 717, 718, 719, 720, 721, 722] (by decide +kernel) (by decide +kernel)
theorem ggL_law_X6_find : GoodIn wsL_law wsX6_find := goodIn_app ggL_law_X6_find_c (goodIn_app (goodIn_app (goodIn_app (goodIn_app (goodIn_app (goodIn_app ggL_law_X6_find_r1 (goodIn_app ggL_law_X6_find_r2 (goodIn_app ggL_law_X6_find_r3 (goodIn_app ggL_law_X6_find_r4 (goodIn_app ggL_law_X6_find_r5 (goodIn_app ggL_law_X6_find_r6 (goodIn_app ggL_law_X6_find_r7 ggL_law_X6_find_r8))))))) ggL_law_X6_find_tX6) ggL_law_X6_find_tX0) ggL_law_X6_find_tX3) ggL_law_X6_find_tX1) ggL_law_X6_find_tX5)
set_option maxRecDepth 20000 in
theorem gL_law_X6_find : GoodIn wsL_law (wsV RL 69 RX6 yX6_find wsX6_find) := goodIn_app (goodIn_of _ (by decide +kernel)) ggL_law_X6_find
set_option maxRecDepth 20000 in
theorem ggL_law_X7_find_c : GoodIn wsL_law [Cond.code yX7_find cX7_find 5 (some .int)] := goodIn_r _ [516] (by decide +kernel) (by decide +kernel)
set_option maxRecDepth 20000 in
theorem ggL_law_X7_find_r1 : GoodIn wsL_law wsX7_find_r1 := goodIn_r _ [140, 117, 197, 198, 199, 5, 200, 111, 164, 165, 166, 517, 518, 519, 520, 445, 446, 447, 448, 317, 143, 125, 443, 444] (by decide +kernel) (by decide +kernel)
set_option maxRecDepth 20000 in
theorem ggL_law_X7_find_r2 : GoodIn wsL_law wsX7_find_r2 := goodIn_r _ [318, 319, 320, 321, 322, 323, 126, 127, 128, 129, 130, 134, 121, 122, 112, 324, 325, 326, 327, 123, 124, 328, 329, 330] (by decide +kernel) (by decide +kernel)
set_option maxRecDepth 20000 in
theorem ggL_law_X7_find_r3 : GoodIn wsL_law wsX7_find_r3 := goodIn_r _ [331, 332, 333, 334, 335, 113, 114, 115, 116, 336, 337, 338, 339, 131, 132, 133, 340, 341, 342, 343, 135, 136, 137, 344] (by decide +kernel) (by decide +kernel)
set_option maxRecDepth 20000 in
theorem ggL_law_X7_find_r4 : GoodIn wsL_law wsX7_find_r4 := goodIn_r _ [345, 346, 347, 348, 349, 350, 351, 352, 449, 450, 451, 452, 453, 454, 455, 456, 457, 119, 120, 458, 459, 460, 461, 462] (by decide +kernel) (by decide +kernel)
set_option maxRecDepth 20000 in
theorem ggL_law_X7_find_r5 : GoodIn wsL_law wsX7_find_r5 := goodIn_r _ [463, 464, 465, 118, 466, 467, 468, 469] (by decide +kernel) (by decide +kernel)
set_option maxRecDepth 20000 in
theorem ggL_law_X7_find_tX7 : GoodIn wsL_law wsX70 := goodIn_r _ [645, 646, 647, 648, 649, 650, 651, 652, 653, 654, 655, 656, 657, 658, 659, 660, 661, 662, 663, 664, 665, 666, 667, 668, 669, 670, 671, 672, 673, 674, 675, 676, 677, 678, 679, 680, 681, 682, 683, 684, 685, 686] (by decide +kernel) (by decide +kernel)
theorem ggL_law_X7_find : GoodIn wsL_law wsX7_find := goodIn_app ggL_law_X7_find_c (goodIn_app (goodIn_app ggL_law_X7_find_r1 (goodIn_app ggL_law_X7_find_r2 (goodIn_app ggL_law_X7_find_r3 (goodIn_app ggL_law_X7_find_r4 ggL_law_X7_find_r5)))) ggL_law_X7_find_tX7)
set_option maxRecDepth 20000 in
theorem gL_law_X7_find : GoodIn wsL_law (wsV RL 72 RX7 yX7_find wsX7_find) := goodIn_app (goodIn_of _ (by decide +kernel)) ggL_law_X7_find
set_option maxRecDepth 20000 in
theorem ggL_law_X6_assume : GoodIn wsL_law wsX6_assume := goodIn_r _ [524, 29, 525, 405, 406, 407, 2, 408, 19, 20, 176, 177, 178, 18, 179, 51, 526, 527, 528, 28, 529, 67, 68, 69, 530, 531, 532, 533, 628, 629, 630, 631, 632, 633, 634, 635, 636, 637, 638, 639, 640, 641, 642, 643, 644, 696, 697, 698, 687, 688, 689, 690, 691, 692] (by decide +kernel) (by decide +kernel)
set_option maxRecDepth 20000 in
theorem gL_law_X6_assume : GoodIn wsL_law (wsV RL 73 RX6 yX6_assume wsX6_assume) := goodIn_app (goodIn_of _ (by decide +kernel)) ggL_law_X6_assume
end
section
set_option maxRecDepth 20000 in
theorem ggL_law_X7_assume : GoodIn wsL_law wsX7_assume := goodIn_r _ [537, 457, 119, 120, 197, 198, 199, 5, 200, 111, 164, 165, 166, 453, 454, 455, 456, 645, 646, 647, 648, 649, 650, 651, 652, 653, 654, 655, 656, 657, 658, 659, 660, 661, 662, 663, 664, 665, 666, 667, 668, 669, 670, 671, 672, 673, 674, 675, 676, 677, 678, 679, 680, 681, 682, 683, 684, 685, 686] (by decide +kernel) (by decide +kernel)
set_option maxRecDepth 20000 in
theorem gL_law_X7_assume : GoodIn wsL_law (wsV RL 76 RX7 yX7_assume wsX7_assume) := goodIn_app (goodIn_of _ (by decide +kernel)) ggL_law_X7_assume
set_option maxRecDepth 20000 in
theorem ggL_law_X6_drop : GoodIn wsL_law wsX6_drop := goodIn_r _ [541, 29, 525, 628, 629, 630, 631, 632, 633, 634, 635, 636, 637, 638, 639, 640, 641, 642, 643, 644, 696, 697, 698] (by decide +kernel) (by decide +kernel)
set_option maxRecDepth 20000 in
theorem gL_law_X6_drop : GoodIn wsL_law (wsV RL 77 RX6 yX6_drop wsX6_drop) := goodIn_app (goodIn_of _ (by decide +kernel)) ggL_law_X6_drop
set_option maxRecDepth 20000 in
theorem ggL_law_X7_drop : GoodIn wsL_law wsX7_drop := goodIn_r _ [545, 457, 645, 646, 647, 648, 649, 650, 651, 652, 653, 654, 655, 656, 657, 658, 659, 660, 661, 662, 663, 664, 665, 666, 667, 668, 669, 670, 671, 672, 673, 674, 675, 676, 677, 678, 679, 680, 681, 682, 683, 684, 685, 686] (by decide +kernel) (by decide +kernel)
set_option maxRecDepth 20000 in
theorem gL_law_X7_drop : GoodIn wsL_law (wsV RL 81 RX7 yX7_drop wsX7_drop) := goodIn_app (goodIn_of _ (by decide +kernel)) ggL_law_X7_drop
set_option maxRecDepth 20000 in
theorem ggL_law_X6_prove_c : GoodIn wsL_law [Cond.code yX6_prove cX6_prove 4 (some .int)] := goodIn_r _ [549] (by decide +kernel) (by decide +kernel)
set_option maxRecDepth 20000 in
theorem ggL_law_X6_prove_r1 : GoodIn wsL_law wsX6_prove_r1 := goodIn_r _ [33, 29, 525, 39, 550, 551, 552, 553, 32, 554, 555, 556, 557, 558, 73, 74, 559, 560, 561, 2, 562, 46, 47, 563] (by decide +kernel) (by decide +kernel)
set_option maxRecDepth 20000 in
theorem ggL_law_X6_prove_r2 : GoodIn wsL_law wsX6_prove_r2 := goodIn_r _ [564, 228, 565, 566, 567, 568, 569, 570, 571, 572, 42, 573, 86, 234, 235, 236, 237, 82, 87, 84, 88, 238, 85, 239] (by decide +kernel) (by decide +kernel)
set_option maxRecDepth 20000 in
theorem ggL_law_X6_prove_r3 : GoodIn wsL_law wsX6_prove_r3 := goodIn_r _ [240, 241, 242, 81, 243, 97, 98, 99, 102, 244, 245, 246, 247, 94, 95, 96, 248, 249, 250, 251, 83, 252, 253, 254] (by decide +kernel) (by decide +kernel)
set_option maxRecDepth 20000 in
theorem ggL_law_X6_prove_r4 : GoodIn wsL_law wsX6_prove_r4 := goodIn_r _ [255, 256, 257, 258, 259, 260, 261, 262, 263, 190, 191, 18, 192, 264, 265, 266, 267, 268, 269, 270, 271, 272, 273, 274] (by decide +kernel) (by decide +kernel)
set_option maxRecDepth 20000 in
theorem ggL_law_X6_prove_r5 : GoodIn wsL_law wsX6_prove_r5 := goodIn_r _ [275, 276, 277, 278, 279, 280, 281, 282, 283, 284, 285, 286, 287, 288, 289, 290, 291, 100, 101, 292, 293, 294, 295, 89] (by decide +kernel) (by decide +kernel)
set_option maxRecDepth 20000 in
theorem ggL_law_X6_prove_r6 : GoodIn wsL_law wsX6_prove_r6 := goodIn_r _ [90, 296, 177, 178, 179, 51, 297, 298, 299, 300, 301, 302, 303, 304, 305, 103, 104, 105, 106, 306, 307, 308, 309, 310] (by decide +kernel) (by decide +kernel)
set_option maxRecDepth 20000 in
theorem ggL_law_X6_prove_r7 : GoodIn wsL_law wsX6_prove_r7 := goodIn_r _ [311, 312, 574, 575, 576, 577, 229, 421, 422, 423, 424, 578, 579, 580, 581, 582, 583, 24, 360, 584, 585, 586, 587, 526] (by decide +kernel) (by decide +kernel)
set_option maxRecDepth 20000 in
theorem ggL_law_X6_prove_r8 : GoodIn wsL_law wsX6_prove_r8 := goodIn_r _ [527, 528, 28, 529, 67, 68, 69, 425, 426, 427, 23, 428, 429, 430, 431, 432, 433, 62, 63, 434, 435, 436, 437, 438] (by decide +kernel) (by decide +kernel)
set_option maxRecDepth 20000 in
theorem ggL_law_X6_prove_r9 : GoodIn wsL_law wsX6_prove_r9 := goodIn_r _ [588, 589, 590, 591, 592] (by decide +kernel) (by decide +kernel)
set_option maxRecDepth 20000 in
theorem ggL_law_X6_prove_tX6 : GoodIn wsL_law wsX60 := goodIn_r _ [628, 629, 630, 631, 632, 633, 634, 635, 636, 637, 638, 639, 640, 641, 642, 643, 644] (by decide +kernel) (by decide +kernel)
set_option maxRecDepth 20000 in
theorem ggL_law_X6_prove_tX2 : GoodIn wsL_law wsX20 := goodIn_r _ [696, 697, 698] (by decide +kernel) (by decide +kernel)
set_option maxRecDepth 20000 in
theorem ggL_law_X6_prove_tX4 : GoodIn wsL_law wsX40 := goodIn_r _ [699, 700] (by decide +kernel) (by decide +kernel)
set_option maxRecDepth 20000 in
theorem ggL_law_X6_prove_tX1 : GoodIn wsL_law wsX10 := goodIn_r _ [701, 702, 703, 704, 705, 706, 707, 708, 709] (by decide +kernel) (by decide +kernel)
set_option maxRecDepth 20000 in
theorem ggL_law_X6_prove_tX5 : GoodIn wsL_law wsX50 := goodIn_r _ [710, 711, 712, 713, 714, 715, 716, 717, 718, 719, 720, 721, 722] (by decide +kernel) (by decide +kernel)
set_option maxRecDepth 20000 in
theorem ggL_law_X6_prove_tX0 : GoodIn wsL_law wsX00 := goodIn_r _ [687, 688, 689, 690, 691, 692] (by decide +kernel) (by decide +kernel)
set_option maxRecDepth 20000 in
theorem ggL_law_X6_prove_tX3 : GoodIn wsL_law wsX30 := goodIn_r _ [693, 694, 695] (by decide +kernel) (by decide +kernel)
theorem ggL_law_X6_prove : GoodIn wsL_law wsX6_prove := goodIn_app ggL_law_X6_prove_c (goodIn_app (goodIn_app (goodIn_app (goodIn_app (goodIn_app (goodIn_app (goodIn_app (goodIn_app ggL_law_X6_prove_r1 (goodIn_app ggL_law_X6_prove_r2 (goodIn_app ggL_law_X6_prove_r3 (goodIn_app ggL_law_X6_prove_r4 (goodIn_app ggL_law_X6_prove_r5 (goodIn_app ggL_law_X6_prove_r6 (goodIn_app ggL_law_X6_prove_r7 (goodIn_app ggL_law_X6_prove_r8 ggL_law_X6_prove_r9)))))))) ggL_law_X6_prove_tX6) ggL_law_X6_prove_tX2) ggL_law_X6_prove_tX4) ggL_law_X6_prove_tX1) ggL_law_X6_prove_tX5) ggL_law_X6_prove_tX0) ggL_law_X6_prove_tX3)
set_option maxRecDepth 20000 in
theorem gL_law_X6_prove : GoodIn wsL_law (wsV RL 82 RX6 yX6_prove wsX6_prove) := goodIn_app (goodIn_of _ (by decide +kernel)) ggL_law_X6_prove
set_option maxRecDepth 20000 in
theorem ggL_law_X7_prove_c : GoodIn wsL_law [Cond.code yX7_prove cX7_prove 3 (some .int)] := goodIn_r _ [596] (by decide +kernel) (by decide +kernel)
set_option maxRecDepth 20000 in
theorem ggL_law_X7_prove_r1 : GoodIn wsL_law wsX7_prove_r1 := goodIn_r _ [597, 457, 317, 598, 599, 600, 5, 601, 143, 344, 345, 602, 603, 604, 605, 119, 120, 125, 318, 319, 320, 321, 322, 323] (by decide +kernel) (by decide +kernel)
set_option maxRecDepth 20000 in
theorem ggL_law_X7_prove_r2 : GoodIn wsL_law wsX7_prove_r2 := goodIn_r _ [126, 127, 128, 129, 130, 134, 121, 122, 112, 324, 325, 326, 327, 123, 124, 328, 329, 330, 331, 332, 333, 334, 335, 113] (by decide +kernel) (by decide +kernel)
set_option maxRecDepth 20000 in
theorem ggL_law_X7_prove_r3 : GoodIn wsL_law wsX7_prove_r3 := goodIn_r _ [114, 115, 116, 336, 337, 338, 339, 131, 132, 133, 340, 341, 342, 343, 111, 135, 136, 137, 346, 347, 348, 349, 350, 351] (by decide +kernel) (by decide +kernel)
set_option maxRecDepth 20000 in
theorem ggL_law_X7_prove_r4 : GoodIn wsL_law wsX7_prove_r4 := goodIn_r _ [352, 449, 450, 451, 452, 453, 454, 455, 456, 458, 459, 460, 461, 462, 463, 464, 465, 118, 466, 467, 468, 469, 117, 606] (by decide +kernel) (by decide +kernel)
set_option maxRecDepth 20000 in
theorem ggL_law_X7_prove_r5 : GoodIn wsL_law wsX7_prove_r5 := goodIn_r _ [607, 608, 609, 141] (by decide +kernel) (by decide +kernel)
set_option maxRecDepth 20000 in
theorem ggL_law_X7_prove_tX7 : GoodIn wsL_law wsX70 := goodIn_r _ [645, 646, 647, 648, 649, 650, 651, 652, 653, 654, 655, 656, 657, 658, 659, 660, 661, 662, 663, 664, 665, 666, 667, 668, 669, 670, 671, 672, 673, 674, 675, 676, 677, 678, 679, 680, 681, 682, 683, 684, 685, 686] (by decide +kernel) (by decide +kernel)
theorem ggL_law_X7_prove : GoodIn wsL_law wsX7_prove := goodIn_app ggL_law_X7_prove_c (goodIn_app (goodIn_app ggL_law_X7_prove_r1 (goodIn_app ggL_law_X7_prove_r2 (goodIn_app ggL_law_X7_prove_r3 (goodIn_app ggL_law_X7_prove_r4 ggL_law_X7_prove_r5)))) ggL_law_X7_prove_tX7)
set_option maxRecDepth 20000 in
theorem gL_law_X7_prove : GoodIn wsL_law (wsV RL 85 RX7 yX7_prove wsX7_prove) := goodIn_app (goodIn_of _ (by decide +kernel)) ggL_law_X7_prove
set_option maxRecDepth 20000 in
theorem ggL_law_X6_why : GoodIn wsL_law wsX6_why := goodIn_r _ [613, 33, 614, 149, 150, 2, 151, 628, 629, 630, 631, 632, 633, 634, 635, 636, 637, 638, 639, 640, 641, 642, 643, 644, 699, 700] (by decide +kernel) (by decide +kernel)
set_option maxRecDepth 20000 in
theorem gL_law_X6_why : GoodIn wsL_law (wsV RL 86 RX6 yX6_why wsX6_why) := goodIn_app (goodIn_of _ (by decide +kernel)) ggL_law_X6_why
set_option maxRecDepth 20000 in
theorem ggL_law_X7_why : GoodIn wsL_law wsX7_why := goodIn_r _ [618, 597, 141, 164, 165, 5, 166, 645, 646, 647, 648, 649, 650, 651, 652, 653, 654, 655, 656, 657, 658, 659, 660, 661, 662, 663, 664, 665, 666, 667, 668, 669, 670, 671, 672, 673, 674, 675, 676, 677, 678, 679, 680, 681, 682, 683, 684, 685, 686] (by decide +kernel) (by decide +kernel)
set_option maxRecDepth 20000 in
theorem gL_law_X7_why : GoodIn wsL_law (wsV RL 89 RX7 yX7_why wsX7_why) := goodIn_app (goodIn_of _ (by decide +kernel)) ggL_law_X7_why
set_option maxRecDepth 20000 in
theorem ggL_law_X6_count : GoodIn wsL_law wsX6_count := goodIn_r _ [622, 19, 148, 20, 29, 525, 38, 24, 623, 396, 628, 629, 630, 631, 632, 633, 634, 635, 636, 637, 638, 639, 640, 641, 642, 643, 644, 687, 688, 689, 690, 691, 692, 696, 697, 698, 693, 694, 695] (by decide +kernel) (by decide +kernel)
set_option maxRecDepth 20000 in
theorem gL_law_X6_count : GoodIn wsL_law (wsV RL 90 RX6 yX6_count wsX6_count) := goodIn_app (goodIn_of _ (by decide +kernel)) ggL_law_X6_count
set_option maxRecDepth 20000 in
theorem ggL_law_X7_count : GoodIn wsL_law wsX7_count := goodIn_r _ [627, 117, 118, 111, 457, 142, 164, 165, 5, 166, 645, 646, 647, 648, 649, 650, 651, 652, 653, 654, 655, 656, 657, 658, 659, 660, 661, 662, 663, 664, 665, 666, 667, 668, 669, 670, 671, 672, 673, 674, 675, 676, 677, 678, 679, 680, 681, 682, 683, 684, 685, 686] (by decide +kernel) (by decide +kernel)
set_option maxRecDepth 20000 in
theorem gL_law_X7_count : GoodIn wsL_law (wsV RL 93 RX7 yX7_count wsX7_count) := goodIn_app (goodIn_of _ (by decide +kernel)) ggL_law_X7_count
end
section
theorem dL_law_0 : decode cL_law 0 = .ok (.new 7, 3) := by decide +kernel
theorem dL_law_3 : decode cL_law 3 = .ok (.dup, 1) := by decide +kernel
theorem dL_law_4 : decode cL_law 4 = .ok (.aload_n 0, 1) := by decide +kernel
theorem dL_law_5 : decode cL_law 5 = .ok (.iconst 0, 1) := by decide +kernel
theorem dL_law_6 : decode cL_law 6 = .ok (.invokestatic 9, 3) := by decide +kernel
theorem dL_law_9 : decode cL_law 9 = .ok (.invokespecial 15, 3) := by decide +kernel
theorem dL_law_12 : decode cL_law 12 = .ok (.astore_n 1, 1) := by decide +kernel
theorem dL_law_13 : decode cL_law 13 = .ok (.new 18, 3) := by decide +kernel
theorem dL_law_16 : decode cL_law 16 = .ok (.dup, 1) := by decide +kernel
theorem dL_law_17 : decode cL_law 17 = .ok (.aload_n 0, 1) := by decide +kernel
theorem dL_law_18 : decode cL_law 18 = .ok (.iconst 0, 1) := by decide +kernel
theorem dL_law_19 : decode cL_law 19 = .ok (.invokestatic 9, 3) := by decide +kernel
theorem dL_law_22 : decode cL_law 22 = .ok (.invokespecial 20, 3) := by decide +kernel
theorem dL_law_25 : decode cL_law 25 = .ok (.astore_n 2, 1) := by decide +kernel
theorem dL_law_26 : decode cL_law 26 = .ok (.iconst 1, 1) := by decide +kernel
theorem dL_law_27 : decode cL_law 27 = .ok (.istore_n 3, 1) := by decide +kernel
theorem dL_law_28 : decode cL_law 28 = .ok (.iload_n 3, 1) := by decide +kernel
theorem dL_law_29 : decode cL_law 29 = .ok (.aload_n 0, 1) := by decide +kernel
theorem dL_law_30 : decode cL_law 30 = .ok (.arraylength, 1) := by decide +kernel
theorem dL_law_31 : decode cL_law 31 = .ok (.bipush 7, 2) := by decide +kernel
theorem dL_law_33 : decode cL_law 33 = .ok (.isub, 1) := by decide +kernel
theorem dL_law_34 : decode cL_law 34 = .ok (.if_icmp .gt 619, 3) := by decide +kernel
theorem dL_law_37 : decode cL_law 37 = .ok (.aload_n 0, 1) := by decide +kernel
theorem dL_law_38 : decode cL_law 38 = .ok (.iload_n 3, 1) := by decide +kernel
theorem dL_law_39 : decode cL_law 39 = .ok (.iaload, 1) := by decide +kernel
theorem dL_law_40 : decode cL_law 40 = .ok (.bipush 31, 2) := by decide +kernel
theorem dL_law_42 : decode cL_law 42 = .ok (.iand, 1) := by decide +kernel
theorem dL_law_43 : decode cL_law 43 = .ok (.tableswitch 604 0 16 #[81, 104, 179, 212, 265, 288, 321, 354, 387, 420, 443, 466, 499, 532, 545, 558, 581], 81) := by decide +kernel
theorem dL_law_124 : decode cL_law 124 = .ok (.aload_n 1, 1) := by decide +kernel
theorem dL_law_125 : decode cL_law 125 = .ok (.aload_n 0, 1) := by decide +kernel
theorem dL_law_126 : decode cL_law 126 = .ok (.iload_n 3, 1) := by decide +kernel
theorem dL_law_127 : decode cL_law 127 = .ok (.iconst 1, 1) := by decide +kernel
theorem dL_law_128 : decode cL_law 128 = .ok (.iadd, 1) := by decide +kernel
theorem dL_law_129 : decode cL_law 129 = .ok (.iaload, 1) := by decide +kernel
theorem dL_law_130 : decode cL_law 130 = .ok (.invokevirtual 21, 3) := by decide +kernel
theorem dL_law_133 : decode cL_law 133 = .ok (.pop, 1) := by decide +kernel
theorem dL_law_134 : decode cL_law 134 = .ok (.aload_n 2, 1) := by decide +kernel
theorem dL_law_135 : decode cL_law 135 = .ok (.aload_n 0, 1) := by decide +kernel
theorem dL_law_136 : decode cL_law 136 = .ok (.iload_n 3, 1) := by decide +kernel
theorem dL_law_137 : decode cL_law 137 = .ok (.iconst 1, 1) := by decide +kernel
theorem dL_law_138 : decode cL_law 138 = .ok (.iadd, 1) := by decide +kernel
theorem dL_law_139 : decode cL_law 139 = .ok (.iaload, 1) := by decide +kernel
theorem dL_law_140 : decode cL_law 140 = .ok (.invokevirtual 25, 3) := by decide +kernel
theorem dL_law_143 : decode cL_law 143 = .ok (.pop, 1) := by decide +kernel
theorem dL_law_144 : decode cL_law 144 = .ok (.goto 503, 3) := by decide +kernel
theorem dL_law_147 : decode cL_law 147 = .ok (.aload_n 1, 1) := by decide +kernel
theorem dL_law_148 : decode cL_law 148 = .ok (.aload_n 0, 1) := by decide +kernel
theorem dL_law_149 : decode cL_law 149 = .ok (.iload_n 3, 1) := by decide +kernel
theorem dL_law_150 : decode cL_law 150 = .ok (.iconst 1, 1) := by decide +kernel
theorem dL_law_151 : decode cL_law 151 = .ok (.iadd, 1) := by decide +kernel
theorem dL_law_152 : decode cL_law 152 = .ok (.iaload, 1) := by decide +kernel
theorem dL_law_153 : decode cL_law 153 = .ok (.aload_n 0, 1) := by decide +kernel
theorem dL_law_154 : decode cL_law 154 = .ok (.iload_n 3, 1) := by decide +kernel
theorem dL_law_155 : decode cL_law 155 = .ok (.iconst 2, 1) := by decide +kernel
theorem dL_law_156 : decode cL_law 156 = .ok (.iadd, 1) := by decide +kernel
theorem dL_law_157 : decode cL_law 157 = .ok (.iaload, 1) := by decide +kernel
theorem dL_law_158 : decode cL_law 158 = .ok (.aload_n 0, 1) := by decide +kernel
theorem dL_law_159 : decode cL_law 159 = .ok (.iload_n 3, 1) := by decide +kernel
theorem dL_law_160 : decode cL_law 160 = .ok (.iconst 3, 1) := by decide +kernel
theorem dL_law_161 : decode cL_law 161 = .ok (.iadd, 1) := by decide +kernel
theorem dL_law_162 : decode cL_law 162 = .ok (.iaload, 1) := by decide +kernel
theorem dL_law_163 : decode cL_law 163 = .ok (.aload_n 0, 1) := by decide +kernel
theorem dL_law_164 : decode cL_law 164 = .ok (.iload_n 3, 1) := by decide +kernel
theorem dL_law_165 : decode cL_law 165 = .ok (.iconst 4, 1) := by decide +kernel
theorem dL_law_166 : decode cL_law 166 = .ok (.iadd, 1) := by decide +kernel
theorem dL_law_167 : decode cL_law 167 = .ok (.iaload, 1) := by decide +kernel
theorem dL_law_168 : decode cL_law 168 = .ok (.aload_n 0, 1) := by decide +kernel
theorem dL_law_169 : decode cL_law 169 = .ok (.iload_n 3, 1) := by decide +kernel
theorem dL_law_170 : decode cL_law 170 = .ok (.iconst 5, 1) := by decide +kernel
theorem dL_law_171 : decode cL_law 171 = .ok (.iadd, 1) := by decide +kernel
theorem dL_law_172 : decode cL_law 172 = .ok (.iaload, 1) := by decide +kernel
theorem dL_law_173 : decode cL_law 173 = .ok (.aload_n 0, 1) := by decide +kernel
theorem dL_law_174 : decode cL_law 174 = .ok (.iload_n 3, 1) := by decide +kernel
theorem dL_law_175 : decode cL_law 175 = .ok (.bipush 6, 2) := by decide +kernel
theorem dL_law_177 : decode cL_law 177 = .ok (.iadd, 1) := by decide +kernel
theorem dL_law_178 : decode cL_law 178 = .ok (.iaload, 1) := by decide +kernel
theorem dL_law_179 : decode cL_law 179 = .ok (.invokevirtual 26, 3) := by decide +kernel
theorem dL_law_182 : decode cL_law 182 = .ok (.pop, 1) := by decide +kernel
theorem dL_law_183 : decode cL_law 183 = .ok (.aload_n 2, 1) := by decide +kernel
theorem dL_law_184 : decode cL_law 184 = .ok (.aload_n 0, 1) := by decide +kernel
theorem dL_law_185 : decode cL_law 185 = .ok (.iload_n 3, 1) := by decide +kernel
theorem dL_law_186 : decode cL_law 186 = .ok (.iconst 1, 1) := by decide +kernel
theorem dL_law_187 : decode cL_law 187 = .ok (.iadd, 1) := by decide +kernel
theorem dL_law_188 : decode cL_law 188 = .ok (.iaload, 1) := by decide +kernel
theorem dL_law_189 : decode cL_law 189 = .ok (.aload_n 0, 1) := by decide +kernel
theorem dL_law_190 : decode cL_law 190 = .ok (.iload_n 3, 1) := by decide +kernel
theorem dL_law_191 : decode cL_law 191 = .ok (.iconst 2, 1) := by decide +kernel
theorem dL_law_192 : decode cL_law 192 = .ok (.iadd, 1) := by decide +kernel
theorem dL_law_193 : decode cL_law 193 = .ok (.iaload, 1) := by decide +kernel
theorem dL_law_194 : decode cL_law 194 = .ok (.aload_n 0, 1) := by decide +kernel
theorem dL_law_195 : decode cL_law 195 = .ok (.iload_n 3, 1) := by decide +kernel
theorem dL_law_196 : decode cL_law 196 = .ok (.iconst 3, 1) := by decide +kernel
theorem dL_law_197 : decode cL_law 197 = .ok (.iadd, 1) := by decide +kernel
theorem dL_law_198 : decode cL_law 198 = .ok (.iaload, 1) := by decide +kernel
theorem dL_law_199 : decode cL_law 199 = .ok (.aload_n 0, 1) := by decide +kernel
theorem dL_law_200 : decode cL_law 200 = .ok (.iload_n 3, 1) := by decide +kernel
theorem dL_law_201 : decode cL_law 201 = .ok (.iconst 4, 1) := by decide +kernel
theorem dL_law_202 : decode cL_law 202 = .ok (.iadd, 1) := by decide +kernel
theorem dL_law_203 : decode cL_law 203 = .ok (.iaload, 1) := by decide +kernel
theorem dL_law_204 : decode cL_law 204 = .ok (.aload_n 0, 1) := by decide +kernel
theorem dL_law_205 : decode cL_law 205 = .ok (.iload_n 3, 1) := by decide +kernel
theorem dL_law_206 : decode cL_law 206 = .ok (.iconst 5, 1) := by decide +kernel
theorem dL_law_207 : decode cL_law 207 = .ok (.iadd, 1) := by decide +kernel
theorem dL_law_208 : decode cL_law 208 = .ok (.iaload, 1) := by decide +kernel
theorem dL_law_209 : decode cL_law 209 = .ok (.aload_n 0, 1) := by decide +kernel
theorem dL_law_210 : decode cL_law 210 = .ok (.iload_n 3, 1) := by decide +kernel
theorem dL_law_211 : decode cL_law 211 = .ok (.bipush 6, 2) := by decide +kernel
theorem dL_law_213 : decode cL_law 213 = .ok (.iadd, 1) := by decide +kernel
theorem dL_law_214 : decode cL_law 214 = .ok (.iaload, 1) := by decide +kernel
theorem dL_law_215 : decode cL_law 215 = .ok (.invokevirtual 30, 3) := by decide +kernel
theorem dL_law_218 : decode cL_law 218 = .ok (.pop, 1) := by decide +kernel
theorem dL_law_219 : decode cL_law 219 = .ok (.goto 428, 3) := by decide +kernel
theorem dL_law_222 : decode cL_law 222 = .ok (.aload_n 1, 1) := by decide +kernel
theorem dL_law_223 : decode cL_law 223 = .ok (.aload_n 0, 1) := by decide +kernel
theorem dL_law_224 : decode cL_law 224 = .ok (.iload_n 3, 1) := by decide +kernel
theorem dL_law_225 : decode cL_law 225 = .ok (.iconst 1, 1) := by decide +kernel
theorem dL_law_226 : decode cL_law 226 = .ok (.iadd, 1) := by decide +kernel
theorem dL_law_227 : decode cL_law 227 = .ok (.iaload, 1) := by decide +kernel
theorem dL_law_228 : decode cL_law 228 = .ok (.aload_n 0, 1) := by decide +kernel
theorem dL_law_229 : decode cL_law 229 = .ok (.iload_n 3, 1) := by decide +kernel
theorem dL_law_230 : decode cL_law 230 = .ok (.iconst 2, 1) := by decide +kernel
theorem dL_law_231 : decode cL_law 231 = .ok (.iadd, 1) := by decide +kernel
theorem dL_law_232 : decode cL_law 232 = .ok (.iaload, 1) := by decide +kernel
theorem dL_law_233 : decode cL_law 233 = .ok (.invokevirtual 31, 3) := by decide +kernel
theorem dL_law_236 : decode cL_law 236 = .ok (.pop, 1) := by decide +kernel
theorem dL_law_237 : decode cL_law 237 = .ok (.aload_n 2, 1) := by decide +kernel
theorem dL_law_238 : decode cL_law 238 = .ok (.aload_n 0, 1) := by decide +kernel
theorem dL_law_239 : decode cL_law 239 = .ok (.iload_n 3, 1) := by decide +kernel
theorem dL_law_240 : decode cL_law 240 = .ok (.iconst 1, 1) := by decide +kernel
theorem dL_law_241 : decode cL_law 241 = .ok (.iadd, 1) := by decide +kernel
theorem dL_law_242 : decode cL_law 242 = .ok (.iaload, 1) := by decide +kernel
theorem dL_law_243 : decode cL_law 243 = .ok (.aload_n 0, 1) := by decide +kernel
theorem dL_law_244 : decode cL_law 244 = .ok (.iload_n 3, 1) := by decide +kernel
theorem dL_law_245 : decode cL_law 245 = .ok (.iconst 2, 1) := by decide +kernel
theorem dL_law_246 : decode cL_law 246 = .ok (.iadd, 1) := by decide +kernel
theorem dL_law_247 : decode cL_law 247 = .ok (.iaload, 1) := by decide +kernel
theorem dL_law_248 : decode cL_law 248 = .ok (.invokevirtual 35, 3) := by decide +kernel
theorem dL_law_251 : decode cL_law 251 = .ok (.pop, 1) := by decide +kernel
theorem dL_law_252 : decode cL_law 252 = .ok (.goto 395, 3) := by decide +kernel
theorem dL_law_255 : decode cL_law 255 = .ok (.aload_n 1, 1) := by decide +kernel
theorem dL_law_256 : decode cL_law 256 = .ok (.aload_n 0, 1) := by decide +kernel
theorem dL_law_257 : decode cL_law 257 = .ok (.iload_n 3, 1) := by decide +kernel
theorem dL_law_258 : decode cL_law 258 = .ok (.iconst 1, 1) := by decide +kernel
theorem dL_law_259 : decode cL_law 259 = .ok (.iadd, 1) := by decide +kernel
theorem dL_law_260 : decode cL_law 260 = .ok (.iaload, 1) := by decide +kernel
theorem dL_law_261 : decode cL_law 261 = .ok (.aload_n 0, 1) := by decide +kernel
theorem dL_law_262 : decode cL_law 262 = .ok (.iload_n 3, 1) := by decide +kernel
theorem dL_law_263 : decode cL_law 263 = .ok (.iconst 2, 1) := by decide +kernel
theorem dL_law_264 : decode cL_law 264 = .ok (.iadd, 1) := by decide +kernel
theorem dL_law_265 : decode cL_law 265 = .ok (.iaload, 1) := by decide +kernel
theorem dL_law_266 : decode cL_law 266 = .ok (.aload_n 0, 1) := by decide +kernel
theorem dL_law_267 : decode cL_law 267 = .ok (.iload_n 3, 1) := by decide +kernel
theorem dL_law_268 : decode cL_law 268 = .ok (.iconst 3, 1) := by decide +kernel
theorem dL_law_269 : decode cL_law 269 = .ok (.iadd, 1) := by decide +kernel
theorem dL_law_270 : decode cL_law 270 = .ok (.iaload, 1) := by decide +kernel
theorem dL_law_271 : decode cL_law 271 = .ok (.aload_n 0, 1) := by decide +kernel
theorem dL_law_272 : decode cL_law 272 = .ok (.iload_n 3, 1) := by decide +kernel
theorem dL_law_273 : decode cL_law 273 = .ok (.iconst 4, 1) := by decide +kernel
theorem dL_law_274 : decode cL_law 274 = .ok (.iadd, 1) := by decide +kernel
theorem dL_law_275 : decode cL_law 275 = .ok (.iaload, 1) := by decide +kernel
theorem dL_law_276 : decode cL_law 276 = .ok (.invokevirtual 36, 3) := by decide +kernel
theorem dL_law_279 : decode cL_law 279 = .ok (.pop, 1) := by decide +kernel
theorem dL_law_280 : decode cL_law 280 = .ok (.aload_n 2, 1) := by decide +kernel
theorem dL_law_281 : decode cL_law 281 = .ok (.aload_n 0, 1) := by decide +kernel
theorem dL_law_282 : decode cL_law 282 = .ok (.iload_n 3, 1) := by decide +kernel
theorem dL_law_283 : decode cL_law 283 = .ok (.iconst 1, 1) := by decide +kernel
theorem dL_law_284 : decode cL_law 284 = .ok (.iadd, 1) := by decide +kernel
theorem dL_law_285 : decode cL_law 285 = .ok (.iaload, 1) := by decide +kernel
theorem dL_law_286 : decode cL_law 286 = .ok (.aload_n 0, 1) := by decide +kernel
theorem dL_law_287 : decode cL_law 287 = .ok (.iload_n 3, 1) := by decide +kernel
theorem dL_law_288 : decode cL_law 288 = .ok (.iconst 2, 1) := by decide +kernel
theorem dL_law_289 : decode cL_law 289 = .ok (.iadd, 1) := by decide +kernel
theorem dL_law_290 : decode cL_law 290 = .ok (.iaload, 1) := by decide +kernel
theorem dL_law_291 : decode cL_law 291 = .ok (.aload_n 0, 1) := by decide +kernel
theorem dL_law_292 : decode cL_law 292 = .ok (.iload_n 3, 1) := by decide +kernel
theorem dL_law_293 : decode cL_law 293 = .ok (.iconst 3, 1) := by decide +kernel
theorem dL_law_294 : decode cL_law 294 = .ok (.iadd, 1) := by decide +kernel
theorem dL_law_295 : decode cL_law 295 = .ok (.iaload, 1) := by decide +kernel
theorem dL_law_296 : decode cL_law 296 = .ok (.aload_n 0, 1) := by decide +kernel
theorem dL_law_297 : decode cL_law 297 = .ok (.iload_n 3, 1) := by decide +kernel
theorem dL_law_298 : decode cL_law 298 = .ok (.iconst 4, 1) := by decide +kernel
theorem dL_law_299 : decode cL_law 299 = .ok (.iadd, 1) := by decide +kernel
theorem dL_law_300 : decode cL_law 300 = .ok (.iaload, 1) := by decide +kernel
theorem dL_law_301 : decode cL_law 301 = .ok (.invokevirtual 40, 3) := by decide +kernel
theorem dL_law_304 : decode cL_law 304 = .ok (.pop, 1) := by decide +kernel
theorem dL_law_305 : decode cL_law 305 = .ok (.goto 342, 3) := by decide +kernel
theorem dL_law_308 : decode cL_law 308 = .ok (.aload_n 1, 1) := by decide +kernel
theorem dL_law_309 : decode cL_law 309 = .ok (.aload_n 0, 1) := by decide +kernel
theorem dL_law_310 : decode cL_law 310 = .ok (.iload_n 3, 1) := by decide +kernel
theorem dL_law_311 : decode cL_law 311 = .ok (.iconst 1, 1) := by decide +kernel
theorem dL_law_312 : decode cL_law 312 = .ok (.iadd, 1) := by decide +kernel
theorem dL_law_313 : decode cL_law 313 = .ok (.iaload, 1) := by decide +kernel
theorem dL_law_314 : decode cL_law 314 = .ok (.invokevirtual 41, 3) := by decide +kernel
theorem dL_law_317 : decode cL_law 317 = .ok (.pop, 1) := by decide +kernel
theorem dL_law_318 : decode cL_law 318 = .ok (.aload_n 2, 1) := by decide +kernel
theorem dL_law_319 : decode cL_law 319 = .ok (.aload_n 0, 1) := by decide +kernel
theorem dL_law_320 : decode cL_law 320 = .ok (.iload_n 3, 1) := by decide +kernel
theorem dL_law_321 : decode cL_law 321 = .ok (.iconst 1, 1) := by decide +kernel
theorem dL_law_322 : decode cL_law 322 = .ok (.iadd, 1) := by decide +kernel
theorem dL_law_323 : decode cL_law 323 = .ok (.iaload, 1) := by decide +kernel
theorem dL_law_324 : decode cL_law 324 = .ok (.invokevirtual 44, 3) := by decide +kernel
theorem dL_law_327 : decode cL_law 327 = .ok (.pop, 1) := by decide +kernel
theorem dL_law_328 : decode cL_law 328 = .ok (.goto 319, 3) := by decide +kernel
theorem dL_law_331 : decode cL_law 331 = .ok (.aload_n 1, 1) := by decide +kernel
theorem dL_law_332 : decode cL_law 332 = .ok (.aload_n 0, 1) := by decide +kernel
theorem dL_law_333 : decode cL_law 333 = .ok (.iload_n 3, 1) := by decide +kernel
theorem dL_law_334 : decode cL_law 334 = .ok (.iconst 1, 1) := by decide +kernel
theorem dL_law_335 : decode cL_law 335 = .ok (.iadd, 1) := by decide +kernel
theorem dL_law_336 : decode cL_law 336 = .ok (.iaload, 1) := by decide +kernel
theorem dL_law_337 : decode cL_law 337 = .ok (.aload_n 0, 1) := by decide +kernel
theorem dL_law_338 : decode cL_law 338 = .ok (.iload_n 3, 1) := by decide +kernel
theorem dL_law_339 : decode cL_law 339 = .ok (.iconst 2, 1) := by decide +kernel
theorem dL_law_340 : decode cL_law 340 = .ok (.iadd, 1) := by decide +kernel
theorem dL_law_341 : decode cL_law 341 = .ok (.iaload, 1) := by decide +kernel
theorem dL_law_342 : decode cL_law 342 = .ok (.invokevirtual 45, 3) := by decide +kernel
theorem dL_law_345 : decode cL_law 345 = .ok (.pop, 1) := by decide +kernel
theorem dL_law_346 : decode cL_law 346 = .ok (.aload_n 2, 1) := by decide +kernel
theorem dL_law_347 : decode cL_law 347 = .ok (.aload_n 0, 1) := by decide +kernel
theorem dL_law_348 : decode cL_law 348 = .ok (.iload_n 3, 1) := by decide +kernel
theorem dL_law_349 : decode cL_law 349 = .ok (.iconst 1, 1) := by decide +kernel
theorem dL_law_350 : decode cL_law 350 = .ok (.iadd, 1) := by decide +kernel
theorem dL_law_351 : decode cL_law 351 = .ok (.iaload, 1) := by decide +kernel
theorem dL_law_352 : decode cL_law 352 = .ok (.aload_n 0, 1) := by decide +kernel
theorem dL_law_353 : decode cL_law 353 = .ok (.iload_n 3, 1) := by decide +kernel
theorem dL_law_354 : decode cL_law 354 = .ok (.iconst 2, 1) := by decide +kernel
theorem dL_law_355 : decode cL_law 355 = .ok (.iadd, 1) := by decide +kernel
theorem dL_law_356 : decode cL_law 356 = .ok (.iaload, 1) := by decide +kernel
theorem dL_law_357 : decode cL_law 357 = .ok (.invokevirtual 48, 3) := by decide +kernel
theorem dL_law_360 : decode cL_law 360 = .ok (.pop, 1) := by decide +kernel
theorem dL_law_361 : decode cL_law 361 = .ok (.goto 286, 3) := by decide +kernel
theorem dL_law_364 : decode cL_law 364 = .ok (.aload_n 1, 1) := by decide +kernel
theorem dL_law_365 : decode cL_law 365 = .ok (.aload_n 0, 1) := by decide +kernel
theorem dL_law_366 : decode cL_law 366 = .ok (.iload_n 3, 1) := by decide +kernel
theorem dL_law_367 : decode cL_law 367 = .ok (.iconst 1, 1) := by decide +kernel
theorem dL_law_368 : decode cL_law 368 = .ok (.iadd, 1) := by decide +kernel
theorem dL_law_369 : decode cL_law 369 = .ok (.iaload, 1) := by decide +kernel
theorem dL_law_370 : decode cL_law 370 = .ok (.aload_n 0, 1) := by decide +kernel
theorem dL_law_371 : decode cL_law 371 = .ok (.iload_n 3, 1) := by decide +kernel
theorem dL_law_372 : decode cL_law 372 = .ok (.iconst 2, 1) := by decide +kernel
theorem dL_law_373 : decode cL_law 373 = .ok (.iadd, 1) := by decide +kernel
theorem dL_law_374 : decode cL_law 374 = .ok (.iaload, 1) := by decide +kernel
theorem dL_law_375 : decode cL_law 375 = .ok (.invokevirtual 49, 3) := by decide +kernel
theorem dL_law_378 : decode cL_law 378 = .ok (.pop, 1) := by decide +kernel
theorem dL_law_379 : decode cL_law 379 = .ok (.aload_n 2, 1) := by decide +kernel
theorem dL_law_380 : decode cL_law 380 = .ok (.aload_n 0, 1) := by decide +kernel
theorem dL_law_381 : decode cL_law 381 = .ok (.iload_n 3, 1) := by decide +kernel
theorem dL_law_382 : decode cL_law 382 = .ok (.iconst 1, 1) := by decide +kernel
theorem dL_law_383 : decode cL_law 383 = .ok (.iadd, 1) := by decide +kernel
theorem dL_law_384 : decode cL_law 384 = .ok (.iaload, 1) := by decide +kernel
theorem dL_law_385 : decode cL_law 385 = .ok (.aload_n 0, 1) := by decide +kernel
theorem dL_law_386 : decode cL_law 386 = .ok (.iload_n 3, 1) := by decide +kernel
theorem dL_law_387 : decode cL_law 387 = .ok (.iconst 2, 1) := by decide +kernel
theorem dL_law_388 : decode cL_law 388 = .ok (.iadd, 1) := by decide +kernel
theorem dL_law_389 : decode cL_law 389 = .ok (.iaload, 1) := by decide +kernel
theorem dL_law_390 : decode cL_law 390 = .ok (.invokevirtual 52, 3) := by decide +kernel
theorem dL_law_393 : decode cL_law 393 = .ok (.pop, 1) := by decide +kernel
theorem dL_law_394 : decode cL_law 394 = .ok (.goto 253, 3) := by decide +kernel
theorem dL_law_397 : decode cL_law 397 = .ok (.aload_n 1, 1) := by decide +kernel
theorem dL_law_398 : decode cL_law 398 = .ok (.aload_n 0, 1) := by decide +kernel
theorem dL_law_399 : decode cL_law 399 = .ok (.iload_n 3, 1) := by decide +kernel
theorem dL_law_400 : decode cL_law 400 = .ok (.iconst 1, 1) := by decide +kernel
theorem dL_law_401 : decode cL_law 401 = .ok (.iadd, 1) := by decide +kernel
theorem dL_law_402 : decode cL_law 402 = .ok (.iaload, 1) := by decide +kernel
theorem dL_law_403 : decode cL_law 403 = .ok (.aload_n 0, 1) := by decide +kernel
theorem dL_law_404 : decode cL_law 404 = .ok (.iload_n 3, 1) := by decide +kernel
theorem dL_law_405 : decode cL_law 405 = .ok (.iconst 2, 1) := by decide +kernel
theorem dL_law_406 : decode cL_law 406 = .ok (.iadd, 1) := by decide +kernel
theorem dL_law_407 : decode cL_law 407 = .ok (.iaload, 1) := by decide +kernel
theorem dL_law_408 : decode cL_law 408 = .ok (.invokevirtual 53, 3) := by decide +kernel
theorem dL_law_411 : decode cL_law 411 = .ok (.pop, 1) := by decide +kernel
theorem dL_law_412 : decode cL_law 412 = .ok (.aload_n 2, 1) := by decide +kernel
theorem dL_law_413 : decode cL_law 413 = .ok (.aload_n 0, 1) := by decide +kernel
theorem dL_law_414 : decode cL_law 414 = .ok (.iload_n 3, 1) := by decide +kernel
theorem dL_law_415 : decode cL_law 415 = .ok (.iconst 1, 1) := by decide +kernel
theorem dL_law_416 : decode cL_law 416 = .ok (.iadd, 1) := by decide +kernel
theorem dL_law_417 : decode cL_law 417 = .ok (.iaload, 1) := by decide +kernel
theorem dL_law_418 : decode cL_law 418 = .ok (.aload_n 0, 1) := by decide +kernel
theorem dL_law_419 : decode cL_law 419 = .ok (.iload_n 3, 1) := by decide +kernel
theorem dL_law_420 : decode cL_law 420 = .ok (.iconst 2, 1) := by decide +kernel
theorem dL_law_421 : decode cL_law 421 = .ok (.iadd, 1) := by decide +kernel
theorem dL_law_422 : decode cL_law 422 = .ok (.iaload, 1) := by decide +kernel
theorem dL_law_423 : decode cL_law 423 = .ok (.invokevirtual 56, 3) := by decide +kernel
theorem dL_law_426 : decode cL_law 426 = .ok (.pop, 1) := by decide +kernel
theorem dL_law_427 : decode cL_law 427 = .ok (.goto 220, 3) := by decide +kernel
theorem dL_law_430 : decode cL_law 430 = .ok (.aload_n 1, 1) := by decide +kernel
theorem dL_law_431 : decode cL_law 431 = .ok (.aload_n 0, 1) := by decide +kernel
theorem dL_law_432 : decode cL_law 432 = .ok (.iload_n 3, 1) := by decide +kernel
theorem dL_law_433 : decode cL_law 433 = .ok (.iconst 1, 1) := by decide +kernel
theorem dL_law_434 : decode cL_law 434 = .ok (.iadd, 1) := by decide +kernel
theorem dL_law_435 : decode cL_law 435 = .ok (.iaload, 1) := by decide +kernel
theorem dL_law_436 : decode cL_law 436 = .ok (.aload_n 0, 1) := by decide +kernel
theorem dL_law_437 : decode cL_law 437 = .ok (.iload_n 3, 1) := by decide +kernel
theorem dL_law_438 : decode cL_law 438 = .ok (.iconst 2, 1) := by decide +kernel
theorem dL_law_439 : decode cL_law 439 = .ok (.iadd, 1) := by decide +kernel
theorem dL_law_440 : decode cL_law 440 = .ok (.iaload, 1) := by decide +kernel
theorem dL_law_441 : decode cL_law 441 = .ok (.invokevirtual 57, 3) := by decide +kernel
theorem dL_law_444 : decode cL_law 444 = .ok (.pop, 1) := by decide +kernel
theorem dL_law_445 : decode cL_law 445 = .ok (.aload_n 2, 1) := by decide +kernel
theorem dL_law_446 : decode cL_law 446 = .ok (.aload_n 0, 1) := by decide +kernel
theorem dL_law_447 : decode cL_law 447 = .ok (.iload_n 3, 1) := by decide +kernel
theorem dL_law_448 : decode cL_law 448 = .ok (.iconst 1, 1) := by decide +kernel
theorem dL_law_449 : decode cL_law 449 = .ok (.iadd, 1) := by decide +kernel
theorem dL_law_450 : decode cL_law 450 = .ok (.iaload, 1) := by decide +kernel
theorem dL_law_451 : decode cL_law 451 = .ok (.aload_n 0, 1) := by decide +kernel
theorem dL_law_452 : decode cL_law 452 = .ok (.iload_n 3, 1) := by decide +kernel
theorem dL_law_453 : decode cL_law 453 = .ok (.iconst 2, 1) := by decide +kernel
theorem dL_law_454 : decode cL_law 454 = .ok (.iadd, 1) := by decide +kernel
theorem dL_law_455 : decode cL_law 455 = .ok (.iaload, 1) := by decide +kernel
theorem dL_law_456 : decode cL_law 456 = .ok (.invokevirtual 60, 3) := by decide +kernel
theorem dL_law_459 : decode cL_law 459 = .ok (.pop, 1) := by decide +kernel
theorem dL_law_460 : decode cL_law 460 = .ok (.goto 187, 3) := by decide +kernel
theorem dL_law_463 : decode cL_law 463 = .ok (.aload_n 1, 1) := by decide +kernel
theorem dL_law_464 : decode cL_law 464 = .ok (.aload_n 0, 1) := by decide +kernel
theorem dL_law_465 : decode cL_law 465 = .ok (.iload_n 3, 1) := by decide +kernel
theorem dL_law_466 : decode cL_law 466 = .ok (.iconst 1, 1) := by decide +kernel
theorem dL_law_467 : decode cL_law 467 = .ok (.iadd, 1) := by decide +kernel
theorem dL_law_468 : decode cL_law 468 = .ok (.iaload, 1) := by decide +kernel
theorem dL_law_469 : decode cL_law 469 = .ok (.invokevirtual 61, 3) := by decide +kernel
theorem dL_law_472 : decode cL_law 472 = .ok (.pop, 1) := by decide +kernel
theorem dL_law_473 : decode cL_law 473 = .ok (.aload_n 2, 1) := by decide +kernel
theorem dL_law_474 : decode cL_law 474 = .ok (.aload_n 0, 1) := by decide +kernel
theorem dL_law_475 : decode cL_law 475 = .ok (.iload_n 3, 1) := by decide +kernel
theorem dL_law_476 : decode cL_law 476 = .ok (.iconst 1, 1) := by decide +kernel
theorem dL_law_477 : decode cL_law 477 = .ok (.iadd, 1) := by decide +kernel
theorem dL_law_478 : decode cL_law 478 = .ok (.iaload, 1) := by decide +kernel
theorem dL_law_479 : decode cL_law 479 = .ok (.invokevirtual 64, 3) := by decide +kernel
theorem dL_law_482 : decode cL_law 482 = .ok (.pop, 1) := by decide +kernel
theorem dL_law_483 : decode cL_law 483 = .ok (.goto 164, 3) := by decide +kernel
theorem dL_law_486 : decode cL_law 486 = .ok (.aload_n 1, 1) := by decide +kernel
theorem dL_law_487 : decode cL_law 487 = .ok (.aload_n 0, 1) := by decide +kernel
theorem dL_law_488 : decode cL_law 488 = .ok (.iload_n 3, 1) := by decide +kernel
theorem dL_law_489 : decode cL_law 489 = .ok (.iconst 1, 1) := by decide +kernel
theorem dL_law_490 : decode cL_law 490 = .ok (.iadd, 1) := by decide +kernel
theorem dL_law_491 : decode cL_law 491 = .ok (.iaload, 1) := by decide +kernel
theorem dL_law_492 : decode cL_law 492 = .ok (.invokevirtual 65, 3) := by decide +kernel
theorem dL_law_495 : decode cL_law 495 = .ok (.pop, 1) := by decide +kernel
theorem dL_law_496 : decode cL_law 496 = .ok (.aload_n 2, 1) := by decide +kernel
theorem dL_law_497 : decode cL_law 497 = .ok (.aload_n 0, 1) := by decide +kernel
theorem dL_law_498 : decode cL_law 498 = .ok (.iload_n 3, 1) := by decide +kernel
theorem dL_law_499 : decode cL_law 499 = .ok (.iconst 1, 1) := by decide +kernel
theorem dL_law_500 : decode cL_law 500 = .ok (.iadd, 1) := by decide +kernel
theorem dL_law_501 : decode cL_law 501 = .ok (.iaload, 1) := by decide +kernel
theorem dL_law_502 : decode cL_law 502 = .ok (.invokevirtual 68, 3) := by decide +kernel
theorem dL_law_505 : decode cL_law 505 = .ok (.pop, 1) := by decide +kernel
theorem dL_law_506 : decode cL_law 506 = .ok (.goto 141, 3) := by decide +kernel
theorem dL_law_509 : decode cL_law 509 = .ok (.aload_n 1, 1) := by decide +kernel
theorem dL_law_510 : decode cL_law 510 = .ok (.aload_n 0, 1) := by decide +kernel
theorem dL_law_511 : decode cL_law 511 = .ok (.iload_n 3, 1) := by decide +kernel
theorem dL_law_512 : decode cL_law 512 = .ok (.iconst 1, 1) := by decide +kernel
theorem dL_law_513 : decode cL_law 513 = .ok (.iadd, 1) := by decide +kernel
theorem dL_law_514 : decode cL_law 514 = .ok (.iaload, 1) := by decide +kernel
theorem dL_law_515 : decode cL_law 515 = .ok (.aload_n 0, 1) := by decide +kernel
theorem dL_law_516 : decode cL_law 516 = .ok (.iload_n 3, 1) := by decide +kernel
theorem dL_law_517 : decode cL_law 517 = .ok (.iconst 2, 1) := by decide +kernel
theorem dL_law_518 : decode cL_law 518 = .ok (.iadd, 1) := by decide +kernel
theorem dL_law_519 : decode cL_law 519 = .ok (.iaload, 1) := by decide +kernel
theorem dL_law_520 : decode cL_law 520 = .ok (.invokevirtual 69, 3) := by decide +kernel
theorem dL_law_523 : decode cL_law 523 = .ok (.pop, 1) := by decide +kernel
theorem dL_law_524 : decode cL_law 524 = .ok (.aload_n 2, 1) := by decide +kernel
theorem dL_law_525 : decode cL_law 525 = .ok (.aload_n 0, 1) := by decide +kernel
theorem dL_law_526 : decode cL_law 526 = .ok (.iload_n 3, 1) := by decide +kernel
theorem dL_law_527 : decode cL_law 527 = .ok (.iconst 1, 1) := by decide +kernel
theorem dL_law_528 : decode cL_law 528 = .ok (.iadd, 1) := by decide +kernel
theorem dL_law_529 : decode cL_law 529 = .ok (.iaload, 1) := by decide +kernel
theorem dL_law_530 : decode cL_law 530 = .ok (.aload_n 0, 1) := by decide +kernel
theorem dL_law_531 : decode cL_law 531 = .ok (.iload_n 3, 1) := by decide +kernel
theorem dL_law_532 : decode cL_law 532 = .ok (.iconst 2, 1) := by decide +kernel
theorem dL_law_533 : decode cL_law 533 = .ok (.iadd, 1) := by decide +kernel
theorem dL_law_534 : decode cL_law 534 = .ok (.iaload, 1) := by decide +kernel
theorem dL_law_535 : decode cL_law 535 = .ok (.invokevirtual 72, 3) := by decide +kernel
theorem dL_law_538 : decode cL_law 538 = .ok (.pop, 1) := by decide +kernel
theorem dL_law_539 : decode cL_law 539 = .ok (.goto 108, 3) := by decide +kernel
theorem dL_law_542 : decode cL_law 542 = .ok (.aload_n 1, 1) := by decide +kernel
theorem dL_law_543 : decode cL_law 543 = .ok (.aload_n 0, 1) := by decide +kernel
theorem dL_law_544 : decode cL_law 544 = .ok (.iload_n 3, 1) := by decide +kernel
theorem dL_law_545 : decode cL_law 545 = .ok (.iconst 1, 1) := by decide +kernel
theorem dL_law_546 : decode cL_law 546 = .ok (.iadd, 1) := by decide +kernel
theorem dL_law_547 : decode cL_law 547 = .ok (.iaload, 1) := by decide +kernel
theorem dL_law_548 : decode cL_law 548 = .ok (.aload_n 0, 1) := by decide +kernel
theorem dL_law_549 : decode cL_law 549 = .ok (.iload_n 3, 1) := by decide +kernel
theorem dL_law_550 : decode cL_law 550 = .ok (.iconst 2, 1) := by decide +kernel
theorem dL_law_551 : decode cL_law 551 = .ok (.iadd, 1) := by decide +kernel
theorem dL_law_552 : decode cL_law 552 = .ok (.iaload, 1) := by decide +kernel
theorem dL_law_553 : decode cL_law 553 = .ok (.invokevirtual 73, 3) := by decide +kernel
theorem dL_law_556 : decode cL_law 556 = .ok (.pop, 1) := by decide +kernel
theorem dL_law_557 : decode cL_law 557 = .ok (.aload_n 2, 1) := by decide +kernel
theorem dL_law_558 : decode cL_law 558 = .ok (.aload_n 0, 1) := by decide +kernel
theorem dL_law_559 : decode cL_law 559 = .ok (.iload_n 3, 1) := by decide +kernel
theorem dL_law_560 : decode cL_law 560 = .ok (.iconst 1, 1) := by decide +kernel
theorem dL_law_561 : decode cL_law 561 = .ok (.iadd, 1) := by decide +kernel
theorem dL_law_562 : decode cL_law 562 = .ok (.iaload, 1) := by decide +kernel
theorem dL_law_563 : decode cL_law 563 = .ok (.aload_n 0, 1) := by decide +kernel
theorem dL_law_564 : decode cL_law 564 = .ok (.iload_n 3, 1) := by decide +kernel
theorem dL_law_565 : decode cL_law 565 = .ok (.iconst 2, 1) := by decide +kernel
theorem dL_law_566 : decode cL_law 566 = .ok (.iadd, 1) := by decide +kernel
theorem dL_law_567 : decode cL_law 567 = .ok (.iaload, 1) := by decide +kernel
theorem dL_law_568 : decode cL_law 568 = .ok (.invokevirtual 76, 3) := by decide +kernel
theorem dL_law_571 : decode cL_law 571 = .ok (.pop, 1) := by decide +kernel
theorem dL_law_572 : decode cL_law 572 = .ok (.goto 75, 3) := by decide +kernel
theorem dL_law_575 : decode cL_law 575 = .ok (.aload_n 1, 1) := by decide +kernel
theorem dL_law_576 : decode cL_law 576 = .ok (.invokevirtual 77, 3) := by decide +kernel
theorem dL_law_579 : decode cL_law 579 = .ok (.pop, 1) := by decide +kernel
theorem dL_law_580 : decode cL_law 580 = .ok (.aload_n 2, 1) := by decide +kernel
theorem dL_law_581 : decode cL_law 581 = .ok (.invokevirtual 81, 3) := by decide +kernel
theorem dL_law_584 : decode cL_law 584 = .ok (.pop, 1) := by decide +kernel
theorem dL_law_585 : decode cL_law 585 = .ok (.goto 62, 3) := by decide +kernel
theorem dL_law_588 : decode cL_law 588 = .ok (.aload_n 1, 1) := by decide +kernel
theorem dL_law_589 : decode cL_law 589 = .ok (.invokevirtual 82, 3) := by decide +kernel
theorem dL_law_592 : decode cL_law 592 = .ok (.pop, 1) := by decide +kernel
theorem dL_law_593 : decode cL_law 593 = .ok (.aload_n 2, 1) := by decide +kernel
theorem dL_law_594 : decode cL_law 594 = .ok (.invokevirtual 85, 3) := by decide +kernel
theorem dL_law_597 : decode cL_law 597 = .ok (.pop, 1) := by decide +kernel
theorem dL_law_598 : decode cL_law 598 = .ok (.goto 49, 3) := by decide +kernel
theorem dL_law_601 : decode cL_law 601 = .ok (.aload_n 1, 1) := by decide +kernel
theorem dL_law_602 : decode cL_law 602 = .ok (.aload_n 0, 1) := by decide +kernel
theorem dL_law_603 : decode cL_law 603 = .ok (.iload_n 3, 1) := by decide +kernel
theorem dL_law_604 : decode cL_law 604 = .ok (.iconst 1, 1) := by decide +kernel
theorem dL_law_605 : decode cL_law 605 = .ok (.iadd, 1) := by decide +kernel
theorem dL_law_606 : decode cL_law 606 = .ok (.iaload, 1) := by decide +kernel
theorem dL_law_607 : decode cL_law 607 = .ok (.invokevirtual 86, 3) := by decide +kernel
theorem dL_law_610 : decode cL_law 610 = .ok (.pop, 1) := by decide +kernel
theorem dL_law_611 : decode cL_law 611 = .ok (.aload_n 2, 1) := by decide +kernel
theorem dL_law_612 : decode cL_law 612 = .ok (.aload_n 0, 1) := by decide +kernel
theorem dL_law_613 : decode cL_law 613 = .ok (.iload_n 3, 1) := by decide +kernel
theorem dL_law_614 : decode cL_law 614 = .ok (.iconst 1, 1) := by decide +kernel
theorem dL_law_615 : decode cL_law 615 = .ok (.iadd, 1) := by decide +kernel
theorem dL_law_616 : decode cL_law 616 = .ok (.iaload, 1) := by decide +kernel
theorem dL_law_617 : decode cL_law 617 = .ok (.invokevirtual 89, 3) := by decide +kernel
theorem dL_law_620 : decode cL_law 620 = .ok (.pop, 1) := by decide +kernel
theorem dL_law_621 : decode cL_law 621 = .ok (.goto 26, 3) := by decide +kernel
theorem dL_law_624 : decode cL_law 624 = .ok (.aload_n 1, 1) := by decide +kernel
theorem dL_law_625 : decode cL_law 625 = .ok (.aload_n 0, 1) := by decide +kernel
theorem dL_law_626 : decode cL_law 626 = .ok (.iload_n 3, 1) := by decide +kernel
theorem dL_law_627 : decode cL_law 627 = .ok (.iconst 1, 1) := by decide +kernel
theorem dL_law_628 : decode cL_law 628 = .ok (.iadd, 1) := by decide +kernel
theorem dL_law_629 : decode cL_law 629 = .ok (.iaload, 1) := by decide +kernel
theorem dL_law_630 : decode cL_law 630 = .ok (.invokevirtual 90, 3) := by decide +kernel
theorem dL_law_633 : decode cL_law 633 = .ok (.aload_n 2, 1) := by decide +kernel
theorem dL_law_634 : decode cL_law 634 = .ok (.aload_n 0, 1) := by decide +kernel
theorem dL_law_635 : decode cL_law 635 = .ok (.iload_n 3, 1) := by decide +kernel
theorem dL_law_636 : decode cL_law 636 = .ok (.iconst 1, 1) := by decide +kernel
theorem dL_law_637 : decode cL_law 637 = .ok (.iadd, 1) := by decide +kernel
theorem dL_law_638 : decode cL_law 638 = .ok (.iaload, 1) := by decide +kernel
theorem dL_law_639 : decode cL_law 639 = .ok (.invokevirtual 93, 3) := by decide +kernel
theorem dL_law_642 : decode cL_law 642 = .ok (.if_icmp .eq 5, 3) := by decide +kernel
theorem dL_law_645 : decode cL_law 645 = .ok (.iconst 0, 1) := by decide +kernel
theorem dL_law_646 : decode cL_law 646 = .ok (.ireturn, 1) := by decide +kernel
theorem dL_law_647 : decode cL_law 647 = .ok (.iinc 3 7, 3) := by decide +kernel
theorem dL_law_650 : decode cL_law 650 = .ok (.goto (-622), 3) := by decide +kernel
theorem dL_law_653 : decode cL_law 653 = .ok (.iconst 1, 1) := by decide +kernel
theorem dL_law_654 : decode cL_law 654 = .ok (.ireturn, 1) := by decide +kernel
abbrev vwCl : List vw_C := [(RX0, TX0, 6), (RX1, TX1, 9), (RX2, TX2, 3), (RX3, TX3, 3), (RX4, TX4, 2), (RX5, TX5, 13), (RX6, TX6, 17), (RX7, TX7, 42)]
end
