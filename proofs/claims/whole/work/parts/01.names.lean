-- ===== PART A: goes FIRST, ahead of the names: the tables' words, and 'selects' of the private methods out of them =====
/-- a private method of a class that the tables say can be made, by its rows of tables_1 -/
def lw_okq (q : MethodName × Nat) : Prop := (q.1.cls ≠ "java/lang/invoke/MethodHandle" ∧ q.1.cls ≠ "java/lang/invoke/VarHandle") ∧ Cond.instantiable q.1.cls q.2 ∈ tables_1 ∧ Cond.privateMethod q.1 ∈ tables_1 ∧ Cond.instanceMethod q.1 ∈ tables_1
theorem lw_p0 : lw_okq (⟨"FieldsTold", "error", "(I)I"⟩, 8) := ⟨⟨by decide +kernel, by decide +kernel⟩, List.mem_of_getElem? (i := 19) (by decide +kernel), List.mem_of_getElem? (i := 322) (by decide +kernel), List.mem_of_getElem? (i := 323) (by decide +kernel)⟩
theorem lw_p1 : lw_okq (⟨"FieldsTold$Field", "greatestBy", "([I)I"⟩, 8) := ⟨⟨by decide +kernel, by decide +kernel⟩, List.mem_of_getElem? (i := 60) (by decide +kernel), List.mem_of_getElem? (i := 355) (by decide +kernel), List.mem_of_getElem? (i := 356) (by decide +kernel)⟩
theorem lw_p2 : lw_okq (⟨"FieldsTold$Land", "hasTitle", "(ILFieldsTold$Field;)Z"⟩, 14) := ⟨⟨by decide +kernel, by decide +kernel⟩, List.mem_of_getElem? (i := 27) (by decide +kernel), List.mem_of_getElem? (i := 364) (by decide +kernel), List.mem_of_getElem? (i := 365) (by decide +kernel)⟩
theorem lw_p3 : lw_okq (⟨"FieldsTold$Reader", "readLevel", "(I)V"⟩, 8) := ⟨⟨by decide +kernel, by decide +kernel⟩, List.mem_of_getElem? (i := 178) (by decide +kernel), List.mem_of_getElem? (i := 491) (by decide +kernel), List.mem_of_getElem? (i := 492) (by decide +kernel)⟩
theorem lw_p4 : lw_okq (⟨"FieldsTold$Reader", "readQ", "()V"⟩, 8) := ⟨⟨by decide +kernel, by decide +kernel⟩, List.mem_of_getElem? (i := 178) (by decide +kernel), List.mem_of_getElem? (i := 495) (by decide +kernel), List.mem_of_getElem? (i := 496) (by decide +kernel)⟩
theorem lw_p5 : lw_okq (⟨"FieldsTold$Reader", "isNextOf", "(Ljava/lang/String;)Z"⟩, 8) := ⟨⟨by decide +kernel, by decide +kernel⟩, List.mem_of_getElem? (i := 178) (by decide +kernel), List.mem_of_getElem? (i := 500) (by decide +kernel), List.mem_of_getElem? (i := 501) (by decide +kernel)⟩
theorem lw_p6 : lw_okq (⟨"FieldsTold$Reader", "readNumber", "()V"⟩, 8) := ⟨⟨by decide +kernel, by decide +kernel⟩, List.mem_of_getElem? (i := 178) (by decide +kernel), List.mem_of_getElem? (i := 586) (by decide +kernel), List.mem_of_getElem? (i := 587) (by decide +kernel)⟩
theorem lw_p7 : lw_okq (⟨"FieldsTold$Reader", "take", "()I"⟩, 8) := ⟨⟨by decide +kernel, by decide +kernel⟩, List.mem_of_getElem? (i := 178) (by decide +kernel), List.mem_of_getElem? (i := 590) (by decide +kernel), List.mem_of_getElem? (i := 591) (by decide +kernel)⟩
theorem lw_p8 : lw_okq (⟨"FieldsTold$Reader", "emit", "(I)V"⟩, 8) := ⟨⟨by decide +kernel, by decide +kernel⟩, List.mem_of_getElem? (i := 178) (by decide +kernel), List.mem_of_getElem? (i := 594) (by decide +kernel), List.mem_of_getElem? (i := 595) (by decide +kernel)⟩
theorem lw_p9 : lw_okq (⟨"FieldsTold$Reader", "readOpened", "()V"⟩, 8) := ⟨⟨by decide +kernel, by decide +kernel⟩, List.mem_of_getElem? (i := 178) (by decide +kernel), List.mem_of_getElem? (i := 599) (by decide +kernel), List.mem_of_getElem? (i := 600) (by decide +kernel)⟩
theorem lw_p10 : lw_okq (⟨"FieldsTold$Thought", "leadNow", "(II)I"⟩, 6) := ⟨⟨by decide +kernel, by decide +kernel⟩, List.mem_of_getElem? (i := 212) (by decide +kernel), List.mem_of_getElem? (i := 674) (by decide +kernel), List.mem_of_getElem? (i := 675) (by decide +kernel)⟩
theorem lw_p11 : lw_okq (⟨"FieldsTold$Thought", "noteIfSaid", "(LFieldsTold$Sheet;I)V"⟩, 6) := ⟨⟨by decide +kernel, by decide +kernel⟩, List.mem_of_getElem? (i := 212) (by decide +kernel), List.mem_of_getElem? (i := 691) (by decide +kernel), List.mem_of_getElem? (i := 692) (by decide +kernel)⟩
theorem lw_p12 : lw_okq (⟨"FieldsTold$Voice", "begin", "(I)V"⟩, 5) := ⟨⟨by decide +kernel, by decide +kernel⟩, List.mem_of_getElem? (i := 241) (by decide +kernel), List.mem_of_getElem? (i := 741) (by decide +kernel), List.mem_of_getElem? (i := 742) (by decide +kernel)⟩
theorem lw_p13 : lw_okq (⟨"FieldsToldModel", "errs", "(I)I"⟩, 28) := ⟨⟨by decide +kernel, by decide +kernel⟩, List.mem_of_getElem? (i := 818) (by decide +kernel), List.mem_of_getElem? (i := 917) (by decide +kernel), List.mem_of_getElem? (i := 918) (by decide +kernel)⟩
theorem lw_p14 : lw_okq (⟨"FieldsToldModel", "puts", "(III)V"⟩, 28) := ⟨⟨by decide +kernel, by decide +kernel⟩, List.mem_of_getElem? (i := 818) (by decide +kernel), List.mem_of_getElem? (i := 923) (by decide +kernel), List.mem_of_getElem? (i := 924) (by decide +kernel)⟩
theorem lw_p15 : lw_okq (⟨"FieldsToldModel", "isTold", "(I)V"⟩, 28) := ⟨⟨by decide +kernel, by decide +kernel⟩, List.mem_of_getElem? (i := 818) (by decide +kernel), List.mem_of_getElem? (i := 927) (by decide +kernel), List.mem_of_getElem? (i := 928) (by decide +kernel)⟩
def lw_privs_1 : List (MethodName × Nat) := [(⟨"FieldsTold", "error", "(I)I"⟩, 8), (⟨"FieldsTold$Field", "greatestBy", "([I)I"⟩, 8), (⟨"FieldsTold$Land", "hasTitle", "(ILFieldsTold$Field;)Z"⟩, 14), (⟨"FieldsTold$Reader", "readLevel", "(I)V"⟩, 8), (⟨"FieldsTold$Reader", "readQ", "()V"⟩, 8), (⟨"FieldsTold$Reader", "isNextOf", "(Ljava/lang/String;)Z"⟩, 8), (⟨"FieldsTold$Reader", "readNumber", "()V"⟩, 8), (⟨"FieldsTold$Reader", "take", "()I"⟩, 8), (⟨"FieldsTold$Reader", "emit", "(I)V"⟩, 8), (⟨"FieldsTold$Reader", "readOpened", "()V"⟩, 8), (⟨"FieldsTold$Thought", "leadNow", "(II)I"⟩, 6), (⟨"FieldsTold$Thought", "noteIfSaid", "(LFieldsTold$Sheet;I)V"⟩, 6), (⟨"FieldsTold$Voice", "begin", "(I)V"⟩, 5), (⟨"FieldsToldModel", "errs", "(I)I"⟩, 28), (⟨"FieldsToldModel", "puts", "(III)V"⟩, 28), (⟨"FieldsToldModel", "isTold", "(I)V"⟩, 28)]
theorem lw_r1 : ∀ q ∈ lw_privs_1, lw_okq q := List.forall_mem_cons.mpr ⟨lw_p0, List.forall_mem_cons.mpr ⟨lw_p1, List.forall_mem_cons.mpr ⟨lw_p2, List.forall_mem_cons.mpr ⟨lw_p3, List.forall_mem_cons.mpr ⟨lw_p4, List.forall_mem_cons.mpr ⟨lw_p5, List.forall_mem_cons.mpr ⟨lw_p6, List.forall_mem_cons.mpr ⟨lw_p7, List.forall_mem_cons.mpr ⟨lw_p8, List.forall_mem_cons.mpr ⟨lw_p9, List.forall_mem_cons.mpr ⟨lw_p10, List.forall_mem_cons.mpr ⟨lw_p11, List.forall_mem_cons.mpr ⟨lw_p12, List.forall_mem_cons.mpr ⟨lw_p13, List.forall_mem_cons.mpr ⟨lw_p14, List.forall_mem_cons.mpr ⟨lw_p15, fun _ h => absurd h List.not_mem_nil⟩⟩⟩⟩⟩⟩⟩⟩⟩⟩⟩⟩⟩⟩⟩⟩
theorem lw_p16 : lw_okq (⟨"FieldsToldModel", "isField", "(I)Z"⟩, 28) := ⟨⟨by decide +kernel, by decide +kernel⟩, List.mem_of_getElem? (i := 818) (by decide +kernel), List.mem_of_getElem? (i := 935) (by decide +kernel), List.mem_of_getElem? (i := 936) (by decide +kernel)⟩
theorem lw_p17 : lw_okq (⟨"FieldsToldModel", "saysNow", "(I)I"⟩, 28) := ⟨⟨by decide +kernel, by decide +kernel⟩, List.mem_of_getElem? (i := 818) (by decide +kernel), List.mem_of_getElem? (i := 939) (by decide +kernel), List.mem_of_getElem? (i := 940) (by decide +kernel)⟩
theorem lw_p18 : lw_okq (⟨"FieldsToldModel", "its", "(II)I"⟩, 28) := ⟨⟨by decide +kernel, by decide +kernel⟩, List.mem_of_getElem? (i := 818) (by decide +kernel), List.mem_of_getElem? (i := 943) (by decide +kernel), List.mem_of_getElem? (i := 944) (by decide +kernel)⟩
theorem lw_p19 : lw_okq (⟨"FieldsToldModel", "greatest", "(IZ)I"⟩, 28) := ⟨⟨by decide +kernel, by decide +kernel⟩, List.mem_of_getElem? (i := 818) (by decide +kernel), List.mem_of_getElem? (i := 947) (by decide +kernel), List.mem_of_getElem? (i := 948) (by decide +kernel)⟩
theorem lw_p20 : lw_okq (⟨"FieldsToldModel", "whose", "(I)I"⟩, 28) := ⟨⟨by decide +kernel, by decide +kernel⟩, List.mem_of_getElem? (i := 818) (by decide +kernel), List.mem_of_getElem? (i := 951) (by decide +kernel), List.mem_of_getElem? (i := 952) (by decide +kernel)⟩
theorem lw_p21 : lw_okq (⟨"FieldsToldModel", "toldBy", "(I)I"⟩, 28) := ⟨⟨by decide +kernel, by decide +kernel⟩, List.mem_of_getElem? (i := 818) (by decide +kernel), List.mem_of_getElem? (i := 955) (by decide +kernel), List.mem_of_getElem? (i := 956) (by decide +kernel)⟩
theorem lw_p22 : lw_okq (⟨"FieldsToldModel", "lawOf", "(IIII)I"⟩, 28) := ⟨⟨by decide +kernel, by decide +kernel⟩, List.mem_of_getElem? (i := 818) (by decide +kernel), List.mem_of_getElem? (i := 959) (by decide +kernel), List.mem_of_getElem? (i := 960) (by decide +kernel)⟩
theorem lw_p23 : lw_okq (⟨"FieldsToldModel", "walks", "(IIII)I"⟩, 28) := ⟨⟨by decide +kernel, by decide +kernel⟩, List.mem_of_getElem? (i := 818) (by decide +kernel), List.mem_of_getElem? (i := 966) (by decide +kernel), List.mem_of_getElem? (i := 967) (by decide +kernel)⟩
theorem lw_p24 : lw_okq (⟨"FieldsToldModel", "whole", "()I"⟩, 28) := ⟨⟨by decide +kernel, by decide +kernel⟩, List.mem_of_getElem? (i := 818) (by decide +kernel), List.mem_of_getElem? (i := 970) (by decide +kernel), List.mem_of_getElem? (i := 971) (by decide +kernel)⟩
theorem lw_p25 : lw_okq (⟨"FieldsToldModel", "both", "()I"⟩, 28) := ⟨⟨by decide +kernel, by decide +kernel⟩, List.mem_of_getElem? (i := 818) (by decide +kernel), List.mem_of_getElem? (i := 974) (by decide +kernel), List.mem_of_getElem? (i := 975) (by decide +kernel)⟩
theorem lw_p26 : lw_okq (⟨"FieldsToldModel", "compared", "()I"⟩, 28) := ⟨⟨by decide +kernel, by decide +kernel⟩, List.mem_of_getElem? (i := 818) (by decide +kernel), List.mem_of_getElem? (i := 978) (by decide +kernel), List.mem_of_getElem? (i := 979) (by decide +kernel)⟩
theorem lw_p27 : lw_okq (⟨"FieldsToldModel", "sum", "()I"⟩, 28) := ⟨⟨by decide +kernel, by decide +kernel⟩, List.mem_of_getElem? (i := 818) (by decide +kernel), List.mem_of_getElem? (i := 982) (by decide +kernel), List.mem_of_getElem? (i := 983) (by decide +kernel)⟩
theorem lw_p28 : lw_okq (⟨"FieldsToldModel", "product", "()I"⟩, 28) := ⟨⟨by decide +kernel, by decide +kernel⟩, List.mem_of_getElem? (i := 818) (by decide +kernel), List.mem_of_getElem? (i := 986) (by decide +kernel), List.mem_of_getElem? (i := 987) (by decide +kernel)⟩
theorem lw_p29 : lw_okq (⟨"FieldsToldModel", "factor", "()I"⟩, 28) := ⟨⟨by decide +kernel, by decide +kernel⟩, List.mem_of_getElem? (i := 818) (by decide +kernel), List.mem_of_getElem? (i := 990) (by decide +kernel), List.mem_of_getElem? (i := 991) (by decide +kernel)⟩
theorem lw_p30 : lw_okq (⟨"FieldsToldModel", "byteAt", "(I)I"⟩, 28) := ⟨⟨by decide +kernel, by decide +kernel⟩, List.mem_of_getElem? (i := 818) (by decide +kernel), List.mem_of_getElem? (i := 994) (by decide +kernel), List.mem_of_getElem? (i := 995) (by decide +kernel)⟩
theorem lw_p31 : lw_okq (⟨"FieldsToldModel", "number", "()I"⟩, 28) := ⟨⟨by decide +kernel, by decide +kernel⟩, List.mem_of_getElem? (i := 818) (by decide +kernel), List.mem_of_getElem? (i := 1001) (by decide +kernel), List.mem_of_getElem? (i := 1002) (by decide +kernel)⟩
def lw_privs_2 : List (MethodName × Nat) := [(⟨"FieldsToldModel", "isField", "(I)Z"⟩, 28), (⟨"FieldsToldModel", "saysNow", "(I)I"⟩, 28), (⟨"FieldsToldModel", "its", "(II)I"⟩, 28), (⟨"FieldsToldModel", "greatest", "(IZ)I"⟩, 28), (⟨"FieldsToldModel", "whose", "(I)I"⟩, 28), (⟨"FieldsToldModel", "toldBy", "(I)I"⟩, 28), (⟨"FieldsToldModel", "lawOf", "(IIII)I"⟩, 28), (⟨"FieldsToldModel", "walks", "(IIII)I"⟩, 28), (⟨"FieldsToldModel", "whole", "()I"⟩, 28), (⟨"FieldsToldModel", "both", "()I"⟩, 28), (⟨"FieldsToldModel", "compared", "()I"⟩, 28), (⟨"FieldsToldModel", "sum", "()I"⟩, 28), (⟨"FieldsToldModel", "product", "()I"⟩, 28), (⟨"FieldsToldModel", "factor", "()I"⟩, 28), (⟨"FieldsToldModel", "byteAt", "(I)I"⟩, 28), (⟨"FieldsToldModel", "number", "()I"⟩, 28)]
theorem lw_r2 : ∀ q ∈ lw_privs_2, lw_okq q := List.forall_mem_cons.mpr ⟨lw_p16, List.forall_mem_cons.mpr ⟨lw_p17, List.forall_mem_cons.mpr ⟨lw_p18, List.forall_mem_cons.mpr ⟨lw_p19, List.forall_mem_cons.mpr ⟨lw_p20, List.forall_mem_cons.mpr ⟨lw_p21, List.forall_mem_cons.mpr ⟨lw_p22, List.forall_mem_cons.mpr ⟨lw_p23, List.forall_mem_cons.mpr ⟨lw_p24, List.forall_mem_cons.mpr ⟨lw_p25, List.forall_mem_cons.mpr ⟨lw_p26, List.forall_mem_cons.mpr ⟨lw_p27, List.forall_mem_cons.mpr ⟨lw_p28, List.forall_mem_cons.mpr ⟨lw_p29, List.forall_mem_cons.mpr ⟨lw_p30, List.forall_mem_cons.mpr ⟨lw_p31, fun _ h => absurd h List.not_mem_nil⟩⟩⟩⟩⟩⟩⟩⟩⟩⟩⟩⟩⟩⟩⟩⟩
theorem lw_p32 : lw_okq (⟨"FieldsToldModel", "named", "(I)I"⟩, 28) := ⟨⟨by decide +kernel, by decide +kernel⟩, List.mem_of_getElem? (i := 818) (by decide +kernel), List.mem_of_getElem? (i := 1005) (by decide +kernel), List.mem_of_getElem? (i := 1006) (by decide +kernel)⟩
theorem lw_p33 : lw_okq (⟨"FieldsToldModel", "fails", "()I"⟩, 28) := ⟨⟨by decide +kernel, by decide +kernel⟩, List.mem_of_getElem? (i := 818) (by decide +kernel), List.mem_of_getElem? (i := 1009) (by decide +kernel), List.mem_of_getElem? (i := 1010) (by decide +kernel)⟩
theorem lw_p34 : lw_okq (⟨"FieldsToldModel", "rentOf", "(I)I"⟩, 28) := ⟨⟨by decide +kernel, by decide +kernel⟩, List.mem_of_getElem? (i := 818) (by decide +kernel), List.mem_of_getElem? (i := 1013) (by decide +kernel), List.mem_of_getElem? (i := 1014) (by decide +kernel)⟩
theorem lw_p35 : lw_okq (⟨"FieldsToldModel", "acresOf", "(I)I"⟩, 28) := ⟨⟨by decide +kernel, by decide +kernel⟩, List.mem_of_getElem? (i := 818) (by decide +kernel), List.mem_of_getElem? (i := 1028) (by decide +kernel), List.mem_of_getElem? (i := 1029) (by decide +kernel)⟩
theorem lw_p36 : lw_okq (⟨"FieldsToldModel", "canTell", "(II)Z"⟩, 28) := ⟨⟨by decide +kernel, by decide +kernel⟩, List.mem_of_getElem? (i := 818) (by decide +kernel), List.mem_of_getElem? (i := 1064) (by decide +kernel), List.mem_of_getElem? (i := 1065) (by decide +kernel)⟩
theorem lw_p37 : lw_okq (⟨"FieldsToldModel", "telling", "(II)V"⟩, 28) := ⟨⟨by decide +kernel, by decide +kernel⟩, List.mem_of_getElem? (i := 818) (by decide +kernel), List.mem_of_getElem? (i := 1069) (by decide +kernel), List.mem_of_getElem? (i := 1070) (by decide +kernel)⟩
theorem lw_p38 : lw_okq (⟨"FieldsToldModel", "hears", "(II)V"⟩, 28) := ⟨⟨by decide +kernel, by decide +kernel⟩, List.mem_of_getElem? (i := 818) (by decide +kernel), List.mem_of_getElem? (i := 1073) (by decide +kernel), List.mem_of_getElem? (i := 1074) (by decide +kernel)⟩
theorem lw_p39 : lw_okq (⟨"FieldsToldModel", "doesHear", "(I)Z"⟩, 28) := ⟨⟨by decide +kernel, by decide +kernel⟩, List.mem_of_getElem? (i := 818) (by decide +kernel), List.mem_of_getElem? (i := 1077) (by decide +kernel), List.mem_of_getElem? (i := 1078) (by decide +kernel)⟩
theorem lw_p40 : lw_okq (⟨"FieldsToldModel", "drawn", "(I)I"⟩, 28) := ⟨⟨by decide +kernel, by decide +kernel⟩, List.mem_of_getElem? (i := 818) (by decide +kernel), List.mem_of_getElem? (i := 1085) (by decide +kernel), List.mem_of_getElem? (i := 1086) (by decide +kernel)⟩
theorem lw_p41 : lw_okq (⟨"FieldsToldModel", "moveAll", "([I[I)V"⟩, 28) := ⟨⟨by decide +kernel, by decide +kernel⟩, List.mem_of_getElem? (i := 818) (by decide +kernel), List.mem_of_getElem? (i := 1103) (by decide +kernel), List.mem_of_getElem? (i := 1104) (by decide +kernel)⟩
theorem lw_p42 : lw_okq (⟨"FieldsToldModel", "neededOf", "(II)I"⟩, 28) := ⟨⟨by decide +kernel, by decide +kernel⟩, List.mem_of_getElem? (i := 818) (by decide +kernel), List.mem_of_getElem? (i := 1111) (by decide +kernel), List.mem_of_getElem? (i := 1112) (by decide +kernel)⟩
theorem lw_p43 : lw_okq (⟨"FieldsToldModel", "coachAt", "(I)I"⟩, 28) := ⟨⟨by decide +kernel, by decide +kernel⟩, List.mem_of_getElem? (i := 818) (by decide +kernel), List.mem_of_getElem? (i := 1120) (by decide +kernel), List.mem_of_getElem? (i := 1121) (by decide +kernel)⟩
theorem lw_p44 : lw_okq (⟨"FieldsToldModel", "isInTime", "(I)Z"⟩, 28) := ⟨⟨by decide +kernel, by decide +kernel⟩, List.mem_of_getElem? (i := 818) (by decide +kernel), List.mem_of_getElem? (i := 1128) (by decide +kernel), List.mem_of_getElem? (i := 1129) (by decide +kernel)⟩
theorem lw_p45 : lw_okq (⟨"FieldsToldModel", "byTurns", "(III)I"⟩, 28) := ⟨⟨by decide +kernel, by decide +kernel⟩, List.mem_of_getElem? (i := 818) (by decide +kernel), List.mem_of_getElem? (i := 1136) (by decide +kernel), List.mem_of_getElem? (i := 1137) (by decide +kernel)⟩
theorem lw_p46 : lw_okq (⟨"FieldsToldModel", "saySo", "(I)Z"⟩, 28) := ⟨⟨by decide +kernel, by decide +kernel⟩, List.mem_of_getElem? (i := 818) (by decide +kernel), List.mem_of_getElem? (i := 1147) (by decide +kernel), List.mem_of_getElem? (i := 1148) (by decide +kernel)⟩
theorem lw_p47 : lw_okq (⟨"FieldsToldModel", "hearsIn", "(II)I"⟩, 28) := ⟨⟨by decide +kernel, by decide +kernel⟩, List.mem_of_getElem? (i := 818) (by decide +kernel), List.mem_of_getElem? (i := 1173) (by decide +kernel), List.mem_of_getElem? (i := 1174) (by decide +kernel)⟩
def lw_privs_3 : List (MethodName × Nat) := [(⟨"FieldsToldModel", "named", "(I)I"⟩, 28), (⟨"FieldsToldModel", "fails", "()I"⟩, 28), (⟨"FieldsToldModel", "rentOf", "(I)I"⟩, 28), (⟨"FieldsToldModel", "acresOf", "(I)I"⟩, 28), (⟨"FieldsToldModel", "canTell", "(II)Z"⟩, 28), (⟨"FieldsToldModel", "telling", "(II)V"⟩, 28), (⟨"FieldsToldModel", "hears", "(II)V"⟩, 28), (⟨"FieldsToldModel", "doesHear", "(I)Z"⟩, 28), (⟨"FieldsToldModel", "drawn", "(I)I"⟩, 28), (⟨"FieldsToldModel", "moveAll", "([I[I)V"⟩, 28), (⟨"FieldsToldModel", "neededOf", "(II)I"⟩, 28), (⟨"FieldsToldModel", "coachAt", "(I)I"⟩, 28), (⟨"FieldsToldModel", "isInTime", "(I)Z"⟩, 28), (⟨"FieldsToldModel", "byTurns", "(III)I"⟩, 28), (⟨"FieldsToldModel", "saySo", "(I)Z"⟩, 28), (⟨"FieldsToldModel", "hearsIn", "(II)I"⟩, 28)]
theorem lw_r3 : ∀ q ∈ lw_privs_3, lw_okq q := List.forall_mem_cons.mpr ⟨lw_p32, List.forall_mem_cons.mpr ⟨lw_p33, List.forall_mem_cons.mpr ⟨lw_p34, List.forall_mem_cons.mpr ⟨lw_p35, List.forall_mem_cons.mpr ⟨lw_p36, List.forall_mem_cons.mpr ⟨lw_p37, List.forall_mem_cons.mpr ⟨lw_p38, List.forall_mem_cons.mpr ⟨lw_p39, List.forall_mem_cons.mpr ⟨lw_p40, List.forall_mem_cons.mpr ⟨lw_p41, List.forall_mem_cons.mpr ⟨lw_p42, List.forall_mem_cons.mpr ⟨lw_p43, List.forall_mem_cons.mpr ⟨lw_p44, List.forall_mem_cons.mpr ⟨lw_p45, List.forall_mem_cons.mpr ⟨lw_p46, List.forall_mem_cons.mpr ⟨lw_p47, fun _ h => absurd h List.not_mem_nil⟩⟩⟩⟩⟩⟩⟩⟩⟩⟩⟩⟩⟩⟩⟩⟩
theorem lw_p48 : lw_okq (⟨"FieldsToldModel", "ran", "(I)V"⟩, 28) := ⟨⟨by decide +kernel, by decide +kernel⟩, List.mem_of_getElem? (i := 818) (by decide +kernel), List.mem_of_getElem? (i := 1177) (by decide +kernel), List.mem_of_getElem? (i := 1178) (by decide +kernel)⟩
theorem lw_p49 : lw_okq (⟨"FieldsToldModel", "saysIn", "(II)I"⟩, 28) := ⟨⟨by decide +kernel, by decide +kernel⟩, List.mem_of_getElem? (i := 818) (by decide +kernel), List.mem_of_getElem? (i := 1181) (by decide +kernel), List.mem_of_getElem? (i := 1182) (by decide +kernel)⟩
theorem lw_p50 : lw_okq (⟨"FieldsToldModel", "fearsIn", "(II)I"⟩, 28) := ⟨⟨by decide +kernel, by decide +kernel⟩, List.mem_of_getElem? (i := 818) (by decide +kernel), List.mem_of_getElem? (i := 1185) (by decide +kernel), List.mem_of_getElem? (i := 1186) (by decide +kernel)⟩
theorem lw_p51 : lw_okq (⟨"FieldsToldModel", "tellsIn", "(II)I"⟩, 28) := ⟨⟨by decide +kernel, by decide +kernel⟩, List.mem_of_getElem? (i := 818) (by decide +kernel), List.mem_of_getElem? (i := 1189) (by decide +kernel), List.mem_of_getElem? (i := 1190) (by decide +kernel)⟩
def lw_privs_4 : List (MethodName × Nat) := [(⟨"FieldsToldModel", "ran", "(I)V"⟩, 28), (⟨"FieldsToldModel", "saysIn", "(II)I"⟩, 28), (⟨"FieldsToldModel", "fearsIn", "(II)I"⟩, 28), (⟨"FieldsToldModel", "tellsIn", "(II)I"⟩, 28)]
theorem lw_r4 : ∀ q ∈ lw_privs_4, lw_okq q := List.forall_mem_cons.mpr ⟨lw_p48, List.forall_mem_cons.mpr ⟨lw_p49, List.forall_mem_cons.mpr ⟨lw_p50, List.forall_mem_cons.mpr ⟨lw_p51, fun _ h => absurd h List.not_mem_nil⟩⟩⟩⟩
def lw_privs : List (MethodName × Nat) := lw_privs_1 ++ (lw_privs_2 ++ (lw_privs_3 ++ (lw_privs_4)))
def lw_tbl : List Cond := k2_sels lw_privs ++ tables_1
theorem lw_privs_ok : ∀ q ∈ lw_privs, lw_okq q := by
  show ∀ q ∈ lw_privs_1 ++ (lw_privs_2 ++ (lw_privs_3 ++ (lw_privs_4))), lw_okq q
  exact List.forall_mem_append.mpr ⟨lw_r1, List.forall_mem_append.mpr ⟨lw_r2, List.forall_mem_append.mpr ⟨lw_r3, lw_r4⟩⟩⟩
def RX0 : String := "FieldsTold$Field"
def TX0 : u_T := fun k => match k with
  | 0 => ("FieldsTold$Field", "number", "I", true)
  | 1 => ("FieldsTold$Field", "told", "[I", true)
  | 2 => ("FieldsTold$Field", "kind", "I", false)
  | 3 => ("FieldsTold$Field", "m", "I", false)
  | 4 => ("FieldsTold$Field", "acres", "I", false)
  | 5 => ("FieldsTold$Field", "ditch", "I", false)
  | 6 => ("FieldsTold$Field", "first", "I", false)
  | _ => ("FieldsTold$Field", "last", "I", false)
def tyX0 : Nat → FieldType := fun k => match k with
  | 0 => .int
  | 1 => .array .int
  | 2 => .int
  | 3 => .int
  | 4 => .int
  | 5 => .int
  | 6 => .int
  | _ => .int
theorem nmX0 : ∀ a, a < 8 → ∀ b, b < 8 → a ≠ b → (TX0 a).2.1 ≠ (TX0 b).2.1 := by decide +kernel
theorem tyX0_ok : ∀ k, k < 8 → parseFieldDescriptor (TX0 k).2.2.1 = some (tyX0 k) := by decide +kernel
abbrev cX0_init : ByteArray := prog_2_method_1_code
def yX0_init : MethodName := ⟨RX0, "<init>", "(I)V"⟩
abbrev cX0_begin : ByteArray := prog_2_method_2_code
def yX0_begin : MethodName := ⟨RX0, "begin", "(II)V"⟩
abbrev cX0_copyFrom : ByteArray := prog_2_method_3_code
def yX0_copyFrom : MethodName := ⟨RX0, "copyFrom", "(LFieldsTold$Field;)V"⟩
abbrev cX0_loseAllTold : ByteArray := prog_2_method_4_code
def yX0_loseAllTold : MethodName := ⟨RX0, "loseAllTold", "()V"⟩
abbrev cX0_toldByAll : ByteArray := prog_2_method_5_code
def yX0_toldByAll : MethodName := ⟨RX0, "toldByAll", "()I"⟩
abbrev cX0_hears : ByteArray := prog_2_method_6_code
def yX0_hears : MethodName := ⟨RX0, "hears", "()Z"⟩
abbrev cX0_listen : ByteArray := prog_2_method_7_code
def yX0_listen : MethodName := ⟨RX0, "listen", "(I)V"⟩
abbrev cX0_saysItself : ByteArray := prog_2_method_8_code
def yX0_saysItself : MethodName := ⟨RX0, "saysItself", "([I)I"⟩
abbrev cX0_greatestBy : ByteArray := prog_2_method_9_code
def yX0_greatestBy : MethodName := ⟨RX0, "greatestBy", "([I)I"⟩
def RX1 : String := "FieldsTold$Land"
def TX1 : u_T := fun k => match k with
  | 0 => ("FieldsTold$Land", "road", "[LFieldsTold$Field;", true)
  | 1 => ("FieldsTold$Land", "fear", "[I", true)
  | 2 => ("FieldsTold$Land", "title", "LFieldsTold$Law;", true)
  | 3 => ("FieldsTold$Land", "rent", "LFieldsTold$Law;", true)
  | 4 => ("FieldsTold$Land", "tape", "[I", true)
  | 5 => ("FieldsTold$Land", "waiting", "[I", true)
  | 6 => ("FieldsTold$Land", "ownersBefore", "[I", true)
  | 7 => ("FieldsTold$Land", "fields", "I", false)
  | 8 => ("FieldsTold$Land", "pace", "I", false)
  | 9 => ("FieldsTold$Land", "minute", "I", false)
  | 10 => ("FieldsTold$Land", "lost", "I", false)
  | 11 => ("FieldsTold$Land", "z", "I", false)
  | 12 => ("FieldsTold$Land", "tapeBytes", "I", false)
  | _ => ("FieldsTold$Land", "waits", "I", false)
def tyX1 : Nat → FieldType := fun k => match k with
  | 0 => .array (.object "FieldsTold$Field")
  | 1 => .array .int
  | 2 => .object "FieldsTold$Law"
  | 3 => .object "FieldsTold$Law"
  | 4 => .array .int
  | 5 => .array .int
  | 6 => .array .int
  | 7 => .int
  | 8 => .int
  | 9 => .int
  | 10 => .int
  | 11 => .int
  | 12 => .int
  | _ => .int
theorem nmX1 : ∀ a, a < 14 → ∀ b, b < 14 → a ≠ b → (TX1 a).2.1 ≠ (TX1 b).2.1 := by decide +kernel
theorem tyX1_ok : ∀ k, k < 14 → parseFieldDescriptor (TX1 k).2.2.1 = some (tyX1 k) := by decide +kernel
abbrev cX1_init : ByteArray := prog_3_method_1_code
def yX1_init : MethodName := ⟨RX1, "<init>", "()V"⟩
abbrev cX1_copyFrom : ByteArray := prog_3_method_2_code
def yX1_copyFrom : MethodName := ⟨RX1, "copyFrom", "(LFieldsTold$Land;)V"⟩
abbrev cX1_has : ByteArray := prog_3_method_3_code
def yX1_has : MethodName := ⟨RX1, "has", "(I)Z"⟩
abbrev cX1_says : ByteArray := prog_3_method_4_code
def yX1_says : MethodName := ⟨RX1, "says", "(II)I"⟩
abbrev cX1_ownerOf : ByteArray := prog_3_method_5_code
def yX1_ownerOf : MethodName := ⟨RX1, "ownerOf", "(II)I"⟩
abbrev cX1_hasTitle : ByteArray := prog_3_method_6_code
def yX1_hasTitle : MethodName := ⟨RX1, "hasTitle", "(ILFieldsTold$Field;)Z"⟩
abbrev cX1_rentOf : ByteArray := prog_3_method_7_code
def yX1_rentOf : MethodName := ⟨RX1, "rentOf", "(I)I"⟩
abbrev cX1_fieldsOf : ByteArray := prog_3_method_8_code
def yX1_fieldsOf : MethodName := ⟨RX1, "fieldsOf", "(I)I"⟩
abbrev cX1_acresOf : ByteArray := prog_3_method_9_code
def yX1_acresOf : MethodName := ⟨RX1, "acresOf", "(II)I"⟩
abbrev cX1_rentsOf : ByteArray := prog_3_method_10_code
def yX1_rentsOf : MethodName := ⟨RX1, "rentsOf", "(I)I"⟩
abbrev cX1_toldInAll : ByteArray := prog_3_method_11_code
def yX1_toldInAll : MethodName := ⟨RX1, "toldInAll", "()I"⟩
abbrev cX1_coachAt : ByteArray := prog_3_method_12_code
def yX1_coachAt : MethodName := ⟨RX1, "coachAt", "(I)I"⟩
abbrev cX1_refuses : ByteArray := prog_3_method_13_code
def yX1_refuses : MethodName := ⟨RX1, "refuses", "(II)Z"⟩
abbrev cX1_hearOut : ByteArray := prog_3_method_14_code
def yX1_hearOut : MethodName := ⟨RX1, "hearOut", "(II)V"⟩
abbrev cX1_draw : ByteArray := prog_3_method_15_code
def yX1_draw : MethodName := ⟨RX1, "draw", "()I"⟩
abbrev cX1_saysAsIn : ByteArray := prog_3_method_16_code
def yX1_saysAsIn : MethodName := ⟨RX1, "saysAsIn", "(LFieldsTold$Sheet;)Z"⟩
def RX2 : String := "FieldsTold$Law"
def TX2 : u_T := fun k => match k with
  | 0 => ("FieldsTold$Law", "names", "Ljava/lang/String;", true)
  | 1 => ("FieldsTold$Law", "code", "[I", true)
  | 2 => ("FieldsTold$Law", "stack", "[I", true)
  | _ => ("FieldsTold$Law", "signs", "I", false)
def tyX2 : Nat → FieldType := fun k => match k with
  | 0 => .object "java/lang/String"
  | 1 => .array .int
  | 2 => .array .int
  | _ => .int
theorem nmX2 : ∀ a, a < 4 → ∀ b, b < 4 → a ≠ b → (TX2 a).2.1 ≠ (TX2 b).2.1 := by decide +kernel
theorem tyX2_ok : ∀ k, k < 4 → parseFieldDescriptor (TX2 k).2.2.1 = some (tyX2 k) := by decide +kernel
abbrev cX2_init : ByteArray := prog_4_method_1_code
def yX2_init : MethodName := ⟨RX2, "<init>", "(Ljava/lang/String;)V"⟩
abbrev cX2_beginAsTitle : ByteArray := prog_4_method_2_code
def yX2_beginAsTitle : MethodName := ⟨RX2, "beginAsTitle", "()V"⟩
abbrev cX2_beginAsRent : ByteArray := prog_4_method_3_code
def yX2_beginAsRent : MethodName := ⟨RX2, "beginAsRent", "()V"⟩
abbrev cX2_takeOver : ByteArray := prog_4_method_4_code
def yX2_takeOver : MethodName := ⟨RX2, "takeOver", "([II)V"⟩
abbrev cX2_work : ByteArray := prog_4_method_5_code
def yX2_work : MethodName := ⟨RX2, "work", "(III)I"⟩
abbrev cX2_join : ByteArray := prog_4_method_6_code
def yX2_join : MethodName := ⟨RX2, "join", "(III)I"⟩
def RX3 : String := "FieldsTold$Reader"
def TX3 : u_T := fun k => match k with
  | 0 => ("FieldsTold$Reader", "code", "[I", true)
  | 1 => ("FieldsTold$Reader", "signs", "I", false)
  | 2 => ("FieldsTold$Reader", "tape", "[I", true)
  | 3 => ("FieldsTold$Reader", "names", "Ljava/lang/String;", false)
  | 4 => ("FieldsTold$Reader", "bytes", "I", false)
  | 5 => ("FieldsTold$Reader", "at", "I", false)
  | 6 => ("FieldsTold$Reader", "open", "I", false)
  | _ => ("FieldsTold$Reader", "bad", "Z", false)
def tyX3 : Nat → FieldType := fun k => match k with
  | 0 => .array .int
  | 1 => .int
  | 2 => .array .int
  | 3 => .object "java/lang/String"
  | 4 => .int
  | 5 => .int
  | 6 => .int
  | _ => .boolean
theorem nmX3 : ∀ a, a < 8 → ∀ b, b < 8 → a ≠ b → (TX3 a).2.1 ≠ (TX3 b).2.1 := by decide +kernel
theorem tyX3_ok : ∀ k, k < 8 → parseFieldDescriptor (TX3 k).2.2.1 = some (tyX3 k) := by decide +kernel
abbrev cX3_init : ByteArray := prog_5_method_1_code
def yX3_init : MethodName := ⟨RX3, "<init>", "([I)V"⟩
abbrev cX3_faultOf : ByteArray := prog_5_method_2_code
def yX3_faultOf : MethodName := ⟨RX3, "faultOf", "(ILjava/lang/String;)I"⟩
abbrev cX3_readLevel : ByteArray := prog_5_method_3_code
def yX3_readLevel : MethodName := ⟨RX3, "readLevel", "(I)V"⟩
abbrev cX3_joinsOf : ByteArray := prog_5_method_4_code
def yX3_joinsOf : MethodName := ⟨RX3, "joinsOf", "(I)Ljava/lang/String;"⟩
abbrev cX3_readQ : ByteArray := prog_5_method_5_code
def yX3_readQ : MethodName := ⟨RX3, "readQ", "()V"⟩
abbrev cX3_readOpened : ByteArray := prog_5_method_6_code
def yX3_readOpened : MethodName := ⟨RX3, "readOpened", "()V"⟩
abbrev cX3_readNumber : ByteArray := prog_5_method_7_code
def yX3_readNumber : MethodName := ⟨RX3, "readNumber", "()V"⟩
abbrev cX3_isNextOf : ByteArray := prog_5_method_8_code
def yX3_isNextOf : MethodName := ⟨RX3, "isNextOf", "(Ljava/lang/String;)Z"⟩
abbrev cX3_take : ByteArray := prog_5_method_9_code
def yX3_take : MethodName := ⟨RX3, "take", "()I"⟩
abbrev cX3_emit : ByteArray := prog_5_method_10_code
def yX3_emit : MethodName := ⟨RX3, "emit", "(I)V"⟩
def RX4 : String := "FieldsTold$Sheet"
def TX4 : u_T := fun k => match k with
  | 0 => ("FieldsTold$Sheet", "numbers", "[I", true)
  | 1 => ("FieldsTold$Sheet", "bits", "I", false)
  | _ => ("FieldsTold$Sheet", "size", "I", false)
def tyX4 : Nat → FieldType := fun k => match k with
  | 0 => .array .int
  | 1 => .int
  | _ => .int
theorem nmX4 : ∀ a, a < 3 → ∀ b, b < 3 → a ≠ b → (TX4 a).2.1 ≠ (TX4 b).2.1 := by decide +kernel
theorem tyX4_ok : ∀ k, k < 3 → parseFieldDescriptor (TX4 k).2.2.1 = some (tyX4 k) := by decide +kernel
abbrev cX4_init : ByteArray := prog_6_method_1_code
def yX4_init : MethodName := ⟨RX4, "<init>", "()V"⟩
abbrev cX4_begin : ByteArray := prog_6_method_2_code
def yX4_begin : MethodName := ⟨RX4, "begin", "(II)V"⟩
abbrev cX4_lowestBits : ByteArray := prog_6_method_3_code
def yX4_lowestBits : MethodName := ⟨RX4, "lowestBits", "(I)I"⟩
abbrev cX4_holds : ByteArray := prog_6_method_4_code
def yX4_holds : MethodName := ⟨RX4, "holds", "(II)Z"⟩
def RX5 : String := "FieldsTold$Thought"
def TX5 : u_T := fun k => match k with
  | 0 => ("FieldsTold$Thought", "found", "I", false)
  | 1 => ("FieldsTold$Thought", "firstFound", "I", false)
  | 2 => ("FieldsTold$Thought", "land", "LFieldsTold$Land;", true)
  | 3 => ("FieldsTold$Thought", "spares", "[LFieldsTold$Field;", true)
  | 4 => ("FieldsTold$Thought", "needs", "[I", true)
  | _ => ("FieldsTold$Thought", "fearBefore", "[I", true)
def tyX5 : Nat → FieldType := fun k => match k with
  | 0 => .int
  | 1 => .int
  | 2 => .object "FieldsTold$Land"
  | 3 => .array (.object "FieldsTold$Field")
  | 4 => .array .int
  | _ => .array .int
theorem nmX5 : ∀ a, a < 6 → ∀ b, b < 6 → a ≠ b → (TX5 a).2.1 ≠ (TX5 b).2.1 := by decide +kernel
theorem tyX5_ok : ∀ k, k < 6 → parseFieldDescriptor (TX5 k).2.2.1 = some (tyX5 k) := by decide +kernel
abbrev cX5_init : ByteArray := prog_7_method_1_code
def yX5_init : MethodName := ⟨RX5, "<init>", "(LFieldsTold$Land;)V"⟩
abbrev cX5_leastTellings : ByteArray := prog_7_method_2_code
def yX5_leastTellings : MethodName := ⟨RX5, "leastTellings", "(II)I"⟩
abbrev cX5_bestSet : ByteArray := prog_7_method_3_code
def yX5_bestSet : MethodName := ⟨RX5, "bestSet", "(I)I"⟩
abbrev cX5_acresBy : ByteArray := prog_7_method_4_code
def yX5_acresBy : MethodName := ⟨RX5, "acresBy", "(I)I"⟩
abbrev cX5_leadByTurns : ByteArray := prog_7_method_5_code
def yX5_leadByTurns : MethodName := ⟨RX5, "leadByTurns", "(III)I"⟩
abbrev cX5_bestLead : ByteArray := prog_7_method_6_code
def yX5_bestLead : MethodName := ⟨RX5, "bestLead", "(LFieldsTold$Thought;III)I"⟩
abbrev cX5_leadNow : ByteArray := prog_7_method_7_code
def yX5_leadNow : MethodName := ⟨RX5, "leadNow", "(II)I"⟩
abbrev cX5_seekTelling : ByteArray := prog_7_method_8_code
def yX5_seekTelling : MethodName := ⟨RX5, "seekTelling", "(LFieldsTold$Sheet;)V"⟩
abbrev cX5_seekFears : ByteArray := prog_7_method_9_code
def yX5_seekFears : MethodName := ⟨RX5, "seekFears", "(LFieldsTold$Sheet;)V"⟩
abbrev cX5_noteIfSaid : ByteArray := prog_7_method_10_code
def yX5_noteIfSaid : MethodName := ⟨RX5, "noteIfSaid", "(LFieldsTold$Sheet;I)V"⟩
abbrev cX5_oddsOf : ByteArray := prog_7_method_11_code
def yX5_oddsOf : MethodName := ⟨RX5, "oddsOf", "(II)J"⟩
def RX6 : String := "FieldsTold$Voice"
def TX6 : u_T := fun k => match k with
  | 0 => ("FieldsTold$Voice", "trace", "[I", true)
  | 1 => ("FieldsTold$Voice", "bodies", "I", false)
  | 2 => ("FieldsTold$Voice", "kind", "I", false)
  | 3 => ("FieldsTold$Voice", "m", "I", false)
  | _ => ("FieldsTold$Voice", "n", "I", false)
def tyX6 : Nat → FieldType := fun k => match k with
  | 0 => .array .int
  | 1 => .int
  | 2 => .int
  | 3 => .int
  | _ => .int
theorem nmX6 : ∀ a, a < 5 → ∀ b, b < 5 → a ≠ b → (TX6 a).2.1 ≠ (TX6 b).2.1 := by decide +kernel
theorem tyX6_ok : ∀ k, k < 5 → parseFieldDescriptor (TX6 k).2.2.1 = some (tyX6 k) := by decide +kernel
abbrev cX6_init : ByteArray := prog_8_method_1_code
def yX6_init : MethodName := ⟨RX6, "<init>", "()V"⟩
abbrev cX6_speak : ByteArray := prog_8_method_2_code
def yX6_speak : MethodName := ⟨RX6, "speak", "(LFieldsTold$Field;II)I"⟩
abbrev cX6_body : ByteArray := prog_8_method_3_code
def yX6_body : MethodName := ⟨RX6, "body", "(LFieldsTold$Voice;IIII)I"⟩
abbrev cX6_begin : ByteArray := prog_8_method_4_code
def yX6_begin : MethodName := ⟨RX6, "begin", "(I)V"⟩
def RX7 : String := "FieldsTold"
def TX7 : u_T := fun k => match k with
  | 0 => ("FieldsTold", "land", "LFieldsTold$Land;", true)
  | 1 => ("FieldsTold", "kept", "LFieldsTold$Land;", true)
  | 2 => ("FieldsTold", "reader", "LFieldsTold$Reader;", true)
  | 3 => ("FieldsTold", "thought", "LFieldsTold$Thought;", true)
  | 4 => ("FieldsTold", "voices", "LFieldsTold$Voice;", true)
  | 5 => ("FieldsTold", "sheets", "[LFieldsTold$Sheet;", true)
  | 6 => ("FieldsTold", "errors", "[I", true)
  | _ => ("FieldsTold", "images", "I", false)
def tyX7 : Nat → FieldType := fun k => match k with
  | 0 => .object "FieldsTold$Land"
  | 1 => .object "FieldsTold$Land"
  | 2 => .object "FieldsTold$Reader"
  | 3 => .object "FieldsTold$Thought"
  | 4 => .object "FieldsTold$Voice"
  | 5 => .array (.object "FieldsTold$Sheet")
  | 6 => .array .int
  | _ => .int
theorem nmX7 : ∀ a, a < 8 → ∀ b, b < 8 → a ≠ b → (TX7 a).2.1 ≠ (TX7 b).2.1 := by decide +kernel
theorem tyX7_ok : ∀ k, k < 8 → parseFieldDescriptor (TX7 k).2.2.1 = some (tyX7 k) := by decide +kernel
abbrev cX7_init : ByteArray := prog_1_method_1_code
def yX7_init : MethodName := ⟨RX7, "<init>", "()V"⟩
abbrev cX7_field : ByteArray := prog_1_method_2_code
def yX7_field : MethodName := ⟨RX7, "field", "(II)I"⟩
abbrev cX7_ofField : ByteArray := prog_1_method_3_code
def yX7_ofField : MethodName := ⟨RX7, "ofField", "(II)I"⟩
abbrev cX7_tellings : ByteArray := prog_1_method_4_code
def yX7_tellings : MethodName := ⟨RX7, "tellings", "(II)I"⟩
abbrev cX7_ofOwner : ByteArray := prog_1_method_5_code
def yX7_ofOwner : MethodName := ⟨RX7, "ofOwner", "(II)I"⟩
abbrev cX7_become : ByteArray := prog_1_method_6_code
def yX7_become : MethodName := ⟨RX7, "become", "(II)I"⟩
abbrev cX7_as : ByteArray := prog_1_method_7_code
def yX7_as : MethodName := ⟨RX7, "as", "(II)I"⟩
abbrev cX7_set : ByteArray := prog_1_method_8_code
def yX7_set : MethodName := ⟨RX7, "set", "(III)I"⟩
abbrev cX7_fear : ByteArray := prog_1_method_9_code
def yX7_fear : MethodName := ⟨RX7, "fear", "(II)I"⟩
abbrev cX7_pace : ByteArray := prog_1_method_10_code
def yX7_pace : MethodName := ⟨RX7, "pace", "(I)I"⟩
abbrev cX7_forgets : ByteArray := prog_1_method_11_code
def yX7_forgets : MethodName := ⟨RX7, "forgets", "(I)I"⟩
abbrev cX7_tells : ByteArray := prog_1_method_12_code
def yX7_tells : MethodName := ⟨RX7, "tells", "(II)I"⟩
abbrev cX7_loose : ByteArray := prog_1_method_13_code
def yX7_loose : MethodName := ⟨RX7, "loose", "(I)I"⟩
abbrev cX7_feed : ByteArray := prog_1_method_14_code
def yX7_feed : MethodName := ⟨RX7, "feed", "(JI)I"⟩
abbrev cX7_text : ByteArray := prog_1_method_15_code
def yX7_text : MethodName := ⟨RX7, "text", "(I)I"⟩
abbrev cX7_law : ByteArray := prog_1_method_16_code
def yX7_law : MethodName := ⟨RX7, "law", "(IIII)I"⟩
abbrev cX7_needed : ByteArray := prog_1_method_17_code
def yX7_needed : MethodName := ⟨RX7, "needed", "(II)I"⟩
abbrev cX7_coach : ByteArray := prog_1_method_18_code
def yX7_coach : MethodName := ⟨RX7, "coach", "(I)I"⟩
abbrev cX7_gain : ByteArray := prog_1_method_19_code
def yX7_gain : MethodName := ⟨RX7, "gain", "(II)I"⟩
abbrev cX7_turns : ByteArray := prog_1_method_20_code
def yX7_turns : MethodName := ⟨RX7, "turns", "(III)I"⟩
abbrev cX7_one : ByteArray := prog_1_method_21_code
def yX7_one : MethodName := ⟨RX7, "one", "(II)I"⟩
abbrev cX7_fears : ByteArray := prog_1_method_22_code
def yX7_fears : MethodName := ⟨RX7, "fears", "(II)I"⟩
abbrev cX7_silence : ByteArray := prog_1_method_23_code
def yX7_silence : MethodName := ⟨RX7, "silence", "(II)I"⟩
abbrev cX7_odds : ByteArray := prog_1_method_24_code
def yX7_odds : MethodName := ⟨RX7, "odds", "(II)J"⟩
abbrev cX7_seed : ByteArray := prog_1_method_25_code
def yX7_seed : MethodName := ⟨RX7, "seed", "(I)I"⟩
abbrev cX7_voice : ByteArray := prog_1_method_26_code
def yX7_voice : MethodName := ⟨RX7, "voice", "(III)I"⟩
abbrev cX7_trace : ByteArray := prog_1_method_27_code
def yX7_trace : MethodName := ⟨RX7, "trace", "(I)I"⟩
abbrev cX7_sheet : ByteArray := prog_1_method_28_code
def yX7_sheet : MethodName := ⟨RX7, "sheet", "(III)I"⟩
abbrev cX7_put : ByteArray := prog_1_method_29_code
def yX7_put : MethodName := ⟨RX7, "put", "(III)I"⟩
abbrev cX7_move : ByteArray := prog_1_method_30_code
def yX7_move : MethodName := ⟨RX7, "move", "(IIIII)I"⟩
abbrev cX7_acres : ByteArray := prog_1_method_31_code
def yX7_acres : MethodName := ⟨RX7, "acres", "(I)I"⟩
abbrev cX7_judge : ByteArray := prog_1_method_32_code
def yX7_judge : MethodName := ⟨RX7, "judge", "(I)I"⟩
abbrev cX7_image : ByteArray := prog_1_method_33_code
def yX7_image : MethodName := ⟨RX7, "image", "()I"⟩
abbrev cX7_restore : ByteArray := prog_1_method_34_code
def yX7_restore : MethodName := ⟨RX7, "restore", "()I"⟩
abbrev cX7_tell : ByteArray := prog_1_method_35_code
def yX7_tell : MethodName := ⟨RX7, "tell", "(I)I"⟩
abbrev cX7_check : ByteArray := prog_1_method_36_code
def yX7_check : MethodName := ⟨RX7, "check", "()I"⟩
abbrev cX7_count : ByteArray := prog_1_method_37_code
def yX7_count : MethodName := ⟨RX7, "count", "(I)I"⟩
abbrev cX7_told : ByteArray := prog_1_method_38_code
def yX7_told : MethodName := ⟨RX7, "told", "(I)I"⟩
abbrev cX7_error : ByteArray := prog_1_method_39_code
def yX7_error : MethodName := ⟨RX7, "error", "(I)I"⟩
abbrev cX7_isWithin : ByteArray := prog_1_method_40_code
def yX7_isWithin : MethodName := ⟨RX7, "isWithin", "(III)Z"⟩
abbrev cX7_isOwner : ByteArray := prog_1_method_41_code
def yX7_isOwner : MethodName := ⟨RX7, "isOwner", "(I)Z"⟩
abbrev cX7_isSheet : ByteArray := prog_1_method_42_code
def yX7_isSheet : MethodName := ⟨RX7, "isSheet", "(I)Z"⟩
abbrev cX7_isKm : ByteArray := prog_1_method_43_code
def yX7_isKm : MethodName := ⟨RX7, "isKm", "(I)Z"⟩
abbrev cX7_isKindUnder : ByteArray := prog_1_method_44_code
def yX7_isKindUnder : MethodName := ⟨RX7, "isKindUnder", "(II)Z"⟩
abbrev cX7_heldRent : ByteArray := prog_1_method_45_code
def yX7_heldRent : MethodName := ⟨RX7, "heldRent", "(I)I"⟩
def RX8 : String := "FieldsToldModel"
def TX8 : u_T := fun k => match k with
  | 0 => ("FieldsToldModel", "row", "[I", true)
  | 1 => ("FieldsToldModel", "kept", "[I", true)
  | 2 => ("FieldsToldModel", "tried", "[I", true)
  | 3 => ("FieldsToldModel", "before", "[I", true)
  | 4 => ("FieldsToldModel", "isKept", "Z", false)
  | 5 => ("FieldsToldModel", "images", "I", false)
  | 6 => ("FieldsToldModel", "found", "[I", true)
  | 7 => ("FieldsToldModel", "mute", "I", false)
  | 8 => ("FieldsToldModel", "were", "[I", true)
  | 9 => ("FieldsToldModel", "use", "I", false)
  | 10 => ("FieldsToldModel", "at", "I", false)
  | 11 => ("FieldsToldModel", "end", "I", false)
  | 12 => ("FieldsToldModel", "open", "I", false)
  | 13 => ("FieldsToldModel", "namedA", "I", false)
  | 14 => ("FieldsToldModel", "namedB", "I", false)
  | 15 => ("FieldsToldModel", "namedC", "I", false)
  | 16 => ("FieldsToldModel", "good", "Z", false)
  | 17 => ("FieldsToldModel", "need", "[I", true)
  | 18 => ("FieldsToldModel", "ahead", "[I", true)
  | 19 => ("FieldsToldModel", "bitsOf", "[I", true)
  | 20 => ("FieldsToldModel", "sizeOf", "[I", true)
  | 21 => ("FieldsToldModel", "sheets", "[I", true)
  | 22 => ("FieldsToldModel", "moved", "[I", true)
  | 23 => ("FieldsToldModel", "traced", "[I", true)
  | 24 => ("FieldsToldModel", "tracedMany", "I", false)
  | 25 => ("FieldsToldModel", "voiceKind", "I", false)
  | 26 => ("FieldsToldModel", "voiceN", "I", false)
  | _ => ("FieldsToldModel", "voiceM", "I", false)
def tyX8 : Nat → FieldType := fun k => match k with
  | 0 => .array .int
  | 1 => .array .int
  | 2 => .array .int
  | 3 => .array .int
  | 4 => .boolean
  | 5 => .int
  | 6 => .array .int
  | 7 => .int
  | 8 => .array .int
  | 9 => .int
  | 10 => .int
  | 11 => .int
  | 12 => .int
  | 13 => .int
  | 14 => .int
  | 15 => .int
  | 16 => .boolean
  | 17 => .array .int
  | 18 => .array .int
  | 19 => .array .int
  | 20 => .array .int
  | 21 => .array .int
  | 22 => .array .int
  | 23 => .array .int
  | 24 => .int
  | 25 => .int
  | 26 => .int
  | _ => .int
theorem nmX8 : ∀ a, a < 28 → ∀ b, b < 28 → a ≠ b → (TX8 a).2.1 ≠ (TX8 b).2.1 := by decide +kernel
theorem tyX8_ok : ∀ k, k < 28 → parseFieldDescriptor (TX8 k).2.2.1 = some (tyX8 k) := by decide +kernel
abbrev cX8_init : ByteArray := prog_10_method_1_code
def yX8_init : MethodName := ⟨RX8, "<init>", "()V"⟩
abbrev cX8_in : ByteArray := prog_10_method_2_code
def yX8_in : MethodName := ⟨RX8, "in", "(III)Z"⟩
abbrev cX8_errs : ByteArray := prog_10_method_3_code
def yX8_errs : MethodName := ⟨RX8, "errs", "(I)I"⟩
abbrev cX8_held : ByteArray := prog_10_method_4_code
def yX8_held : MethodName := ⟨RX8, "held", "(III)I"⟩
abbrev cX8_moveAll : ByteArray := prog_10_method_5_code
def yX8_moveAll : MethodName := ⟨RX8, "moveAll", "([I[I)V"⟩
abbrev cX8_isField : ByteArray := prog_10_method_6_code
def yX8_isField : MethodName := ⟨RX8, "isField", "(I)Z"⟩
abbrev cX8_isOwner : ByteArray := prog_10_method_7_code
def yX8_isOwner : MethodName := ⟨RX8, "isOwner", "(I)Z"⟩
abbrev cX8_its : ByteArray := prog_10_method_8_code
def yX8_its : MethodName := ⟨RX8, "its", "(II)I"⟩
abbrev cX8_puts : ByteArray := prog_10_method_9_code
def yX8_puts : MethodName := ⟨RX8, "puts", "(III)V"⟩
abbrev cX8_field : ByteArray := prog_10_method_10_code
def yX8_field : MethodName := ⟨RX8, "field", "(II)I"⟩
abbrev cX8_isTold : ByteArray := prog_10_method_11_code
def yX8_isTold : MethodName := ⟨RX8, "isTold", "(I)V"⟩
abbrev cX8_toldBy : ByteArray := prog_10_method_12_code
def yX8_toldBy : MethodName := ⟨RX8, "toldBy", "(I)I"⟩
abbrev cX8_greatest : ByteArray := prog_10_method_13_code
def yX8_greatest : MethodName := ⟨RX8, "greatest", "(IZ)I"⟩
abbrev cX8_saysNow : ByteArray := prog_10_method_14_code
def yX8_saysNow : MethodName := ⟨RX8, "saysNow", "(I)I"⟩
abbrev cX8_doesHear : ByteArray := prog_10_method_15_code
def yX8_doesHear : MethodName := ⟨RX8, "doesHear", "(I)Z"⟩
abbrev cX8_whose : ByteArray := prog_10_method_16_code
def yX8_whose : MethodName := ⟨RX8, "whose", "(I)I"⟩
abbrev cX8_rentOf : ByteArray := prog_10_method_17_code
def yX8_rentOf : MethodName := ⟨RX8, "rentOf", "(I)I"⟩
abbrev cX8_ofField : ByteArray := prog_10_method_18_code
def yX8_ofField : MethodName := ⟨RX8, "ofField", "(II)I"⟩
abbrev cX8_tellings : ByteArray := prog_10_method_19_code
def yX8_tellings : MethodName := ⟨RX8, "tellings", "(II)I"⟩
abbrev cX8_acresOf : ByteArray := prog_10_method_20_code
def yX8_acresOf : MethodName := ⟨RX8, "acresOf", "(I)I"⟩
abbrev cX8_ofOwner : ByteArray := prog_10_method_21_code
def yX8_ofOwner : MethodName := ⟨RX8, "ofOwner", "(II)I"⟩
abbrev cX8_become : ByteArray := prog_10_method_22_code
def yX8_become : MethodName := ⟨RX8, "become", "(II)I"⟩
abbrev cX8_above : ByteArray := prog_10_method_23_code
def yX8_above : MethodName := ⟨RX8, "above", "(I)I"⟩
abbrev cX8_as : ByteArray := prog_10_method_24_code
def yX8_as : MethodName := ⟨RX8, "as", "(II)I"⟩
abbrev cX8_set : ByteArray := prog_10_method_25_code
def yX8_set : MethodName := ⟨RX8, "set", "(III)I"⟩
abbrev cX8_fear : ByteArray := prog_10_method_26_code
def yX8_fear : MethodName := ⟨RX8, "fear", "(II)I"⟩
abbrev cX8_pace : ByteArray := prog_10_method_27_code
def yX8_pace : MethodName := ⟨RX8, "pace", "(I)I"⟩
abbrev cX8_forgets : ByteArray := prog_10_method_28_code
def yX8_forgets : MethodName := ⟨RX8, "forgets", "(I)I"⟩
abbrev cX8_hears : ByteArray := prog_10_method_29_code
def yX8_hears : MethodName := ⟨RX8, "hears", "(II)V"⟩
abbrev cX8_canTell : ByteArray := prog_10_method_30_code
def yX8_canTell : MethodName := ⟨RX8, "canTell", "(II)Z"⟩
abbrev cX8_telling : ByteArray := prog_10_method_31_code
def yX8_telling : MethodName := ⟨RX8, "telling", "(II)V"⟩
abbrev cX8_tells : ByteArray := prog_10_method_32_code
def yX8_tells : MethodName := ⟨RX8, "tells", "(II)I"⟩
abbrev cX8_drawn : ByteArray := prog_10_method_33_code
def yX8_drawn : MethodName := ⟨RX8, "drawn", "(I)I"⟩
abbrev cX8_loose : ByteArray := prog_10_method_34_code
def yX8_loose : MethodName := ⟨RX8, "loose", "(I)I"⟩
abbrev cX8_byteAt : ByteArray := prog_10_method_35_code
def yX8_byteAt : MethodName := ⟨RX8, "byteAt", "(I)I"⟩
abbrev cX8_isDigit : ByteArray := prog_10_method_36_code
def yX8_isDigit : MethodName := ⟨RX8, "isDigit", "(I)Z"⟩
abbrev cX8_fails : ByteArray := prog_10_method_37_code
def yX8_fails : MethodName := ⟨RX8, "fails", "()I"⟩
abbrev cX8_number : ByteArray := prog_10_method_38_code
def yX8_number : MethodName := ⟨RX8, "number", "()I"⟩
abbrev cX8_named : ByteArray := prog_10_method_39_code
def yX8_named : MethodName := ⟨RX8, "named", "(I)I"⟩
abbrev cX8_factor : ByteArray := prog_10_method_40_code
def yX8_factor : MethodName := ⟨RX8, "factor", "()I"⟩
abbrev cX8_product : ByteArray := prog_10_method_41_code
def yX8_product : MethodName := ⟨RX8, "product", "()I"⟩
abbrev cX8_sum : ByteArray := prog_10_method_42_code
def yX8_sum : MethodName := ⟨RX8, "sum", "()I"⟩
abbrev cX8_compared : ByteArray := prog_10_method_43_code
def yX8_compared : MethodName := ⟨RX8, "compared", "()I"⟩
abbrev cX8_both : ByteArray := prog_10_method_44_code
def yX8_both : MethodName := ⟨RX8, "both", "()I"⟩
abbrev cX8_whole : ByteArray := prog_10_method_45_code
def yX8_whole : MethodName := ⟨RX8, "whole", "()I"⟩
abbrev cX8_walks : ByteArray := prog_10_method_46_code
def yX8_walks : MethodName := ⟨RX8, "walks", "(IIII)I"⟩
abbrev cX8_lawOf : ByteArray := prog_10_method_47_code
def yX8_lawOf : MethodName := ⟨RX8, "lawOf", "(IIII)I"⟩
abbrev cX8_law : ByteArray := prog_10_method_48_code
def yX8_law : MethodName := ⟨RX8, "law", "(IIII)I"⟩
abbrev cX8_feed : ByteArray := prog_10_method_49_code
def yX8_feed : MethodName := ⟨RX8, "feed", "(JI)I"⟩
abbrev cX8_text : ByteArray := prog_10_method_50_code
def yX8_text : MethodName := ⟨RX8, "text", "(I)I"⟩
abbrev cX8_neededOf : ByteArray := prog_10_method_51_code
def yX8_neededOf : MethodName := ⟨RX8, "neededOf", "(II)I"⟩
abbrev cX8_needed : ByteArray := prog_10_method_52_code
def yX8_needed : MethodName := ⟨RX8, "needed", "(II)I"⟩
abbrev cX8_coachAt : ByteArray := prog_10_method_53_code
def yX8_coachAt : MethodName := ⟨RX8, "coachAt", "(I)I"⟩
abbrev cX8_coach : ByteArray := prog_10_method_54_code
def yX8_coach : MethodName := ⟨RX8, "coach", "(I)I"⟩
abbrev cX8_isInTime : ByteArray := prog_10_method_55_code
def yX8_isInTime : MethodName := ⟨RX8, "isInTime", "(I)Z"⟩
abbrev cX8_gain : ByteArray := prog_10_method_56_code
def yX8_gain : MethodName := ⟨RX8, "gain", "(II)I"⟩
abbrev cX8_byTurns : ByteArray := prog_10_method_57_code
def yX8_byTurns : MethodName := ⟨RX8, "byTurns", "(III)I"⟩
abbrev cX8_turns : ByteArray := prog_10_method_58_code
def yX8_turns : MethodName := ⟨RX8, "turns", "(III)I"⟩
abbrev cX8_isSheet : ByteArray := prog_10_method_59_code
def yX8_isSheet : MethodName := ⟨RX8, "isSheet", "(I)Z"⟩
abbrev cX8_saySo : ByteArray := prog_10_method_60_code
def yX8_saySo : MethodName := ⟨RX8, "saySo", "(I)Z"⟩
abbrev cX8_one : ByteArray := prog_10_method_61_code
def yX8_one : MethodName := ⟨RX8, "one", "(II)I"⟩
abbrev cX8_fears : ByteArray := prog_10_method_62_code
def yX8_fears : MethodName := ⟨RX8, "fears", "(II)I"⟩
abbrev cX8_silence : ByteArray := prog_10_method_63_code
def yX8_silence : MethodName := ⟨RX8, "silence", "(II)I"⟩
abbrev cX8_odds : ByteArray := prog_10_method_64_code
def yX8_odds : MethodName := ⟨RX8, "odds", "(II)J"⟩
abbrev cX8_seed : ByteArray := prog_10_method_65_code
def yX8_seed : MethodName := ⟨RX8, "seed", "(I)I"⟩
abbrev cX8_ran : ByteArray := prog_10_method_66_code
def yX8_ran : MethodName := ⟨RX8, "ran", "(I)V"⟩
abbrev cX8_hearsIn : ByteArray := prog_10_method_67_code
def yX8_hearsIn : MethodName := ⟨RX8, "hearsIn", "(II)I"⟩
abbrev cX8_fearsIn : ByteArray := prog_10_method_68_code
def yX8_fearsIn : MethodName := ⟨RX8, "fearsIn", "(II)I"⟩
abbrev cX8_saysIn : ByteArray := prog_10_method_69_code
def yX8_saysIn : MethodName := ⟨RX8, "saysIn", "(II)I"⟩
abbrev cX8_tellsIn : ByteArray := prog_10_method_70_code
def yX8_tellsIn : MethodName := ⟨RX8, "tellsIn", "(II)I"⟩
abbrev cX8_voice : ByteArray := prog_10_method_71_code
def yX8_voice : MethodName := ⟨RX8, "voice", "(III)I"⟩
abbrev cX8_trace : ByteArray := prog_10_method_72_code
def yX8_trace : MethodName := ⟨RX8, "trace", "(I)I"⟩
abbrev cX8_narrow : ByteArray := prog_10_method_73_code
def yX8_narrow : MethodName := ⟨RX8, "narrow", "(II)I"⟩
abbrev cX8_sheet : ByteArray := prog_10_method_74_code
def yX8_sheet : MethodName := ⟨RX8, "sheet", "(III)I"⟩
abbrev cX8_put : ByteArray := prog_10_method_75_code
def yX8_put : MethodName := ⟨RX8, "put", "(III)I"⟩
abbrev cX8_move : ByteArray := prog_10_method_76_code
def yX8_move : MethodName := ⟨RX8, "move", "(IIIII)I"⟩
abbrev cX8_acres : ByteArray := prog_10_method_77_code
def yX8_acres : MethodName := ⟨RX8, "acres", "(I)I"⟩
abbrev cX8_judge : ByteArray := prog_10_method_78_code
def yX8_judge : MethodName := ⟨RX8, "judge", "(I)I"⟩
abbrev cX8_image : ByteArray := prog_10_method_79_code
def yX8_image : MethodName := ⟨RX8, "image", "()I"⟩
abbrev cX8_restore : ByteArray := prog_10_method_80_code
def yX8_restore : MethodName := ⟨RX8, "restore", "()I"⟩
abbrev cX8_tell : ByteArray := prog_10_method_81_code
def yX8_tell : MethodName := ⟨RX8, "tell", "(I)I"⟩
abbrev cX8_check : ByteArray := prog_10_method_82_code
def yX8_check : MethodName := ⟨RX8, "check", "()I"⟩
abbrev cX8_count : ByteArray := prog_10_method_83_code
def yX8_count : MethodName := ⟨RX8, "count", "(I)I"⟩
abbrev cX8_told : ByteArray := prog_10_method_84_code
def yX8_told : MethodName := ⟨RX8, "told", "(I)I"⟩
def RJ9 : String := "java/lang/Math"
def RJ0 : String := "java/lang/String"
def RJ1 : String := "java/lang/StringLatin1"
def RJ7 : String := "java/util/Arrays"
def RL : String := "FieldsToldLaw"
abbrev cL_law : ByteArray := code
def yL_law : MethodName := ⟨RL, "law", "([I)Z"⟩
abbrev vwCl : List vw_C := [(RX0, TX0, 8), (RX1, TX1, 14), (RX2, TX2, 4), (RX3, TX3, 8), (RX4, TX4, 3), (RX5, TX5, 6), (RX6, TX6, 5), (RX7, TX7, 8), (RX8, TX8, 28)]
abbrev cJ0_length_8abf5 : ByteArray := prog_13_method_54_code
def yJ0_length_8abf5 : MethodName := ⟨RJ0, "length", "()I"⟩
abbrev cJ0_indexOf_0f7a4 : ByteArray := prog_13_method_79_code
def yJ0_indexOf_0f7a4 : MethodName := ⟨RJ0, "indexOf", "(I)I"⟩
abbrev cJ0_indexOf_7cf53 : ByteArray := prog_13_method_80_code
def yJ0_indexOf_7cf53 : MethodName := ⟨RJ0, "indexOf", "(II)I"⟩
abbrev cJ0_coder_7d493 : ByteArray := prog_13_method_152_code
def yJ0_coder_7d493 : MethodName := ⟨RJ0, "coder", "()B"⟩
abbrev cJ0_isLatin1_aae02 : ByteArray := prog_13_method_154_code
def yJ0_isLatin1_aae02 : MethodName := ⟨RJ0, "isLatin1", "()Z"⟩
abbrev cJ1_canEncode_9a6ad : ByteArray := prog_14_method_4_code
def yJ1_canEncode_9a6ad : MethodName := ⟨RJ1, "canEncode", "(I)Z"⟩
abbrev cJ1_indexOf_4cfef : ByteArray := prog_14_method_22_code
def yJ1_indexOf_4cfef : MethodName := ⟨RJ1, "indexOf", "([BIII)I"⟩
abbrev cJ1_indexOfChar_4cfef : ByteArray := prog_14_method_23_code
def yJ1_indexOfChar_4cfef : MethodName := ⟨RJ1, "indexOfChar", "([BIII)I"⟩
abbrev cJ7_fill_53178 : ByteArray := prog_17_method_103_code
def yJ7_fill_53178 : MethodName := ⟨RJ7, "fill", "([II)V"⟩
abbrev ab_Y : Type := MethodName × ByteArray × Nat × Option FieldType × Nat × Nat × Bool
/-- the methods: name, code, locals, return type, own class, parameters, static -/
def ab_MT : List ab_Y := [
  (yJ0_length_8abf5, cJ0_length_8abf5, 1, (Option.some FieldType.int), 10, 0, false),
  (yJ0_indexOf_0f7a4, cJ0_indexOf_0f7a4, 2, (Option.some FieldType.int), 10, 1, false),
  (yJ0_indexOf_7cf53, cJ0_indexOf_7cf53, 3, (Option.some FieldType.int), 10, 2, false),
  (yJ0_coder_7d493, cJ0_coder_7d493, 1, (Option.some FieldType.byte), 10, 0, false),
  (yJ0_isLatin1_aae02, cJ0_isLatin1_aae02, 1, (Option.some FieldType.boolean), 10, 0, false),
  (yJ1_canEncode_9a6ad, cJ1_canEncode_9a6ad, 1, (Option.some FieldType.boolean), 11, 1, true),
  (yJ1_indexOf_4cfef, cJ1_indexOf_4cfef, 4, (Option.some FieldType.int), 11, 4, true),
  (yJ1_indexOfChar_4cfef, cJ1_indexOfChar_4cfef, 6, (Option.some FieldType.int), 11, 4, true),
  (yJ7_fill_53178, cJ7_fill_53178, 4, (Option.none : Option FieldType), 13, 2, true),
  (yX0_init, cX0_init, 2, (Option.none : Option FieldType), 0, 1, false),
  (yX0_begin, cX0_begin, 3, (Option.none : Option FieldType), 0, 2, false),
  (yX0_copyFrom, cX0_copyFrom, 2, (Option.none : Option FieldType), 0, 1, false),
  (yX0_loseAllTold, cX0_loseAllTold, 1, (Option.none : Option FieldType), 0, 0, false),
  (yX0_toldByAll, cX0_toldByAll, 3, (Option.some FieldType.int), 0, 0, false),
  (yX0_hears, cX0_hears, 1, (Option.some FieldType.boolean), 0, 0, false),
  (yX0_listen, cX0_listen, 2, (Option.none : Option FieldType), 0, 1, false),
  (yX0_saysItself, cX0_saysItself, 2, (Option.some FieldType.int), 0, 1, false),
  (yX0_greatestBy, cX0_greatestBy, 4, (Option.some FieldType.int), 0, 1, false),
  (yX1_init, cX1_init, 2, (Option.none : Option FieldType), 1, 0, false),
  (yX1_copyFrom, cX1_copyFrom, 3, (Option.none : Option FieldType), 1, 1, false),
  (yX1_has, cX1_has, 2, (Option.some FieldType.boolean), 1, 1, false),
  (yX1_says, cX1_says, 4, (Option.some FieldType.int), 1, 2, false),
  (yX1_ownerOf, cX1_ownerOf, 4, (Option.some FieldType.int), 1, 2, false),
  (yX1_hasTitle, cX1_hasTitle, 3, (Option.some FieldType.boolean), 1, 2, false),
  (yX1_rentOf, cX1_rentOf, 4, (Option.some FieldType.int), 1, 1, false),
  (yX1_fieldsOf, cX1_fieldsOf, 4, (Option.some FieldType.int), 1, 1, false),
  (yX1_acresOf, cX1_acresOf, 5, (Option.some FieldType.int), 1, 2, false),
  (yX1_rentsOf, cX1_rentsOf, 4, (Option.some FieldType.int), 1, 1, false),
  (yX1_toldInAll, cX1_toldInAll, 3, (Option.some FieldType.int), 1, 0, false),
  (yX1_coachAt, cX1_coachAt, 4, (Option.some FieldType.int), 1, 1, false),
  (yX1_refuses, cX1_refuses, 3, (Option.some FieldType.boolean), 1, 2, false),
  (yX1_hearOut, cX1_hearOut, 5, (Option.none : Option FieldType), 1, 2, false),
  (yX1_draw, cX1_draw, 1, (Option.some FieldType.int), 1, 0, false),
  (yX1_saysAsIn, cX1_saysAsIn, 3, (Option.some FieldType.boolean), 1, 1, false),
  (yX2_init, cX2_init, 2, (Option.none : Option FieldType), 2, 1, false),
  (yX2_beginAsTitle, cX2_beginAsTitle, 1, (Option.none : Option FieldType), 2, 0, false),
  (yX2_beginAsRent, cX2_beginAsRent, 1, (Option.none : Option FieldType), 2, 0, false),
  (yX2_takeOver, cX2_takeOver, 4, (Option.none : Option FieldType), 2, 2, false),
  (yX2_work, cX2_work, 7, (Option.some FieldType.int), 2, 3, false),
  (yX2_join, cX2_join, 3, (Option.some FieldType.int), 2, 3, true),
  (yX3_init, cX3_init, 2, (Option.none : Option FieldType), 3, 1, false),
  (yX3_faultOf, cX3_faultOf, 3, (Option.some FieldType.int), 3, 2, false),
  (yX3_readLevel, cX3_readLevel, 5, (Option.none : Option FieldType), 3, 1, false),
  (yX3_joinsOf, cX3_joinsOf, 1, (Option.some (FieldType.object "java/lang/String")), 3, 1, true),
  (yX3_readQ, cX3_readQ, 1, (Option.none : Option FieldType), 3, 0, false),
  (yX3_readOpened, cX3_readOpened, 1, (Option.none : Option FieldType), 3, 0, false),
  (yX3_readNumber, cX3_readNumber, 3, (Option.none : Option FieldType), 3, 0, false),
  (yX3_isNextOf, cX3_isNextOf, 2, (Option.some FieldType.boolean), 3, 1, false),
  (yX3_take, cX3_take, 2, (Option.some FieldType.int), 3, 0, false),
  (yX3_emit, cX3_emit, 2, (Option.none : Option FieldType), 3, 1, false),
  (yX4_init, cX4_init, 1, (Option.none : Option FieldType), 4, 0, false),
  (yX4_begin, cX4_begin, 3, (Option.none : Option FieldType), 4, 2, false),
  (yX4_lowestBits, cX4_lowestBits, 2, (Option.some FieldType.int), 4, 1, false),
  (yX4_holds, cX4_holds, 3, (Option.some FieldType.boolean), 4, 2, false),
  (yX5_init, cX5_init, 3, (Option.none : Option FieldType), 5, 1, false),
  (yX5_leastTellings, cX5_leastTellings, 6, (Option.some FieldType.int), 5, 2, false),
  (yX5_bestSet, cX5_bestSet, 6, (Option.some FieldType.int), 5, 1, false),
  (yX5_acresBy, cX5_acresBy, 7, (Option.some FieldType.int), 5, 1, false),
  (yX5_leadByTurns, cX5_leadByTurns, 4, (Option.some FieldType.int), 5, 3, false),
  (yX5_bestLead, cX5_bestLead, 8, (Option.some FieldType.int), 5, 4, true),
  (yX5_leadNow, cX5_leadNow, 6, (Option.some FieldType.int), 5, 2, false),
  (yX5_seekTelling, cX5_seekTelling, 5, (Option.none : Option FieldType), 5, 1, false),
  (yX5_seekFears, cX5_seekFears, 7, (Option.none : Option FieldType), 5, 1, false),
  (yX5_noteIfSaid, cX5_noteIfSaid, 3, (Option.none : Option FieldType), 5, 2, false),
  (yX5_oddsOf, cX5_oddsOf, 8, (Option.some FieldType.long), 5, 2, false),
  (yX6_init, cX6_init, 1, (Option.none : Option FieldType), 6, 0, false),
  (yX6_speak, cX6_speak, 4, (Option.some FieldType.int), 6, 3, false),
  (yX6_body, cX6_body, 10, (Option.some FieldType.int), 6, 5, true),
  (yX6_begin, cX6_begin, 2, (Option.none : Option FieldType), 6, 1, false),
  (yX7_init, cX7_init, 2, (Option.none : Option FieldType), 7, 0, false),
  (yX7_field, cX7_field, 4, (Option.some FieldType.int), 7, 2, false),
  (yX7_ofField, cX7_ofField, 4, (Option.some FieldType.int), 7, 2, false),
  (yX7_tellings, cX7_tellings, 3, (Option.some FieldType.int), 7, 2, false),
  (yX7_ofOwner, cX7_ofOwner, 3, (Option.some FieldType.int), 7, 2, false),
  (yX7_become, cX7_become, 5, (Option.some FieldType.int), 7, 2, false),
  (yX7_as, cX7_as, 4, (Option.some FieldType.int), 7, 2, false),
  (yX7_set, cX7_set, 7, (Option.some FieldType.int), 7, 3, false),
  (yX7_fear, cX7_fear, 4, (Option.some FieldType.int), 7, 2, false),
  (yX7_pace, cX7_pace, 3, (Option.some FieldType.int), 7, 1, false),
  (yX7_forgets, cX7_forgets, 4, (Option.some FieldType.int), 7, 1, false),
  (yX7_tells, cX7_tells, 3, (Option.some FieldType.int), 7, 2, false),
  (yX7_loose, cX7_loose, 6, (Option.some FieldType.int), 7, 1, false),
  (yX7_feed, cX7_feed, 5, (Option.some FieldType.int), 7, 2, false),
  (yX7_text, cX7_text, 4, (Option.some FieldType.int), 7, 1, false),
  (yX7_law, cX7_law, 5, (Option.some FieldType.int), 7, 4, false),
  (yX7_needed, cX7_needed, 4, (Option.some FieldType.int), 7, 2, false),
  (yX7_coach, cX7_coach, 2, (Option.some FieldType.int), 7, 1, false),
  (yX7_gain, cX7_gain, 4, (Option.some FieldType.int), 7, 2, false),
  (yX7_turns, cX7_turns, 4, (Option.some FieldType.int), 7, 3, false),
  (yX7_one, cX7_one, 3, (Option.some FieldType.int), 7, 2, false),
  (yX7_fears, cX7_fears, 3, (Option.some FieldType.int), 7, 2, false),
  (yX7_silence, cX7_silence, 3, (Option.some FieldType.int), 7, 2, false),
  (yX7_odds, cX7_odds, 3, (Option.some FieldType.long), 7, 2, false),
  (yX7_seed, cX7_seed, 3, (Option.some FieldType.int), 7, 1, false),
  (yX7_voice, cX7_voice, 4, (Option.some FieldType.int), 7, 3, false),
  (yX7_trace, cX7_trace, 2, (Option.some FieldType.int), 7, 1, false),
  (yX7_sheet, cX7_sheet, 5, (Option.some FieldType.int), 7, 3, false),
  (yX7_put, cX7_put, 5, (Option.some FieldType.int), 7, 3, false),
  (yX7_move, cX7_move, 8, (Option.some FieldType.int), 7, 5, false),
  (yX7_acres, cX7_acres, 5, (Option.some FieldType.int), 7, 1, false),
  (yX7_judge, cX7_judge, 6, (Option.some FieldType.int), 7, 1, false),
  (yX7_image, cX7_image, 1, (Option.some FieldType.int), 7, 0, false),
  (yX7_restore, cX7_restore, 1, (Option.some FieldType.int), 7, 0, false),
  (yX7_tell, cX7_tell, 2, (Option.some FieldType.int), 7, 1, false),
  (yX7_check, cX7_check, 4, (Option.some FieldType.int), 7, 0, false),
  (yX7_count, cX7_count, 2, (Option.some FieldType.int), 7, 1, false),
  (yX7_told, cX7_told, 2, (Option.some FieldType.int), 7, 1, false),
  (yX7_error, cX7_error, 2, (Option.some FieldType.int), 7, 1, false),
  (yX7_isWithin, cX7_isWithin, 3, (Option.some FieldType.boolean), 7, 3, true),
  (yX7_isOwner, cX7_isOwner, 1, (Option.some FieldType.boolean), 7, 1, true),
  (yX7_isSheet, cX7_isSheet, 1, (Option.some FieldType.boolean), 7, 1, true),
  (yX7_isKm, cX7_isKm, 1, (Option.some FieldType.boolean), 7, 1, true),
  (yX7_isKindUnder, cX7_isKindUnder, 4, (Option.some FieldType.boolean), 7, 2, true),
  (yX7_heldRent, cX7_heldRent, 1, (Option.some FieldType.int), 7, 1, true),
  (yX8_init, cX8_init, 2, (Option.none : Option FieldType), 8, 0, false),
  (yX8_in, cX8_in, 3, (Option.some FieldType.boolean), 8, 3, true),
  (yX8_errs, cX8_errs, 2, (Option.some FieldType.int), 8, 1, false),
  (yX8_held, cX8_held, 3, (Option.some FieldType.int), 8, 3, true),
  (yX8_moveAll, cX8_moveAll, 4, (Option.none : Option FieldType), 8, 2, false),
  (yX8_isField, cX8_isField, 2, (Option.some FieldType.boolean), 8, 1, false),
  (yX8_isOwner, cX8_isOwner, 1, (Option.some FieldType.boolean), 8, 1, true),
  (yX8_its, cX8_its, 3, (Option.some FieldType.int), 8, 2, false),
  (yX8_puts, cX8_puts, 4, (Option.none : Option FieldType), 8, 3, false),
  (yX8_field, cX8_field, 4, (Option.some FieldType.int), 8, 2, false),
  (yX8_isTold, cX8_isTold, 3, (Option.none : Option FieldType), 8, 1, false),
  (yX8_toldBy, cX8_toldBy, 4, (Option.some FieldType.int), 8, 1, false),
  (yX8_greatest, cX8_greatest, 8, (Option.some FieldType.int), 8, 2, false),
  (yX8_saysNow, cX8_saysNow, 4, (Option.some FieldType.int), 8, 1, false),
  (yX8_doesHear, cX8_doesHear, 3, (Option.some FieldType.boolean), 8, 1, false),
  (yX8_whose, cX8_whose, 3, (Option.some FieldType.int), 8, 1, false),
  (yX8_rentOf, cX8_rentOf, 3, (Option.some FieldType.int), 8, 1, false),
  (yX8_ofField, cX8_ofField, 3, (Option.some FieldType.int), 8, 2, false),
  (yX8_tellings, cX8_tellings, 3, (Option.some FieldType.int), 8, 2, false),
  (yX8_acresOf, cX8_acresOf, 4, (Option.some FieldType.int), 8, 1, false),
  (yX8_ofOwner, cX8_ofOwner, 6, (Option.some FieldType.int), 8, 2, false),
  (yX8_become, cX8_become, 4, (Option.some FieldType.int), 8, 2, false),
  (yX8_above, cX8_above, 1, (Option.some FieldType.int), 8, 1, true),
  (yX8_as, cX8_as, 4, (Option.some FieldType.int), 8, 2, false),
  (yX8_set, cX8_set, 6, (Option.some FieldType.int), 8, 3, false),
  (yX8_fear, cX8_fear, 4, (Option.some FieldType.int), 8, 2, false),
  (yX8_pace, cX8_pace, 3, (Option.some FieldType.int), 8, 1, false),
  (yX8_forgets, cX8_forgets, 3, (Option.some FieldType.int), 8, 1, false),
  (yX8_hears, cX8_hears, 3, (Option.none : Option FieldType), 8, 2, false),
  (yX8_canTell, cX8_canTell, 3, (Option.some FieldType.boolean), 8, 2, false),
  (yX8_telling, cX8_telling, 5, (Option.none : Option FieldType), 8, 2, false),
  (yX8_tells, cX8_tells, 3, (Option.some FieldType.int), 8, 2, false),
  (yX8_drawn, cX8_drawn, 2, (Option.some FieldType.int), 8, 1, false),
  (yX8_loose, cX8_loose, 6, (Option.some FieldType.int), 8, 1, false),
  (yX8_byteAt, cX8_byteAt, 2, (Option.some FieldType.int), 8, 1, false),
  (yX8_isDigit, cX8_isDigit, 1, (Option.some FieldType.boolean), 8, 1, true),
  (yX8_fails, cX8_fails, 1, (Option.some FieldType.int), 8, 0, false),
  (yX8_number, cX8_number, 3, (Option.some FieldType.int), 8, 0, false),
  (yX8_named, cX8_named, 5, (Option.some FieldType.int), 8, 1, false),
  (yX8_factor, cX8_factor, 3, (Option.some FieldType.int), 8, 0, false),
  (yX8_product, cX8_product, 4, (Option.some FieldType.int), 8, 0, false),
  (yX8_sum, cX8_sum, 4, (Option.some FieldType.int), 8, 0, false),
  (yX8_compared, cX8_compared, 5, (Option.some FieldType.int), 8, 0, false),
  (yX8_both, cX8_both, 3, (Option.some FieldType.int), 8, 0, false),
  (yX8_whole, cX8_whole, 3, (Option.some FieldType.int), 8, 0, false),
  (yX8_walks, cX8_walks, 6, (Option.some FieldType.int), 8, 4, false),
  (yX8_lawOf, cX8_lawOf, 6, (Option.some FieldType.int), 8, 4, false),
  (yX8_law, cX8_law, 5, (Option.some FieldType.int), 8, 4, false),
  (yX8_feed, cX8_feed, 5, (Option.some FieldType.int), 8, 2, false),
  (yX8_text, cX8_text, 5, (Option.some FieldType.int), 8, 1, false),
  (yX8_neededOf, cX8_neededOf, 4, (Option.some FieldType.int), 8, 2, false),
  (yX8_needed, cX8_needed, 4, (Option.some FieldType.int), 8, 2, false),
  (yX8_coachAt, cX8_coachAt, 4, (Option.some FieldType.int), 8, 1, false),
  (yX8_coach, cX8_coach, 2, (Option.some FieldType.int), 8, 1, false),
  (yX8_isInTime, cX8_isInTime, 5, (Option.some FieldType.boolean), 8, 1, false),
  (yX8_gain, cX8_gain, 8, (Option.some FieldType.int), 8, 2, false),
  (yX8_byTurns, cX8_byTurns, 8, (Option.some FieldType.int), 8, 3, false),
  (yX8_turns, cX8_turns, 4, (Option.some FieldType.int), 8, 3, false),
  (yX8_isSheet, cX8_isSheet, 1, (Option.some FieldType.boolean), 8, 1, true),
  (yX8_saySo, cX8_saySo, 4, (Option.some FieldType.boolean), 8, 1, false),
  (yX8_one, cX8_one, 7, (Option.some FieldType.int), 8, 2, false),
  (yX8_fears, cX8_fears, 10, (Option.some FieldType.int), 8, 2, false),
  (yX8_silence, cX8_silence, 5, (Option.some FieldType.int), 8, 2, false),
  (yX8_odds, cX8_odds, 8, (Option.some FieldType.long), 8, 2, false),
  (yX8_seed, cX8_seed, 3, (Option.some FieldType.int), 8, 1, false),
  (yX8_ran, cX8_ran, 2, (Option.none : Option FieldType), 8, 1, false),
  (yX8_hearsIn, cX8_hearsIn, 3, (Option.some FieldType.int), 8, 2, false),
  (yX8_fearsIn, cX8_fearsIn, 3, (Option.some FieldType.int), 8, 2, false),
  (yX8_saysIn, cX8_saysIn, 4, (Option.some FieldType.int), 8, 2, false),
  (yX8_tellsIn, cX8_tellsIn, 4, (Option.some FieldType.int), 8, 2, false),
  (yX8_voice, cX8_voice, 4, (Option.some FieldType.int), 8, 3, false),
  (yX8_trace, cX8_trace, 2, (Option.some FieldType.int), 8, 1, false),
  (yX8_narrow, cX8_narrow, 2, (Option.some FieldType.int), 8, 2, true),
  (yX8_sheet, cX8_sheet, 5, (Option.some FieldType.int), 8, 3, false),
  (yX8_put, cX8_put, 4, (Option.some FieldType.int), 8, 3, false),
  (yX8_move, cX8_move, 7, (Option.some FieldType.int), 8, 5, false),
  (yX8_acres, cX8_acres, 3, (Option.some FieldType.int), 8, 1, false),
  (yX8_judge, cX8_judge, 3, (Option.some FieldType.int), 8, 1, false),
  (yX8_image, cX8_image, 1, (Option.some FieldType.int), 8, 0, false),
  (yX8_restore, cX8_restore, 1, (Option.some FieldType.int), 8, 0, false),
  (yX8_tell, cX8_tell, 2, (Option.some FieldType.int), 8, 1, false),
  (yX8_check, cX8_check, 3, (Option.some FieldType.int), 8, 0, false),
  (yX8_count, cX8_count, 5, (Option.some FieldType.int), 8, 1, false),
  (yX8_told, cX8_told, 2, (Option.some FieldType.int), 8, 1, false)]
def ab_law : ab_Y := (yL_law, cL_law, maxLocals, ret, 9, 1, true)
def ab_ME (y : Nat) : Option ab_Y := if y = 198 then some ab_law else ab_MT[y]?
def ab_ins (y pc : Nat) : Option (Instr × Nat) := match ab_ME y with
  | some e => (match decode e.2.1 pc with | .ok r => some r | .error _ => none)
  | none => none
def ab_cn : List String := ["FieldsTold$Field", "FieldsTold$Land", "FieldsTold$Law", "FieldsTold$Reader", "FieldsTold$Sheet", "FieldsTold$Thought", "FieldsTold$Voice", "FieldsTold", "FieldsToldModel", "FieldsToldLaw", "java/lang/String", "java/lang/StringLatin1", "java/lang/Math", "java/util/Arrays"]
/-- calls: own class, place in the pool, method (998 Object(), 999 arraycopy), 1 by the nest -/
def ab_LK : List (Nat × Nat × Nat × Nat) := [(0, 3, 998, 0), (0, 37, 12, 0), (0, 40, 999, 0), (0, 46, 8, 0), (0, 52, 109, 1), (0, 56, 14, 0), (0, 60, 17, 0), (1, 3, 998, 0), (1, 25, 34, 0), (1, 68, 9, 0), (1, 71, 35, 0), (1, 74, 36, 0), (1, 77, 11, 0), (1, 87, 37, 0), (1, 91, 999, 0), (1, 97, 108, 1), (1, 104, 16, 0), (1, 108, 21, 0), (1, 112, 23, 0), (1, 119, 13, 0), (1, 123, 38, 0), (1, 127, 22, 0), (1, 136, 113, 1), (1, 140, 24, 0), (1, 146, 15, 0), (2, 3, 998, 0), (2, 26, 997, 0), (2, 32, 999, 0), (2, 38, 39, 0), (3, 3, 998, 0), (3, 41, 997, 0), (3, 47, 42, 0), (3, 51, 44, 0), (3, 54, 43, 0), (3, 58, 47, 0), (3, 62, 48, 0), (3, 68, 49, 0), (3, 83, 46, 0), (3, 86, 1, 0), (3, 94, 45, 0), (4, 3, 998, 0), (4, 22, 8, 0), (5, 3, 998, 0), (5, 35, 9, 0), (5, 43, 11, 0), (5, 47, 22, 0), (5, 51, 15, 0), (5, 57, 55, 0), (5, 60, 57, 0), (5, 73, 59, 0), (5, 77, 60, 0), (5, 81, 996, 0), (5, 86, 63, 0), (5, 93, 999, 0), (5, 99, 33, 0), (6, 3, 998, 0), (6, 35, 67, 0), (6, 39, 108, 1), (6, 49, 68, 0), (7, 1, 998, 0), (7, 9, 18, 0), (7, 25, 40, 0), (7, 34, 54, 0), (7, 43, 65, 1), (7, 54, 50, 1), (7, 62, 111, 0), (7, 66, 108, 0), (7, 70, 107, 0), (7, 81, 10, 0), (7, 90, 20, 0), (7, 111, 21, 0), (7, 115, 22, 0), (7, 118, 24, 0), (7, 121, 13, 0), (7, 125, 109, 0), (7, 134, 25, 0), (7, 137, 26, 0), (7, 140, 27, 0), (7, 143, 112, 0), (7, 150, 12, 0), (7, 153, 30, 0), (7, 156, 31, 0), (7, 159, 32, 0), (7, 178, 41, 0), (7, 188, 37, 0), (7, 192, 38, 0), (7, 196, 113, 0), (7, 199, 55, 0), (7, 202, 29, 0), (7, 205, 56, 0), (7, 208, 57, 0), (7, 211, 58, 0), (7, 214, 110, 0), (7, 220, 61, 0), (7, 230, 62, 0), (7, 233, 64, 0), (7, 240, 66, 0), (7, 250, 51, 0), (7, 257, 52, 0), (7, 260, 53, 0), (7, 263, 999, 0), (7, 269, 997, 0), (7, 274, 996, 0), (7, 277, 19, 0), (7, 292, 28, 0), (8, 1, 998, 0), (8, 54, 115, 0), (8, 59, 116, 0), (8, 64, 122, 0), (8, 68, 124, 0), (8, 72, 121, 0), (8, 76, 126, 0), (8, 80, 127, 0), (8, 83, 125, 0), (8, 86, 160, 0), (8, 90, 129, 0), (8, 93, 119, 0), (8, 97, 130, 0), (8, 100, 120, 0), (8, 103, 133, 0), (8, 106, 136, 0), (8, 110, 128, 0), (8, 113, 142, 0), (8, 117, 117, 0), (8, 121, 143, 0), (8, 126, 144, 0), (8, 130, 146, 0), (8, 146, 148, 0), (8, 149, 149, 0), (8, 152, 150, 0), (8, 165, 151, 0), (8, 168, 152, 0), (8, 174, 153, 0), (8, 177, 158, 0), (8, 180, 154, 0), (8, 183, 155, 0), (8, 186, 156, 0), (8, 189, 157, 0), (8, 192, 159, 0), (8, 197, 118, 0), (8, 201, 164, 0), (8, 205, 166, 0), (8, 208, 168, 0), (8, 211, 170, 0), (8, 214, 172, 0), (8, 217, 173, 0), (8, 227, 179, 0), (8, 233, 180, 0), (8, 239, 181, 0), (8, 245, 182, 0), (8, 248, 183, 0), (8, 251, 186, 0), (9, 9, 69, 0), (9, 12, 114, 0), (9, 13, 70, 0), (9, 17, 123, 0), (9, 18, 71, 0), (9, 21, 131, 0), (9, 22, 72, 0), (9, 25, 132, 0), (9, 26, 73, 0), (9, 29, 134, 0), (9, 30, 74, 0), (9, 33, 135, 0), (9, 34, 75, 0), (9, 37, 137, 0), (9, 38, 76, 0), (9, 42, 138, 0), (9, 43, 77, 0), (9, 46, 139, 0), (9, 47, 78, 0), (9, 51, 140, 0), (9, 52, 79, 0), (9, 55, 141, 0), (9, 56, 80, 0), (9, 59, 145, 0), (9, 60, 81, 0), (9, 63, 147, 0), (9, 66, 82, 0), (9, 70, 162, 0), (9, 71, 83, 0), (9, 74, 163, 0), (9, 75, 84, 0), (9, 79, 161, 0), (9, 80, 85, 0), (9, 83, 165, 0), (9, 84, 86, 0), (9, 87, 167, 0), (9, 88, 87, 0), (9, 91, 169, 0), (9, 92, 88, 0), (9, 95, 171, 0), (9, 96, 89, 0), (9, 99, 174, 0), (9, 100, 90, 0), (9, 103, 175, 0), (9, 104, 91, 0), (9, 107, 176, 0), (9, 108, 92, 0), (9, 112, 177, 0), (9, 113, 93, 0), (9, 116, 178, 0), (9, 117, 94, 0), (9, 120, 184, 0), (9, 121, 95, 0), (9, 124, 185, 0), (9, 125, 96, 0), (9, 128, 187, 0), (9, 129, 97, 0), (9, 132, 188, 0), (9, 133, 98, 0), (9, 137, 189, 0), (9, 138, 99, 0), (9, 141, 190, 0), (9, 142, 100, 0), (9, 145, 191, 0), (9, 146, 101, 0), (9, 150, 192, 0), (9, 151, 102, 0), (9, 154, 193, 0), (9, 155, 103, 0), (9, 158, 194, 0), (9, 159, 104, 0), (9, 162, 195, 0), (9, 163, 105, 0), (9, 166, 196, 0), (9, 167, 106, 0), (9, 170, 197, 0), (10, 335, 3, 0), (10, 492, 4, 0), (10, 505, 0, 0), (10, 633, 2, 0), (10, 637, 6, 0), (11, 38, 997, 0), (11, 88, 5, 0), (11, 92, 996, 0), (11, 95, 7, 0)]
def ab_FL : List (Nat × Nat × Nat × Nat) := [(0, 9, 0, 1), (0, 15, 0, 2), (0, 19, 0, 3), (0, 22, 0, 4), (0, 25, 0, 5), (0, 28, 0, 6), (0, 31, 0, 7), (0, 34, 0, 0), (1, 11, 1, 0), (1, 17, 1, 1), (1, 28, 1, 2), (1, 34, 1, 3), (1, 37, 1, 4), (1, 40, 1, 5), (1, 43, 1, 6), (1, 46, 1, 7), (1, 50, 1, 8), (1, 53, 1, 9), (1, 56, 1, 10), (1, 59, 1, 11), (1, 62, 1, 12), (1, 65, 1, 13), (1, 81, 2, 1), (1, 84, 2, 3), (1, 101, 0, 2), (1, 116, 0, 1), (1, 130, 0, 4), (1, 133, 0, 3), (1, 143, 0, 5), (1, 150, 4, 2), (1, 155, 4, 0), (2, 9, 2, 1), (2, 15, 2, 2), (2, 18, 2, 3), (2, 22, 2, 0), (3, 9, 3, 0), (3, 15, 3, 1), (3, 21, 3, 3), (3, 25, 3, 4), (3, 28, 3, 5), (3, 31, 3, 6), (3, 34, 3, 7), (3, 38, 3, 2), (4, 9, 4, 0), (4, 15, 4, 1), (4, 19, 4, 2), (5, 9, 5, 0), (5, 15, 5, 1), (5, 20, 5, 3), (5, 24, 5, 4), (5, 28, 5, 5), (5, 31, 5, 2), (5, 38, 1, 0), (5, 54, 1, 7), (5, 64, 1, 8), (5, 67, 0, 5), (5, 70, 0, 4), (5, 90, 1, 1), (5, 103, 0, 3), (6, 11, 6, 0), (6, 15, 6, 1), (6, 19, 6, 2), (6, 22, 6, 3), (6, 25, 6, 4), (6, 28, 0, 2), (6, 31, 0, 3), (6, 32, 0, 0), (7, 10, 7, 0), (7, 16, 7, 1), (7, 21, 1, 4), (7, 28, 7, 2), (7, 37, 7, 3), (7, 44, 7, 4), (7, 50, 7, 5), (7, 55, 7, 6), (7, 58, 7, 7), (7, 74, 1, 7), (7, 77, 1, 0), (7, 87, 0, 0), (7, 93, 0, 2), (7, 96, 0, 3), (7, 99, 0, 4), (7, 102, 0, 5), (7, 105, 0, 6), (7, 108, 0, 7), (7, 128, 0, 1), (7, 131, 1, 1), (7, 147, 1, 8), (7, 162, 1, 12), (7, 165, 1, 2), (7, 169, 1, 3), (7, 172, 2, 0), (7, 182, 3, 0), (7, 185, 3, 1), (7, 217, 4, 1), (7, 224, 5, 0), (7, 227, 5, 1), (7, 237, 1, 11), (7, 244, 6, 1), (7, 247, 6, 0), (7, 251, 4, 2), (7, 254, 4, 0), (7, 280, 1, 9), (7, 283, 1, 13), (7, 286, 1, 5), (7, 289, 1, 10), (8, 7, 8, 0), (8, 13, 8, 1), (8, 16, 8, 2), (8, 19, 8, 3), (8, 22, 8, 6), (8, 25, 8, 7), (8, 29, 8, 8), (8, 32, 8, 17), (8, 35, 8, 18), (8, 38, 8, 19), (8, 41, 8, 20), (8, 44, 8, 21), (8, 47, 8, 22), (8, 50, 8, 23), (8, 133, 8, 11), (8, 136, 8, 9), (8, 139, 8, 16), (8, 143, 8, 10), (8, 156, 8, 13), (8, 159, 8, 14), (8, 162, 8, 15), (8, 171, 8, 12), (8, 224, 8, 24), (8, 230, 8, 26), (8, 236, 8, 27), (8, 242, 8, 25), (8, 254, 8, 4), (8, 257, 8, 5), (10, 9, 10, 0), (10, 15, 10, 1)]
def ab_GS : List (Nat × Nat × Value × Nat × Nat) := [(7, 296, .ref 12000, 0, 0), (10, 38, .int 1, 2, 0), (6, 43, .ref 12001, 1, 0), (6, 46, .ref 12000, 0, 1)]
def ab_LC : List (Nat × Nat × Int32) := [(7, 295, -1000000000), (1, 149, 1103515245), (5, 80, -1000000000), (8, 58, -1000000001), (8, 53, -1000000000), (8, 63, -1000000004), (8, 109, -1000000005), (8, 125, -1000000003), (8, 129, 1103515245), (8, 204, -1000000002)]
def ab_LL : List (Nat × Nat × Int64) := [(5, 106, 16), (5, 108, 2), (8, 195, 255), (8, 220, 16), (8, 222, 2), (9, 64, 4294967295)]
def ab_TX : List String := ["ntf", "anm", "", "0123456789", "!(", ")", "|", "&", "<=>", "+-", "*/%"]
def ab_TB : List (List Int32) := [[110, 116, 102], [97, 110, 109], [], [48, 49, 50, 51, 52, 53, 54, 55, 56, 57], [33, 40], [41], [124], [38], [60, 61, 62], [43, 45], [42, 47, 37]]
def ab_LS : List (Nat × Nat × Nat) := [(1, 23, 0), (1, 32, 1), (3, 19, 2), (3, 81, 3), (3, 92, 4), (3, 97, 5), (3, 71, 6), (3, 73, 7), (3, 75, 8), (3, 77, 9), (3, 79, 10)]
def ab_CL : List (Nat × Nat × Nat) := [(9, 7, 7), (7, 7, 1), (1, 9, 0), (1, 21, 2), (7, 19, 3), (7, 32, 5), (5, 18, 0), (7, 41, 6), (7, 48, 4), (9, 10, 8)]
def ab_DF : List (List (Option Value)) := [[none, some .null, none, none, none, none, none, none], [some .null, some .null, some .null, some .null, some .null, some .null, some .null, none, none, none, none, none, none, none], [some .null, some .null, some .null, none], [some .null, none, some .null, some .null, none, none, none, none], [some .null, none, none], [none, none, some .null, some .null, some .null, some .null], [some .null, none, none, none, none], [some .null, some .null, some .null, some .null, some .null, some .null, some .null, none], [some .null, some .null, some .null, some .null, none, none, some .null, none, some .null, none, none, none, none, none, none, none, none, some .null, some .null, some .null, some .null, some .null, some .null, some .null, none, none, none, none]]
def ab_KA : List Int32 := [-1, 0, 0, 0, 1, 2, 3]
def ab_BO : List Int32 := [10, 11, 12, 13, 20, 0, 0, 0, 0, 0, 30, 0, 0, 40, 0, 0, 0, 0, 0, 50, 0, 0, 60, 61, 0, 70, 0, 0]
