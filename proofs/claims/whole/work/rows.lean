section
/-- a private method of a class that the tables say can be made, by its rows of tables_1 -/
def lw_okq (q : MethodName × Nat) : Prop := (q.1.cls ≠ "java/lang/invoke/MethodHandle" ∧ q.1.cls ≠ "java/lang/invoke/VarHandle") ∧ Cond.instantiable q.1.cls q.2 ∈ tables_1 ∧ Cond.privateMethod q.1 ∈ tables_1 ∧ Cond.instanceMethod q.1 ∈ tables_1
theorem lw_p0 : lw_okq (⟨"WalkFences", "error", "(I)I"⟩, 8) := ⟨⟨by decide +kernel, by decide +kernel⟩, List.mem_of_getElem? (i := 20) (by decide +kernel), List.mem_of_getElem? (i := 268) (by decide +kernel), List.mem_of_getElem? (i := 269) (by decide +kernel)⟩
theorem lw_p1 : lw_okq (⟨"WalkFences", "isFence", "(I)Z"⟩, 8) := ⟨⟨by decide +kernel, by decide +kernel⟩, List.mem_of_getElem? (i := 20) (by decide +kernel), List.mem_of_getElem? (i := 281) (by decide +kernel), List.mem_of_getElem? (i := 282) (by decide +kernel)⟩
theorem lw_p2 : lw_okq (⟨"WalkFences$Law", "workedOut", "(III)I"⟩, 4) := ⟨⟨by decide +kernel, by decide +kernel⟩, List.mem_of_getElem? (i := 75) (by decide +kernel), List.mem_of_getElem? (i := 331) (by decide +kernel), List.mem_of_getElem? (i := 332) (by decide +kernel)⟩
theorem lw_p3 : lw_okq (⟨"WalkFences", "isPost", "(II)Z"⟩, 8) := ⟨⟨by decide +kernel, by decide +kernel⟩, List.mem_of_getElem? (i := 20) (by decide +kernel), List.mem_of_getElem? (i := 351) (by decide +kernel), List.mem_of_getElem? (i := 352) (by decide +kernel)⟩
theorem lw_p4 : lw_okq (⟨"WalkFences", "isCow", "(I)Z"⟩, 8) := ⟨⟨by decide +kernel, by decide +kernel⟩, List.mem_of_getElem? (i := 20) (by decide +kernel), List.mem_of_getElem? (i := 401) (by decide +kernel), List.mem_of_getElem? (i := 402) (by decide +kernel)⟩
theorem lw_p5 : lw_okq (⟨"WalkFences$TextReader", "readLevel", "(II)Z"⟩, 6) := ⟨⟨by decide +kernel, by decide +kernel⟩, List.mem_of_getElem? (i := 157) (by decide +kernel), List.mem_of_getElem? (i := 440) (by decide +kernel), List.mem_of_getElem? (i := 441) (by decide +kernel)⟩
theorem lw_p6 : lw_okq (⟨"WalkFences$TextReader", "readQ", "(I)Z"⟩, 6) := ⟨⟨by decide +kernel, by decide +kernel⟩, List.mem_of_getElem? (i := 157) (by decide +kernel), List.mem_of_getElem? (i := 444) (by decide +kernel), List.mem_of_getElem? (i := 445) (by decide +kernel)⟩
theorem lw_p7 : lw_okq (⟨"WalkFences$TextReader", "sign", "()C"⟩, 6) := ⟨⟨by decide +kernel, by decide +kernel⟩, List.mem_of_getElem? (i := 157) (by decide +kernel), List.mem_of_getElem? (i := 448) (by decide +kernel), List.mem_of_getElem? (i := 449) (by decide +kernel)⟩
theorem lw_p8 : lw_okq (⟨"WalkFences$TextReader", "readNumber", "()V"⟩, 6) := ⟨⟨by decide +kernel, by decide +kernel⟩, List.mem_of_getElem? (i := 157) (by decide +kernel), List.mem_of_getElem? (i := 455) (by decide +kernel), List.mem_of_getElem? (i := 456) (by decide +kernel)⟩
theorem lw_p9 : lw_okq (⟨"WalkFences$TextReader", "add", "(I)V"⟩, 6) := ⟨⟨by decide +kernel, by decide +kernel⟩, List.mem_of_getElem? (i := 157) (by decide +kernel), List.mem_of_getElem? (i := 459) (by decide +kernel), List.mem_of_getElem? (i := 460) (by decide +kernel)⟩
theorem lw_p10 : lw_okq (⟨"WalkFences$TextReader", "readOpened", "(CI)Z"⟩, 6) := ⟨⟨by decide +kernel, by decide +kernel⟩, List.mem_of_getElem? (i := 157) (by decide +kernel), List.mem_of_getElem? (i := 463) (by decide +kernel), List.mem_of_getElem? (i := 464) (by decide +kernel)⟩
theorem lw_p11 : lw_okq (⟨"WalkFences$Range", "fencesGraze", "()V"⟩, 15) := ⟨⟨by decide +kernel, by decide +kernel⟩, List.mem_of_getElem? (i := 28) (by decide +kernel), List.mem_of_getElem? (i := 591) (by decide +kernel), List.mem_of_getElem? (i := 592) (by decide +kernel)⟩
theorem lw_p12 : lw_okq (⟨"WalkFences$Range", "cattleFeed", "()V"⟩, 15) := ⟨⟨by decide +kernel, by decide +kernel⟩, List.mem_of_getElem? (i := 28) (by decide +kernel), List.mem_of_getElem? (i := 598) (by decide +kernel), List.mem_of_getElem? (i := 599) (by decide +kernel)⟩
theorem lw_p13 : lw_okq (⟨"WalkFences$Range", "draw", "()I"⟩, 15) := ⟨⟨by decide +kernel, by decide +kernel⟩, List.mem_of_getElem? (i := 28) (by decide +kernel), List.mem_of_getElem? (i := 612) (by decide +kernel), List.mem_of_getElem? (i := 613) (by decide +kernel)⟩
theorem lw_p14 : lw_okq (⟨"WalkFences", "fewestSalts", "(III)J"⟩, 8) := ⟨⟨by decide +kernel, by decide +kernel⟩, List.mem_of_getElem? (i := 20) (by decide +kernel), List.mem_of_getElem? (i := 652) (by decide +kernel), List.mem_of_getElem? (i := 653) (by decide +kernel)⟩
theorem lw_p15 : lw_okq (⟨"WalkFences", "isInsideSalted", "(IIIJ)Z"⟩, 8) := ⟨⟨by decide +kernel, by decide +kernel⟩, List.mem_of_getElem? (i := 20) (by decide +kernel), List.mem_of_getElem? (i := 656) (by decide +kernel), List.mem_of_getElem? (i := 657) (by decide +kernel)⟩
def lw_privs_1 : List (MethodName × Nat) := [(⟨"WalkFences", "error", "(I)I"⟩, 8), (⟨"WalkFences", "isFence", "(I)Z"⟩, 8), (⟨"WalkFences$Law", "workedOut", "(III)I"⟩, 4), (⟨"WalkFences", "isPost", "(II)Z"⟩, 8), (⟨"WalkFences", "isCow", "(I)Z"⟩, 8), (⟨"WalkFences$TextReader", "readLevel", "(II)Z"⟩, 6), (⟨"WalkFences$TextReader", "readQ", "(I)Z"⟩, 6), (⟨"WalkFences$TextReader", "sign", "()C"⟩, 6), (⟨"WalkFences$TextReader", "readNumber", "()V"⟩, 6), (⟨"WalkFences$TextReader", "add", "(I)V"⟩, 6), (⟨"WalkFences$TextReader", "readOpened", "(CI)Z"⟩, 6), (⟨"WalkFences$Range", "fencesGraze", "()V"⟩, 15), (⟨"WalkFences$Range", "cattleFeed", "()V"⟩, 15), (⟨"WalkFences$Range", "draw", "()I"⟩, 15), (⟨"WalkFences", "fewestSalts", "(III)J"⟩, 8), (⟨"WalkFences", "isInsideSalted", "(IIIJ)Z"⟩, 8)]
theorem lw_r1 : ∀ q ∈ lw_privs_1, lw_okq q := List.forall_mem_cons.mpr ⟨lw_p0, List.forall_mem_cons.mpr ⟨lw_p1, List.forall_mem_cons.mpr ⟨lw_p2, List.forall_mem_cons.mpr ⟨lw_p3, List.forall_mem_cons.mpr ⟨lw_p4, List.forall_mem_cons.mpr ⟨lw_p5, List.forall_mem_cons.mpr ⟨lw_p6, List.forall_mem_cons.mpr ⟨lw_p7, List.forall_mem_cons.mpr ⟨lw_p8, List.forall_mem_cons.mpr ⟨lw_p9, List.forall_mem_cons.mpr ⟨lw_p10, List.forall_mem_cons.mpr ⟨lw_p11, List.forall_mem_cons.mpr ⟨lw_p12, List.forall_mem_cons.mpr ⟨lw_p13, List.forall_mem_cons.mpr ⟨lw_p14, List.forall_mem_cons.mpr ⟨lw_p15, fun _ h => absurd h List.not_mem_nil⟩⟩⟩⟩⟩⟩⟩⟩⟩⟩⟩⟩⟩⟩⟩⟩
theorem lw_p16 : lw_okq (⟨"WalkFences$Voices", "sings", "(II)I"⟩, 6) := ⟨⟨by decide +kernel, by decide +kernel⟩, List.mem_of_getElem? (i := 185) (by decide +kernel), List.mem_of_getElem? (i := 711) (by decide +kernel), List.mem_of_getElem? (i := 712) (by decide +kernel)⟩
theorem lw_p17 : lw_okq (⟨"WalkFences$Voices", "begins", "(I)V"⟩, 6) := ⟨⟨by decide +kernel, by decide +kernel⟩, List.mem_of_getElem? (i := 185) (by decide +kernel), List.mem_of_getElem? (i := 715) (by decide +kernel), List.mem_of_getElem? (i := 716) (by decide +kernel)⟩
theorem lw_p18 : lw_okq (⟨"WalkFences$Voices", "leans", "(II)I"⟩, 6) := ⟨⟨by decide +kernel, by decide +kernel⟩, List.mem_of_getElem? (i := 185) (by decide +kernel), List.mem_of_getElem? (i := 719) (by decide +kernel), List.mem_of_getElem? (i := 720) (by decide +kernel)⟩
theorem lw_p19 : lw_okq (⟨"WalkFences$Voices", "sprouts", "(II)I"⟩, 6) := ⟨⟨by decide +kernel, by decide +kernel⟩, List.mem_of_getElem? (i := 185) (by decide +kernel), List.mem_of_getElem? (i := 723) (by decide +kernel), List.mem_of_getElem? (i := 724) (by decide +kernel)⟩
theorem lw_p20 : lw_okq (⟨"WalkFences$Voices", "parts", "(II)I"⟩, 6) := ⟨⟨by decide +kernel, by decide +kernel⟩, List.mem_of_getElem? (i := 185) (by decide +kernel), List.mem_of_getElem? (i := 727) (by decide +kernel), List.mem_of_getElem? (i := 728) (by decide +kernel)⟩
theorem lw_p21 : lw_okq (⟨"WalkFencesModel", "error", "(I)I"⟩, 20) := ⟨⟨by decide +kernel, by decide +kernel⟩, List.mem_of_getElem? (i := 800) (by decide +kernel), List.mem_of_getElem? (i := 878) (by decide +kernel), List.mem_of_getElem? (i := 879) (by decide +kernel)⟩
theorem lw_p22 : lw_okq (⟨"WalkFencesModel", "lets", "(III)V"⟩, 20) := ⟨⟨by decide +kernel, by decide +kernel⟩, List.mem_of_getElem? (i := 800) (by decide +kernel), List.mem_of_getElem? (i := 884) (by decide +kernel), List.mem_of_getElem? (i := 885) (by decide +kernel)⟩
theorem lw_p23 : lw_okq (⟨"WalkFencesModel", "isFence", "(I)Z"⟩, 20) := ⟨⟨by decide +kernel, by decide +kernel⟩, List.mem_of_getElem? (i := 800) (by decide +kernel), List.mem_of_getElem? (i := 892) (by decide +kernel), List.mem_of_getElem? (i := 893) (by decide +kernel)⟩
theorem lw_p24 : lw_okq (⟨"WalkFencesModel", "of", "(II)I"⟩, 20) := ⟨⟨by decide +kernel, by decide +kernel⟩, List.mem_of_getElem? (i := 800) (by decide +kernel), List.mem_of_getElem? (i := 899) (by decide +kernel), List.mem_of_getElem? (i := 900) (by decide +kernel)⟩
theorem lw_p25 : lw_okq (⟨"WalkFencesModel", "insideOf", "(I)J"⟩, 20) := ⟨⟨by decide +kernel, by decide +kernel⟩, List.mem_of_getElem? (i := 800) (by decide +kernel), List.mem_of_getElem? (i := 907) (by decide +kernel), List.mem_of_getElem? (i := 908) (by decide +kernel)⟩
theorem lw_p26 : lw_okq (⟨"WalkFencesModel", "postsOf", "(I)J"⟩, 20) := ⟨⟨by decide +kernel, by decide +kernel⟩, List.mem_of_getElem? (i := 800) (by decide +kernel), List.mem_of_getElem? (i := 911) (by decide +kernel), List.mem_of_getElem? (i := 912) (by decide +kernel)⟩
theorem lw_p27 : lw_okq (⟨"WalkFencesModel", "grazeOf", "(I)I"⟩, 20) := ⟨⟨by decide +kernel, by decide +kernel⟩, List.mem_of_getElem? (i := 800) (by decide +kernel), List.mem_of_getElem? (i := 925) (by decide +kernel), List.mem_of_getElem? (i := 926) (by decide +kernel)⟩
theorem lw_p28 : lw_okq (⟨"WalkFencesModel", "gives", "(IIII)I"⟩, 20) := ⟨⟨by decide +kernel, by decide +kernel⟩, List.mem_of_getElem? (i := 800) (by decide +kernel), List.mem_of_getElem? (i := 929) (by decide +kernel), List.mem_of_getElem? (i := 930) (by decide +kernel)⟩
theorem lw_p29 : lw_okq (⟨"WalkFencesModel", "works", "(I)I"⟩, 20) := ⟨⟨by decide +kernel, by decide +kernel⟩, List.mem_of_getElem? (i := 800) (by decide +kernel), List.mem_of_getElem? (i := 933) (by decide +kernel), List.mem_of_getElem? (i := 934) (by decide +kernel)⟩
theorem lw_p30 : lw_okq (⟨"WalkFencesModel", "isPost", "(II)Z"⟩, 20) := ⟨⟨by decide +kernel, by decide +kernel⟩, List.mem_of_getElem? (i := 800) (by decide +kernel), List.mem_of_getElem? (i := 947) (by decide +kernel), List.mem_of_getElem? (i := 948) (by decide +kernel)⟩
theorem lw_p31 : lw_okq (⟨"WalkFencesModel", "headsOf", "(II)I"⟩, 20) := ⟨⟨by decide +kernel, by decide +kernel⟩, List.mem_of_getElem? (i := 800) (by decide +kernel), List.mem_of_getElem? (i := 955) (by decide +kernel), List.mem_of_getElem? (i := 956) (by decide +kernel)⟩
def lw_privs_2 : List (MethodName × Nat) := [(⟨"WalkFences$Voices", "sings", "(II)I"⟩, 6), (⟨"WalkFences$Voices", "begins", "(I)V"⟩, 6), (⟨"WalkFences$Voices", "leans", "(II)I"⟩, 6), (⟨"WalkFences$Voices", "sprouts", "(II)I"⟩, 6), (⟨"WalkFences$Voices", "parts", "(II)I"⟩, 6), (⟨"WalkFencesModel", "error", "(I)I"⟩, 20), (⟨"WalkFencesModel", "lets", "(III)V"⟩, 20), (⟨"WalkFencesModel", "isFence", "(I)Z"⟩, 20), (⟨"WalkFencesModel", "of", "(II)I"⟩, 20), (⟨"WalkFencesModel", "insideOf", "(I)J"⟩, 20), (⟨"WalkFencesModel", "postsOf", "(I)J"⟩, 20), (⟨"WalkFencesModel", "grazeOf", "(I)I"⟩, 20), (⟨"WalkFencesModel", "gives", "(IIII)I"⟩, 20), (⟨"WalkFencesModel", "works", "(I)I"⟩, 20), (⟨"WalkFencesModel", "isPost", "(II)Z"⟩, 20), (⟨"WalkFencesModel", "headsOf", "(II)I"⟩, 20)]
theorem lw_r2 : ∀ q ∈ lw_privs_2, lw_okq q := List.forall_mem_cons.mpr ⟨lw_p16, List.forall_mem_cons.mpr ⟨lw_p17, List.forall_mem_cons.mpr ⟨lw_p18, List.forall_mem_cons.mpr ⟨lw_p19, List.forall_mem_cons.mpr ⟨lw_p20, List.forall_mem_cons.mpr ⟨lw_p21, List.forall_mem_cons.mpr ⟨lw_p22, List.forall_mem_cons.mpr ⟨lw_p23, List.forall_mem_cons.mpr ⟨lw_p24, List.forall_mem_cons.mpr ⟨lw_p25, List.forall_mem_cons.mpr ⟨lw_p26, List.forall_mem_cons.mpr ⟨lw_p27, List.forall_mem_cons.mpr ⟨lw_p28, List.forall_mem_cons.mpr ⟨lw_p29, List.forall_mem_cons.mpr ⟨lw_p30, List.forall_mem_cons.mpr ⟨lw_p31, fun _ h => absurd h List.not_mem_nil⟩⟩⟩⟩⟩⟩⟩⟩⟩⟩⟩⟩⟩⟩⟩⟩
theorem lw_p32 : lw_okq (⟨"WalkFencesModel", "becomes", "(II)I"⟩, 20) := ⟨⟨by decide +kernel, by decide +kernel⟩, List.mem_of_getElem? (i := 800) (by decide +kernel), List.mem_of_getElem? (i := 963) (by decide +kernel), List.mem_of_getElem? (i := 964) (by decide +kernel)⟩
theorem lw_p33 : lw_okq (⟨"WalkFencesModel", "isCow", "(I)Z"⟩, 20) := ⟨⟨by decide +kernel, by decide +kernel⟩, List.mem_of_getElem? (i := 800) (by decide +kernel), List.mem_of_getElem? (i := 993) (by decide +kernel), List.mem_of_getElem? (i := 994) (by decide +kernel)⟩
theorem lw_p34 : lw_okq (⟨"WalkFencesModel", "brandOf", "(I)I"⟩, 20) := ⟨⟨by decide +kernel, by decide +kernel⟩, List.mem_of_getElem? (i := 800) (by decide +kernel), List.mem_of_getElem? (i := 997) (by decide +kernel), List.mem_of_getElem? (i := 998) (by decide +kernel)⟩
theorem lw_p35 : lw_okq (⟨"WalkFencesModel", "any", "()V"⟩, 20) := ⟨⟨by decide +kernel, by decide +kernel⟩, List.mem_of_getElem? (i := 800) (by decide +kernel), List.mem_of_getElem? (i := 1014) (by decide +kernel), List.mem_of_getElem? (i := 1015) (by decide +kernel)⟩
theorem lw_p36 : lw_okq (⟨"WalkFencesModel", "all", "()V"⟩, 20) := ⟨⟨by decide +kernel, by decide +kernel⟩, List.mem_of_getElem? (i := 800) (by decide +kernel), List.mem_of_getElem? (i := 1018) (by decide +kernel), List.mem_of_getElem? (i := 1019) (by decide +kernel)⟩
theorem lw_p37 : lw_okq (⟨"WalkFencesModel", "compares", "()V"⟩, 20) := ⟨⟨by decide +kernel, by decide +kernel⟩, List.mem_of_getElem? (i := 800) (by decide +kernel), List.mem_of_getElem? (i := 1022) (by decide +kernel), List.mem_of_getElem? (i := 1023) (by decide +kernel)⟩
theorem lw_p38 : lw_okq (⟨"WalkFencesModel", "sum", "()V"⟩, 20) := ⟨⟨by decide +kernel, by decide +kernel⟩, List.mem_of_getElem? (i := 800) (by decide +kernel), List.mem_of_getElem? (i := 1026) (by decide +kernel), List.mem_of_getElem? (i := 1027) (by decide +kernel)⟩
theorem lw_p39 : lw_okq (⟨"WalkFencesModel", "times", "()V"⟩, 20) := ⟨⟨by decide +kernel, by decide +kernel⟩, List.mem_of_getElem? (i := 800) (by decide +kernel), List.mem_of_getElem? (i := 1030) (by decide +kernel), List.mem_of_getElem? (i := 1031) (by decide +kernel)⟩
theorem lw_p40 : lw_okq (⟨"WalkFencesModel", "one", "()V"⟩, 20) := ⟨⟨by decide +kernel, by decide +kernel⟩, List.mem_of_getElem? (i := 800) (by decide +kernel), List.mem_of_getElem? (i := 1034) (by decide +kernel), List.mem_of_getElem? (i := 1035) (by decide +kernel)⟩
theorem lw_p41 : lw_okq (⟨"WalkFencesModel", "look", "()I"⟩, 20) := ⟨⟨by decide +kernel, by decide +kernel⟩, List.mem_of_getElem? (i := 800) (by decide +kernel), List.mem_of_getElem? (i := 1038) (by decide +kernel), List.mem_of_getElem? (i := 1039) (by decide +kernel)⟩
theorem lw_p42 : lw_okq (⟨"WalkFencesModel", "nameOf", "(I)I"⟩, 20) := ⟨⟨by decide +kernel, by decide +kernel⟩, List.mem_of_getElem? (i := 800) (by decide +kernel), List.mem_of_getElem? (i := 1042) (by decide +kernel), List.mem_of_getElem? (i := 1043) (by decide +kernel)⟩
theorem lw_p43 : lw_okq (⟨"WalkFencesModel", "step", "(II)V"⟩, 20) := ⟨⟨by decide +kernel, by decide +kernel⟩, List.mem_of_getElem? (i := 800) (by decide +kernel), List.mem_of_getElem? (i := 1046) (by decide +kernel), List.mem_of_getElem? (i := 1047) (by decide +kernel)⟩
theorem lw_p44 : lw_okq (⟨"WalkFencesModel", "opens", "(I)V"⟩, 20) := ⟨⟨by decide +kernel, by decide +kernel⟩, List.mem_of_getElem? (i := 800) (by decide +kernel), List.mem_of_getElem? (i := 1050) (by decide +kernel), List.mem_of_getElem? (i := 1051) (by decide +kernel)⟩
theorem lw_p45 : lw_okq (⟨"WalkFencesModel", "number", "()V"⟩, 20) := ⟨⟨by decide +kernel, by decide +kernel⟩, List.mem_of_getElem? (i := 800) (by decide +kernel), List.mem_of_getElem? (i := 1054) (by decide +kernel), List.mem_of_getElem? (i := 1055) (by decide +kernel)⟩
theorem lw_p46 : lw_okq (⟨"WalkFencesModel", "goes", "()V"⟩, 20) := ⟨⟨by decide +kernel, by decide +kernel⟩, List.mem_of_getElem? (i := 800) (by decide +kernel), List.mem_of_getElem? (i := 1070) (by decide +kernel), List.mem_of_getElem? (i := 1071) (by decide +kernel)⟩
theorem lw_p47 : lw_okq (⟨"WalkFencesModel", "moves", "()V"⟩, 20) := ⟨⟨by decide +kernel, by decide +kernel⟩, List.mem_of_getElem? (i := 800) (by decide +kernel), List.mem_of_getElem? (i := 1074) (by decide +kernel), List.mem_of_getElem? (i := 1075) (by decide +kernel)⟩
def lw_privs_3 : List (MethodName × Nat) := [(⟨"WalkFencesModel", "becomes", "(II)I"⟩, 20), (⟨"WalkFencesModel", "isCow", "(I)Z"⟩, 20), (⟨"WalkFencesModel", "brandOf", "(I)I"⟩, 20), (⟨"WalkFencesModel", "any", "()V"⟩, 20), (⟨"WalkFencesModel", "all", "()V"⟩, 20), (⟨"WalkFencesModel", "compares", "()V"⟩, 20), (⟨"WalkFencesModel", "sum", "()V"⟩, 20), (⟨"WalkFencesModel", "times", "()V"⟩, 20), (⟨"WalkFencesModel", "one", "()V"⟩, 20), (⟨"WalkFencesModel", "look", "()I"⟩, 20), (⟨"WalkFencesModel", "nameOf", "(I)I"⟩, 20), (⟨"WalkFencesModel", "step", "(II)V"⟩, 20), (⟨"WalkFencesModel", "opens", "(I)V"⟩, 20), (⟨"WalkFencesModel", "number", "()V"⟩, 20), (⟨"WalkFencesModel", "goes", "()V"⟩, 20), (⟨"WalkFencesModel", "moves", "()V"⟩, 20)]
theorem lw_r3 : ∀ q ∈ lw_privs_3, lw_okq q := List.forall_mem_cons.mpr ⟨lw_p32, List.forall_mem_cons.mpr ⟨lw_p33, List.forall_mem_cons.mpr ⟨lw_p34, List.forall_mem_cons.mpr ⟨lw_p35, List.forall_mem_cons.mpr ⟨lw_p36, List.forall_mem_cons.mpr ⟨lw_p37, List.forall_mem_cons.mpr ⟨lw_p38, List.forall_mem_cons.mpr ⟨lw_p39, List.forall_mem_cons.mpr ⟨lw_p40, List.forall_mem_cons.mpr ⟨lw_p41, List.forall_mem_cons.mpr ⟨lw_p42, List.forall_mem_cons.mpr ⟨lw_p43, List.forall_mem_cons.mpr ⟨lw_p44, List.forall_mem_cons.mpr ⟨lw_p45, List.forall_mem_cons.mpr ⟨lw_p46, List.forall_mem_cons.mpr ⟨lw_p47, fun _ h => absurd h List.not_mem_nil⟩⟩⟩⟩⟩⟩⟩⟩⟩⟩⟩⟩⟩⟩⟩⟩
theorem lw_p48 : lw_okq (⟨"WalkFencesModel", "drawn", "()V"⟩, 20) := ⟨⟨by decide +kernel, by decide +kernel⟩, List.mem_of_getElem? (i := 800) (by decide +kernel), List.mem_of_getElem? (i := 1086) (by decide +kernel), List.mem_of_getElem? (i := 1087) (by decide +kernel)⟩
theorem lw_p49 : lw_okq (⟨"WalkFencesModel", "draw", "()I"⟩, 20) := ⟨⟨by decide +kernel, by decide +kernel⟩, List.mem_of_getElem? (i := 800) (by decide +kernel), List.mem_of_getElem? (i := 1090) (by decide +kernel), List.mem_of_getElem? (i := 1091) (by decide +kernel)⟩
theorem lw_p50 : lw_okq (⟨"WalkFencesModel", "countOf", "(I)I"⟩, 20) := ⟨⟨by decide +kernel, by decide +kernel⟩, List.mem_of_getElem? (i := 800) (by decide +kernel), List.mem_of_getElem? (i := 1095) (by decide +kernel), List.mem_of_getElem? (i := 1096) (by decide +kernel)⟩
theorem lw_p51 : lw_okq (⟨"WalkFencesModel", "thinks", "()V"⟩, 20) := ⟨⟨by decide +kernel, by decide +kernel⟩, List.mem_of_getElem? (i := 800) (by decide +kernel), List.mem_of_getElem? (i := 1111) (by decide +kernel), List.mem_of_getElem? (i := 1112) (by decide +kernel)⟩
theorem lw_p52 : lw_okq (⟨"WalkFencesModel", "putsBack", "()V"⟩, 20) := ⟨⟨by decide +kernel, by decide +kernel⟩, List.mem_of_getElem? (i := 800) (by decide +kernel), List.mem_of_getElem? (i := 1118) (by decide +kernel), List.mem_of_getElem? (i := 1119) (by decide +kernel)⟩
theorem lw_p53 : lw_okq (⟨"WalkFencesModel", "isHad", "(IIIII)Z"⟩, 20) := ⟨⟨by decide +kernel, by decide +kernel⟩, List.mem_of_getElem? (i := 800) (by decide +kernel), List.mem_of_getElem? (i := 1131) (by decide +kernel), List.mem_of_getElem? (i := 1132) (by decide +kernel)⟩
theorem lw_p54 : lw_okq (⟨"WalkFencesModel", "allPosts", "()J"⟩, 20) := ⟨⟨by decide +kernel, by decide +kernel⟩, List.mem_of_getElem? (i := 800) (by decide +kernel), List.mem_of_getElem? (i := 1139) (by decide +kernel), List.mem_of_getElem? (i := 1140) (by decide +kernel)⟩
theorem lw_p55 : lw_okq (⟨"WalkFencesModel", "isSo", "(II)Z"⟩, 20) := ⟨⟨by decide +kernel, by decide +kernel⟩, List.mem_of_getElem? (i := 800) (by decide +kernel), List.mem_of_getElem? (i := 1154) (by decide +kernel), List.mem_of_getElem? (i := 1155) (by decide +kernel)⟩
theorem lw_p56 : lw_okq (⟨"WalkFencesModel", "sings", "(II)I"⟩, 20) := ⟨⟨by decide +kernel, by decide +kernel⟩, List.mem_of_getElem? (i := 800) (by decide +kernel), List.mem_of_getElem? (i := 1162) (by decide +kernel), List.mem_of_getElem? (i := 1163) (by decide +kernel)⟩
theorem lw_p57 : lw_okq (⟨"WalkFencesModel", "northernSings", "(II)I"⟩, 20) := ⟨⟨by decide +kernel, by decide +kernel⟩, List.mem_of_getElem? (i := 800) (by decide +kernel), List.mem_of_getElem? (i := 1166) (by decide +kernel), List.mem_of_getElem? (i := 1167) (by decide +kernel)⟩
theorem lw_p58 : lw_okq (⟨"WalkFencesModel", "begins", "(I)V"⟩, 20) := ⟨⟨by decide +kernel, by decide +kernel⟩, List.mem_of_getElem? (i := 800) (by decide +kernel), List.mem_of_getElem? (i := 1170) (by decide +kernel), List.mem_of_getElem? (i := 1171) (by decide +kernel)⟩
theorem lw_p59 : lw_okq (⟨"WalkFencesModel", "plainSings", "(II)I"⟩, 20) := ⟨⟨by decide +kernel, by decide +kernel⟩, List.mem_of_getElem? (i := 800) (by decide +kernel), List.mem_of_getElem? (i := 1174) (by decide +kernel), List.mem_of_getElem? (i := 1175) (by decide +kernel)⟩
theorem lw_p60 : lw_okq (⟨"WalkFencesModel", "leans", "(II)I"⟩, 20) := ⟨⟨by decide +kernel, by decide +kernel⟩, List.mem_of_getElem? (i := 800) (by decide +kernel), List.mem_of_getElem? (i := 1178) (by decide +kernel), List.mem_of_getElem? (i := 1179) (by decide +kernel)⟩
theorem lw_p61 : lw_okq (⟨"WalkFencesModel", "laggingLeans", "(II)I"⟩, 20) := ⟨⟨by decide +kernel, by decide +kernel⟩, List.mem_of_getElem? (i := 800) (by decide +kernel), List.mem_of_getElem? (i := 1182) (by decide +kernel), List.mem_of_getElem? (i := 1183) (by decide +kernel)⟩
theorem lw_p62 : lw_okq (⟨"WalkFencesModel", "plainLeans", "(II)I"⟩, 20) := ⟨⟨by decide +kernel, by decide +kernel⟩, List.mem_of_getElem? (i := 800) (by decide +kernel), List.mem_of_getElem? (i := 1186) (by decide +kernel), List.mem_of_getElem? (i := 1187) (by decide +kernel)⟩
theorem lw_p63 : lw_okq (⟨"WalkFencesModel", "sprouts", "(II)I"⟩, 20) := ⟨⟨by decide +kernel, by decide +kernel⟩, List.mem_of_getElem? (i := 800) (by decide +kernel), List.mem_of_getElem? (i := 1190) (by decide +kernel), List.mem_of_getElem? (i := 1191) (by decide +kernel)⟩
def lw_privs_4 : List (MethodName × Nat) := [(⟨"WalkFencesModel", "drawn", "()V"⟩, 20), (⟨"WalkFencesModel", "draw", "()I"⟩, 20), (⟨"WalkFencesModel", "countOf", "(I)I"⟩, 20), (⟨"WalkFencesModel", "thinks", "()V"⟩, 20), (⟨"WalkFencesModel", "putsBack", "()V"⟩, 20), (⟨"WalkFencesModel", "isHad", "(IIIII)Z"⟩, 20), (⟨"WalkFencesModel", "allPosts", "()J"⟩, 20), (⟨"WalkFencesModel", "isSo", "(II)Z"⟩, 20), (⟨"WalkFencesModel", "sings", "(II)I"⟩, 20), (⟨"WalkFencesModel", "northernSings", "(II)I"⟩, 20), (⟨"WalkFencesModel", "begins", "(I)V"⟩, 20), (⟨"WalkFencesModel", "plainSings", "(II)I"⟩, 20), (⟨"WalkFencesModel", "leans", "(II)I"⟩, 20), (⟨"WalkFencesModel", "laggingLeans", "(II)I"⟩, 20), (⟨"WalkFencesModel", "plainLeans", "(II)I"⟩, 20), (⟨"WalkFencesModel", "sprouts", "(II)I"⟩, 20)]
theorem lw_r4 : ∀ q ∈ lw_privs_4, lw_okq q := List.forall_mem_cons.mpr ⟨lw_p48, List.forall_mem_cons.mpr ⟨lw_p49, List.forall_mem_cons.mpr ⟨lw_p50, List.forall_mem_cons.mpr ⟨lw_p51, List.forall_mem_cons.mpr ⟨lw_p52, List.forall_mem_cons.mpr ⟨lw_p53, List.forall_mem_cons.mpr ⟨lw_p54, List.forall_mem_cons.mpr ⟨lw_p55, List.forall_mem_cons.mpr ⟨lw_p56, List.forall_mem_cons.mpr ⟨lw_p57, List.forall_mem_cons.mpr ⟨lw_p58, List.forall_mem_cons.mpr ⟨lw_p59, List.forall_mem_cons.mpr ⟨lw_p60, List.forall_mem_cons.mpr ⟨lw_p61, List.forall_mem_cons.mpr ⟨lw_p62, List.forall_mem_cons.mpr ⟨lw_p63, fun _ h => absurd h List.not_mem_nil⟩⟩⟩⟩⟩⟩⟩⟩⟩⟩⟩⟩⟩⟩⟩⟩
theorem lw_p64 : lw_okq (⟨"WalkFencesModel", "plainSprouts", "(II)I"⟩, 20) := ⟨⟨by decide +kernel, by decide +kernel⟩, List.mem_of_getElem? (i := 800) (by decide +kernel), List.mem_of_getElem? (i := 1194) (by decide +kernel), List.mem_of_getElem? (i := 1195) (by decide +kernel)⟩
theorem lw_p65 : lw_okq (⟨"WalkFencesModel", "parts", "(II)I"⟩, 20) := ⟨⟨by decide +kernel, by decide +kernel⟩, List.mem_of_getElem? (i := 800) (by decide +kernel), List.mem_of_getElem? (i := 1198) (by decide +kernel), List.mem_of_getElem? (i := 1199) (by decide +kernel)⟩
theorem lw_p66 : lw_okq (⟨"WalkFencesModel", "plainParts", "(II)I"⟩, 20) := ⟨⟨by decide +kernel, by decide +kernel⟩, List.mem_of_getElem? (i := 800) (by decide +kernel), List.mem_of_getElem? (i := 1202) (by decide +kernel), List.mem_of_getElem? (i := 1203) (by decide +kernel)⟩
theorem lw_p67 : lw_okq (⟨"WalkFencesModel", "notThere", "(I)I"⟩, 20) := ⟨⟨by decide +kernel, by decide +kernel⟩, List.mem_of_getElem? (i := 800) (by decide +kernel), List.mem_of_getElem? (i := 1219) (by decide +kernel), List.mem_of_getElem? (i := 1220) (by decide +kernel)⟩
theorem lw_p68 : lw_okq (⟨"WalkFencesModel", "notMoved", "(IIIII)I"⟩, 20) := ⟨⟨by decide +kernel, by decide +kernel⟩, List.mem_of_getElem? (i := 800) (by decide +kernel), List.mem_of_getElem? (i := 1227) (by decide +kernel), List.mem_of_getElem? (i := 1228) (by decide +kernel)⟩
def lw_privs_5 : List (MethodName × Nat) := [(⟨"WalkFencesModel", "plainSprouts", "(II)I"⟩, 20), (⟨"WalkFencesModel", "parts", "(II)I"⟩, 20), (⟨"WalkFencesModel", "plainParts", "(II)I"⟩, 20), (⟨"WalkFencesModel", "notThere", "(I)I"⟩, 20), (⟨"WalkFencesModel", "notMoved", "(IIIII)I"⟩, 20)]
theorem lw_r5 : ∀ q ∈ lw_privs_5, lw_okq q := List.forall_mem_cons.mpr ⟨lw_p64, List.forall_mem_cons.mpr ⟨lw_p65, List.forall_mem_cons.mpr ⟨lw_p66, List.forall_mem_cons.mpr ⟨lw_p67, List.forall_mem_cons.mpr ⟨lw_p68, fun _ h => absurd h List.not_mem_nil⟩⟩⟩⟩⟩
def lw_privs : List (MethodName × Nat) := lw_privs_1 ++ (lw_privs_2 ++ (lw_privs_3 ++ (lw_privs_4 ++ (lw_privs_5))))
def lw_tbl : List Cond := k2_sels lw_privs ++ tables_1
theorem lw_privs_ok : ∀ q ∈ lw_privs, lw_okq q := by
  show ∀ q ∈ lw_privs_1 ++ (lw_privs_2 ++ (lw_privs_3 ++ (lw_privs_4 ++ (lw_privs_5)))), lw_okq q
  exact List.forall_mem_append.mpr ⟨lw_r1, List.forall_mem_append.mpr ⟨lw_r2, List.forall_mem_append.mpr ⟨lw_r3, List.forall_mem_append.mpr ⟨lw_r4, lw_r5⟩⟩⟩⟩
def RX0 : String := "WalkFences$Fence"
def TX0 : u_T := fun k => match k with
  | 0 => ("WalkFences$Fence", "cells", "[I", true)
  | 1 => ("WalkFences$Fence", "posts", "I", false)
  | 2 => ("WalkFences$Fence", "kind", "I", false)
  | 3 => ("WalkFences$Fence", "m", "I", false)
  | 4 => ("WalkFences$Fence", "heading", "I", false)
  | _ => ("WalkFences$Fence", "rich", "I", false)
def tyX0 : Nat → FieldType := fun k => match k with
  | 0 => .array .int
  | 1 => .int
  | 2 => .int
  | 3 => .int
  | 4 => .int
  | _ => .int
abbrev wsX00 : List Cond := u_ws RX0 TX0 6
theorem nmX0 : ∀ a, a < 6 → ∀ b, b < 6 → a ≠ b → (TX0 a).2.1 ≠ (TX0 b).2.1 := by decide +kernel
theorem tyX0_ok : ∀ k, k < 6 → parseFieldDescriptor (TX0 k).2.2.1 = some (tyX0 k) := by decide +kernel
abbrev cX0_init : ByteArray := prog_2_method_1_code
def yX0_init : MethodName := ⟨RX0, "<init>", "()V"⟩
abbrev cX0_begin : ByteArray := prog_2_method_2_code
def yX0_begin : MethodName := ⟨RX0, "begin", "(II)V"⟩
abbrev cX0_takeAll : ByteArray := prog_2_method_3_code
def yX0_takeAll : MethodName := ⟨RX0, "takeAll", "(LWalkFences$Fence;)V"⟩
abbrev cX0_standAt : ByteArray := prog_2_method_4_code
def yX0_standAt : MethodName := ⟨RX0, "standAt", "([II)V"⟩
abbrev cX0_headsAt : ByteArray := prog_2_method_5_code
def yX0_headsAt : MethodName := ⟨RX0, "headsAt", "(II)I"⟩
abbrev cX0_postsMove : ByteArray := prog_2_method_6_code
def yX0_postsMove : MethodName := ⟨RX0, "postsMove", "(JJI)V"⟩
abbrev cX0_tried : ByteArray := prog_2_method_7_code
def yX0_tried : MethodName := ⟨RX0, "tried", "(II)J"⟩
abbrev cX0_standing : ByteArray := prog_2_method_8_code
def yX0_standing : MethodName := ⟨RX0, "standing", "()J"⟩
abbrev cX0_inside : ByteArray := prog_2_method_9_code
def yX0_inside : MethodName := ⟨RX0, "inside", "()J"⟩
def RX1 : String := "WalkFences$Ground"
def TX1 : u_T := fun k => match k with
  | _ => ("", "", "", false)
def tyX1 : Nat → FieldType := fun k => match k with
  | _ => .int
abbrev wsX10 : List Cond := u_ws RX1 TX1 0
theorem nmX1 : ∀ a, a < 0 → ∀ b, b < 0 → a ≠ b → (TX1 a).2.1 ≠ (TX1 b).2.1 := by decide +kernel
theorem tyX1_ok : ∀ k, k < 0 → parseFieldDescriptor (TX1 k).2.2.1 = some (tyX1 k) := by decide +kernel
abbrev cX1_isCell : ByteArray := prog_3_method_2_code
def yX1_isCell : MethodName := ⟨RX1, "isCell", "(I)Z"⟩
abbrev cX1_bit : ByteArray := prog_3_method_3_code
def yX1_bit : MethodName := ⟨RX1, "bit", "(I)J"⟩
abbrev cX1_has : ByteArray := prog_3_method_4_code
def yX1_has : MethodName := ⟨RX1, "has", "(JI)Z"⟩
abbrev cX1_next : ByteArray := prog_3_method_5_code
def yX1_next : MethodName := ⟨RX1, "next", "(II)I"⟩
abbrev cX1_nextOf : ByteArray := prog_3_method_6_code
def yX1_nextOf : MethodName := ⟨RX1, "nextOf", "(JI)J"⟩
abbrev cX1_beside : ByteArray := prog_3_method_7_code
def yX1_beside : MethodName := ⟨RX1, "beside", "(J)J"⟩
abbrev cX1_inside : ByteArray := prog_3_method_8_code
def yX1_inside : MethodName := ⟨RX1, "inside", "(J)J"⟩
def RX2 : String := "WalkFences$Law"
def TX2 : u_T := fun k => match k with
  | 0 => ("WalkFences$Law", "use", "I", true)
  | 1 => ("WalkFences$Law", "stack", "[I", true)
  | 2 => ("WalkFences$Law", "code", "[I", true)
  | _ => ("WalkFences$Law", "length", "I", false)
def tyX2 : Nat → FieldType := fun k => match k with
  | 0 => .int
  | 1 => .array .int
  | 2 => .array .int
  | _ => .int
abbrev wsX20 : List Cond := u_ws RX2 TX2 4
theorem nmX2 : ∀ a, a < 4 → ∀ b, b < 4 → a ≠ b → (TX2 a).2.1 ≠ (TX2 b).2.1 := by decide +kernel
theorem tyX2_ok : ∀ k, k < 4 → parseFieldDescriptor (TX2 k).2.2.1 = some (tyX2 k) := by decide +kernel
abbrev cX2_init : ByteArray := prog_4_method_1_code
def yX2_init : MethodName := ⟨RX2, "<init>", "(I)V"⟩
abbrev cX2_namesOf : ByteArray := prog_4_method_2_code
def yX2_namesOf : MethodName := ⟨RX2, "namesOf", "(I)Ljava/lang/String;"⟩
abbrev cX2_takeCode : ByteArray := prog_4_method_3_code
def yX2_takeCode : MethodName := ⟨RX2, "takeCode", "([II)V"⟩
abbrev cX2_gives : ByteArray := prog_4_method_4_code
def yX2_gives : MethodName := ⟨RX2, "gives", "(III)I"⟩
abbrev cX2_workedOut : ByteArray := prog_4_method_5_code
def yX2_workedOut : MethodName := ⟨RX2, "workedOut", "(III)I"⟩
abbrev cX2_joined : ByteArray := prog_4_method_6_code
def yX2_joined : MethodName := ⟨RX2, "joined", "(III)I"⟩
abbrev cX2_truth : ByteArray := prog_4_method_7_code
def yX2_truth : MethodName := ⟨RX2, "truth", "(Z)I"⟩
def RX3 : String := "WalkFences$Range"
def TX3 : u_T := fun k => match k with
  | 0 => ("WalkFences$Range", "fences", "[LWalkFences$Fence;", true)
  | 1 => ("WalkFences$Range", "fenceCount", "I", false)
  | 2 => ("WalkFences$Range", "cowCells", "[I", true)
  | 3 => ("WalkFences$Range", "fats", "[I", true)
  | 4 => ("WalkFences$Range", "cows", "I", false)
  | 5 => ("WalkFences$Range", "salt", "J", false)
  | 6 => ("WalkFences$Range", "water", "J", false)
  | 7 => ("WalkFences$Range", "dawn", "I", false)
  | 8 => ("WalkFences$Range", "z", "I", false)
  | 9 => ("WalkFences$Range", "tape", "[B", true)
  | 10 => ("WalkFences$Range", "taped", "I", false)
  | 11 => ("WalkFences$Range", "laws", "[LWalkFences$Law;", true)
  | 12 => ("WalkFences$Range", "waiting", "[I", true)
  | 13 => ("WalkFences$Range", "waitingCount", "I", false)
  | _ => ("WalkFences$Range", "seen", "[J", true)
def tyX3 : Nat → FieldType := fun k => match k with
  | 0 => .array (.object "WalkFences$Fence")
  | 1 => .int
  | 2 => .array .int
  | 3 => .array .int
  | 4 => .int
  | 5 => .long
  | 6 => .long
  | 7 => .int
  | 8 => .int
  | 9 => .array .byte
  | 10 => .int
  | 11 => .array (.object "WalkFences$Law")
  | 12 => .array .int
  | 13 => .int
  | _ => .array .long
abbrev wsX30 : List Cond := u_ws RX3 TX3 15
theorem nmX3 : ∀ a, a < 15 → ∀ b, b < 15 → a ≠ b → (TX3 a).2.1 ≠ (TX3 b).2.1 := by decide +kernel
theorem tyX3_ok : ∀ k, k < 15 → parseFieldDescriptor (TX3 k).2.2.1 = some (tyX3 k) := by decide +kernel
abbrev cX3_init : ByteArray := prog_5_method_1_code
def yX3_init : MethodName := ⟨RX3, "<init>", "()V"⟩
abbrev cX3_takeAll : ByteArray := prog_5_method_2_code
def yX3_takeAll : MethodName := ⟨RX3, "takeAll", "(LWalkFences$Range;)V"⟩
abbrev cX3_postsMove : ByteArray := prog_5_method_3_code
def yX3_postsMove : MethodName := ⟨RX3, "postsMove", "()V"⟩
abbrev cX3_dawnsCome : ByteArray := prog_5_method_4_code
def yX3_dawnsCome : MethodName := ⟨RX3, "dawnsCome", "(I)V"⟩
abbrev cX3_fencesGraze : ByteArray := prog_5_method_5_code
def yX3_fencesGraze : MethodName := ⟨RX3, "fencesGraze", "()V"⟩
abbrev cX3_cattleFeed : ByteArray := prog_5_method_6_code
def yX3_cattleFeed : MethodName := ⟨RX3, "cattleFeed", "()V"⟩
abbrev cX3_graze : ByteArray := prog_5_method_7_code
def yX3_graze : MethodName := ⟨RX3, "graze", "(LWalkFences$Fence;J)I"⟩
abbrev cX3_strayByDraws : ByteArray := prog_5_method_8_code
def yX3_strayByDraws : MethodName := ⟨RX3, "strayByDraws", "()V"⟩
abbrev cX3_draw : ByteArray := prog_5_method_9_code
def yX3_draw : MethodName := ⟨RX3, "draw", "()I"⟩
abbrev cX3_standing : ByteArray := prog_5_method_10_code
def yX3_standing : MethodName := ⟨RX3, "standing", "()J"⟩
abbrev cX3_lookInside : ByteArray := prog_5_method_11_code
def yX3_lookInside : MethodName := ⟨RX3, "lookInside", "()V"⟩
abbrev cX3_brandSeen : ByteArray := prog_5_method_12_code
def yX3_brandSeen : MethodName := ⟨RX3, "brandSeen", "(I)I"⟩
abbrev cX3_branded : ByteArray := prog_5_method_13_code
def yX3_branded : MethodName := ⟨RX3, "branded", "()J"⟩
def RX4 : String := "WalkFences$Sheet"
def TX4 : u_T := fun k => match k with
  | 0 => ("WalkFences$Sheet", "numbers", "[I", true)
  | 1 => ("WalkFences$Sheet", "size", "I", false)
  | _ => ("WalkFences$Sheet", "bits", "I", false)
def tyX4 : Nat → FieldType := fun k => match k with
  | 0 => .array .int
  | 1 => .int
  | _ => .int
abbrev wsX40 : List Cond := u_ws RX4 TX4 3
theorem nmX4 : ∀ a, a < 3 → ∀ b, b < 3 → a ≠ b → (TX4 a).2.1 ≠ (TX4 b).2.1 := by decide +kernel
theorem tyX4_ok : ∀ k, k < 3 → parseFieldDescriptor (TX4 k).2.2.1 = some (tyX4 k) := by decide +kernel
abbrev cX4_init : ByteArray := prog_6_method_1_code
def yX4_init : MethodName := ⟨RX4, "<init>", "()V"⟩
abbrev cX4_isBits : ByteArray := prog_6_method_2_code
def yX4_isBits : MethodName := ⟨RX4, "isBits", "(I)Z"⟩
abbrev cX4_begin : ByteArray := prog_6_method_3_code
def yX4_begin : MethodName := ⟨RX4, "begin", "(II)V"⟩
abbrev cX4_lowestBits : ByteArray := prog_6_method_4_code
def yX4_lowestBits : MethodName := ⟨RX4, "lowestBits", "(I)I"⟩
abbrev cX4_hasPart : ByteArray := prog_6_method_5_code
def yX4_hasPart : MethodName := ⟨RX4, "hasPart", "(II)Z"⟩
abbrev cX4_tells : ByteArray := prog_6_method_6_code
def yX4_tells : MethodName := ⟨RX4, "tells", "(LWalkFences$Fence;)Z"⟩
def RX5 : String := "WalkFences$TextReader"
def TX5 : u_T := fun k => match k with
  | 0 => ("WalkFences$TextReader", "code", "[I", true)
  | 1 => ("WalkFences$TextReader", "length", "I", false)
  | 2 => ("WalkFences$TextReader", "bytes", "[B", false)
  | 3 => ("WalkFences$TextReader", "size", "I", false)
  | 4 => ("WalkFences$TextReader", "place", "I", false)
  | _ => ("WalkFences$TextReader", "names", "Ljava/lang/String;", false)
def tyX5 : Nat → FieldType := fun k => match k with
  | 0 => .array .int
  | 1 => .int
  | 2 => .array .byte
  | 3 => .int
  | 4 => .int
  | _ => .object "java/lang/String"
abbrev wsX50 : List Cond := u_ws RX5 TX5 6
theorem nmX5 : ∀ a, a < 6 → ∀ b, b < 6 → a ≠ b → (TX5 a).2.1 ≠ (TX5 b).2.1 := by decide +kernel
theorem tyX5_ok : ∀ k, k < 6 → parseFieldDescriptor (TX5 k).2.2.1 = some (tyX5 k) := by decide +kernel
abbrev cX5_init : ByteArray := prog_7_method_1_code
def yX5_init : MethodName := ⟨RX5, "<init>", "()V"⟩
abbrev cX5_faultOf : ByteArray := prog_7_method_2_code
def yX5_faultOf : MethodName := ⟨RX5, "faultOf", "([BILjava/lang/String;)I"⟩
abbrev cX5_readLevel : ByteArray := prog_7_method_3_code
def yX5_readLevel : MethodName := ⟨RX5, "readLevel", "(II)Z"⟩
abbrev cX5_joins : ByteArray := prog_7_method_4_code
def yX5_joins : MethodName := ⟨RX5, "joins", "(IC)Z"⟩
abbrev cX5_readQ : ByteArray := prog_7_method_5_code
def yX5_readQ : MethodName := ⟨RX5, "readQ", "(I)Z"⟩
abbrev cX5_readOpened : ByteArray := prog_7_method_6_code
def yX5_readOpened : MethodName := ⟨RX5, "readOpened", "(CI)Z"⟩
abbrev cX5_readNumber : ByteArray := prog_7_method_7_code
def yX5_readNumber : MethodName := ⟨RX5, "readNumber", "()V"⟩
abbrev cX5_isDigit : ByteArray := prog_7_method_8_code
def yX5_isDigit : MethodName := ⟨RX5, "isDigit", "(C)Z"⟩
abbrev cX5_sign : ByteArray := prog_7_method_9_code
def yX5_sign : MethodName := ⟨RX5, "sign", "()C"⟩
abbrev cX5_add : ByteArray := prog_7_method_10_code
def yX5_add : MethodName := ⟨RX5, "add", "(I)V"⟩
def RX6 : String := "WalkFences$Voices"
def TX6 : u_T := fun k => match k with
  | 0 => ("WalkFences$Voices", "bodies", "[I", true)
  | 1 => ("WalkFences$Voices", "begun", "I", false)
  | 2 => ("WalkFences$Voices", "parted", "Z", false)
  | 3 => ("WalkFences$Voices", "kind", "I", false)
  | 4 => ("WalkFences$Voices", "m", "I", false)
  | _ => ("WalkFences$Voices", "k", "I", false)
def tyX6 : Nat → FieldType := fun k => match k with
  | 0 => .array .int
  | 1 => .int
  | 2 => .boolean
  | 3 => .int
  | 4 => .int
  | _ => .int
abbrev wsX60 : List Cond := u_ws RX6 TX6 6
theorem nmX6 : ∀ a, a < 6 → ∀ b, b < 6 → a ≠ b → (TX6 a).2.1 ≠ (TX6 b).2.1 := by decide +kernel
theorem tyX6_ok : ∀ k, k < 6 → parseFieldDescriptor (TX6 k).2.2.1 = some (tyX6 k) := by decide +kernel
abbrev cX6_init : ByteArray := prog_8_method_1_code
def yX6_init : MethodName := ⟨RX6, "<init>", "()V"⟩
abbrev cX6_answer : ByteArray := prog_8_method_2_code
def yX6_answer : MethodName := ⟨RX6, "answer", "(IIIII)I"⟩
abbrev cX6_begins : ByteArray := prog_8_method_3_code
def yX6_begins : MethodName := ⟨RX6, "begins", "(I)V"⟩
abbrev cX6_sings : ByteArray := prog_8_method_4_code
def yX6_sings : MethodName := ⟨RX6, "sings", "(II)I"⟩
abbrev cX6_leans : ByteArray := prog_8_method_5_code
def yX6_leans : MethodName := ⟨RX6, "leans", "(II)I"⟩
abbrev cX6_sprouts : ByteArray := prog_8_method_6_code
def yX6_sprouts : MethodName := ⟨RX6, "sprouts", "(II)I"⟩
abbrev cX6_parts : ByteArray := prog_8_method_7_code
def yX6_parts : MethodName := ⟨RX6, "parts", "(II)I"⟩
def RX7 : String := "WalkFences"
def TX7 : u_T := fun k => match k with
  | 0 => ("WalkFences", "now", "LWalkFences$Range;", true)
  | 1 => ("WalkFences", "kept", "LWalkFences$Range;", true)
  | 2 => ("WalkFences", "thought", "LWalkFences$Range;", true)
  | 3 => ("WalkFences", "reader", "LWalkFences$TextReader;", true)
  | 4 => ("WalkFences", "voices", "LWalkFences$Voices;", true)
  | 5 => ("WalkFences", "sheets", "[LWalkFences$Sheet;", true)
  | 6 => ("WalkFences", "errors", "[I", true)
  | _ => ("WalkFences", "images", "I", false)
def tyX7 : Nat → FieldType := fun k => match k with
  | 0 => .object "WalkFences$Range"
  | 1 => .object "WalkFences$Range"
  | 2 => .object "WalkFences$Range"
  | 3 => .object "WalkFences$TextReader"
  | 4 => .object "WalkFences$Voices"
  | 5 => .array (.object "WalkFences$Sheet")
  | 6 => .array .int
  | _ => .int
abbrev wsX70 : List Cond := u_ws RX7 TX7 8
theorem nmX7 : ∀ a, a < 8 → ∀ b, b < 8 → a ≠ b → (TX7 a).2.1 ≠ (TX7 b).2.1 := by decide +kernel
theorem tyX7_ok : ∀ k, k < 8 → parseFieldDescriptor (TX7 k).2.2.1 = some (tyX7 k) := by decide +kernel
abbrev cX7_init : ByteArray := prog_1_method_1_code
def yX7_init : MethodName := ⟨RX7, "<init>", "()V"⟩
abbrev cX7_fence : ByteArray := prog_1_method_2_code
def yX7_fence : MethodName := ⟨RX7, "fence", "(II)I"⟩
abbrev cX7_post : ByteArray := prog_1_method_3_code
def yX7_post : MethodName := ⟨RX7, "post", "(II)I"⟩
abbrev cX7_fenceIs : ByteArray := prog_1_method_4_code
def yX7_fenceIs : MethodName := ⟨RX7, "fenceIs", "(II)I"⟩
abbrev cX7_at : ByteArray := prog_1_method_5_code
def yX7_at : MethodName := ⟨RX7, "at", "(II)I"⟩
abbrev cX7_heads : ByteArray := prog_1_method_6_code
def yX7_heads : MethodName := ⟨RX7, "heads", "(II)I"⟩
abbrev cX7_become : ByteArray := prog_1_method_7_code
def yX7_become : MethodName := ⟨RX7, "become", "(II)I"⟩
abbrev cX7_as : ByteArray := prog_1_method_8_code
def yX7_as : MethodName := ⟨RX7, "as", "(II)I"⟩
abbrev cX7_turn : ByteArray := prog_1_method_9_code
def yX7_turn : MethodName := ⟨RX7, "turn", "(II)I"⟩
abbrev cX7_cut : ByteArray := prog_1_method_10_code
def yX7_cut : MethodName := ⟨RX7, "cut", "(I)I"⟩
abbrev cX7_lay : ByteArray := prog_1_method_11_code
def yX7_lay : MethodName := ⟨RX7, "lay", "(III)I"⟩
abbrev cX7_cow : ByteArray := prog_1_method_12_code
def yX7_cow : MethodName := ⟨RX7, "cow", "(I)I"⟩
abbrev cX7_cowIs : ByteArray := prog_1_method_13_code
def yX7_cowIs : MethodName := ⟨RX7, "cowIs", "(II)I"⟩
abbrev cX7_drive : ByteArray := prog_1_method_14_code
def yX7_drive : MethodName := ⟨RX7, "drive", "(II)I"⟩
abbrev cX7_feed : ByteArray := prog_1_method_15_code
def yX7_feed : MethodName := ⟨RX7, "feed", "(JI)I"⟩
abbrev cX7_text : ByteArray := prog_1_method_16_code
def yX7_text : MethodName := ⟨RX7, "text", "(I)I"⟩
abbrev cX7_untell : ByteArray := prog_1_method_17_code
def yX7_untell : MethodName := ⟨RX7, "untell", "(I)I"⟩
abbrev cX7_law : ByteArray := prog_1_method_18_code
def yX7_law : MethodName := ⟨RX7, "law", "(IIII)I"⟩
abbrev cX7_dawns : ByteArray := prog_1_method_19_code
def yX7_dawns : MethodName := ⟨RX7, "dawns", "(I)I"⟩
abbrev cX7_loose : ByteArray := prog_1_method_20_code
def yX7_loose : MethodName := ⟨RX7, "loose", "(I)I"⟩
abbrev cX7_seed : ByteArray := prog_1_method_21_code
def yX7_seed : MethodName := ⟨RX7, "seed", "(I)I"⟩
abbrev cX7_land : ByteArray := prog_1_method_22_code
def yX7_land : MethodName := ⟨RX7, "land", "(II)J"⟩
abbrev cX7_then : ByteArray := prog_1_method_23_code
def yX7_then : MethodName := ⟨RX7, "then", "(III)I"⟩
abbrev cX7_first : ByteArray := prog_1_method_24_code
def yX7_first : MethodName := ⟨RX7, "first", "(II)I"⟩
abbrev cX7_salts : ByteArray := prog_1_method_25_code
def yX7_salts : MethodName := ⟨RX7, "salts", "(IIII)I"⟩
abbrev cX7_way : ByteArray := prog_1_method_26_code
def yX7_way : MethodName := ⟨RX7, "way", "(II)I"⟩
abbrev cX7_odds : ByteArray := prog_1_method_27_code
def yX7_odds : MethodName := ⟨RX7, "odds", "(I)I"⟩
abbrev cX7_fits : ByteArray := prog_1_method_28_code
def yX7_fits : MethodName := ⟨RX7, "fits", "(II)I"⟩
abbrev cX7_voice : ByteArray := prog_1_method_29_code
def yX7_voice : MethodName := ⟨RX7, "voice", "(III)I"⟩
abbrev cX7_body : ByteArray := prog_1_method_30_code
def yX7_body : MethodName := ⟨RX7, "body", "(I)I"⟩
abbrev cX7_sheet : ByteArray := prog_1_method_31_code
def yX7_sheet : MethodName := ⟨RX7, "sheet", "(III)I"⟩
abbrev cX7_put : ByteArray := prog_1_method_32_code
def yX7_put : MethodName := ⟨RX7, "put", "(III)I"⟩
abbrev cX7_move : ByteArray := prog_1_method_33_code
def yX7_move : MethodName := ⟨RX7, "move", "(IIIII)I"⟩
abbrev cX7_sets : ByteArray := prog_1_method_34_code
def yX7_sets : MethodName := ⟨RX7, "sets", "(II)I"⟩
abbrev cX7_judge : ByteArray := prog_1_method_35_code
def yX7_judge : MethodName := ⟨RX7, "judge", "(I)I"⟩
abbrev cX7_image : ByteArray := prog_1_method_36_code
def yX7_image : MethodName := ⟨RX7, "image", "()I"⟩
abbrev cX7_restore : ByteArray := prog_1_method_37_code
def yX7_restore : MethodName := ⟨RX7, "restore", "()I"⟩
abbrev cX7_tell : ByteArray := prog_1_method_38_code
def yX7_tell : MethodName := ⟨RX7, "tell", "(I)I"⟩
abbrev cX7_check : ByteArray := prog_1_method_39_code
def yX7_check : MethodName := ⟨RX7, "check", "()I"⟩
abbrev cX7_count : ByteArray := prog_1_method_40_code
def yX7_count : MethodName := ⟨RX7, "count", "(I)I"⟩
abbrev cX7_told : ByteArray := prog_1_method_41_code
def yX7_told : MethodName := ⟨RX7, "told", "(I)I"⟩
abbrev cX7_error : ByteArray := prog_1_method_42_code
def yX7_error : MethodName := ⟨RX7, "error", "(I)I"⟩
abbrev cX7_isFence : ByteArray := prog_1_method_43_code
def yX7_isFence : MethodName := ⟨RX7, "isFence", "(I)Z"⟩
abbrev cX7_isPost : ByteArray := prog_1_method_44_code
def yX7_isPost : MethodName := ⟨RX7, "isPost", "(II)Z"⟩
abbrev cX7_isCow : ByteArray := prog_1_method_45_code
def yX7_isCow : MethodName := ⟨RX7, "isCow", "(I)Z"⟩
abbrev cX7_isKm : ByteArray := prog_1_method_46_code
def yX7_isKm : MethodName := ⟨RX7, "isKm", "(I)Z"⟩
abbrev cX7_isWay : ByteArray := prog_1_method_47_code
def yX7_isWay : MethodName := ⟨RX7, "isWay", "(I)Z"⟩
abbrev cX7_isUse : ByteArray := prog_1_method_48_code
def yX7_isUse : MethodName := ⟨RX7, "isUse", "(I)Z"⟩
abbrev cX7_isSheet : ByteArray := prog_1_method_49_code
def yX7_isSheet : MethodName := ⟨RX7, "isSheet", "(I)Z"⟩
abbrev cX7_isOfKind : ByteArray := prog_1_method_50_code
def yX7_isOfKind : MethodName := ⟨RX7, "isOfKind", "(II)Z"⟩
abbrev cX7_fewestSalts : ByteArray := prog_1_method_51_code
def yX7_fewestSalts : MethodName := ⟨RX7, "fewestSalts", "(III)J"⟩
abbrev cX7_isInsideSalted : ByteArray := prog_1_method_52_code
def yX7_isInsideSalted : MethodName := ⟨RX7, "isInsideSalted", "(IIIJ)Z"⟩
def RX8 : String := "WalkFencesModel"
def TX8 : u_T := fun k => match k with
  | 0 => ("WalkFencesModel", "row", "[I", true)
  | 1 => ("WalkFencesModel", "kept", "[I", true)
  | 2 => ("WalkFencesModel", "before", "[I", true)
  | 3 => ("WalkFencesModel", "images", "I", false)
  | 4 => ("WalkFencesModel", "errors", "[I", true)
  | 5 => ("WalkFencesModel", "bitsOf", "[I", true)
  | 6 => ("WalkFencesModel", "sizeOf", "[I", true)
  | 7 => ("WalkFencesModel", "cells", "[I", true)
  | 8 => ("WalkFencesModel", "act", "[I", true)
  | 9 => ("WalkFencesModel", "with", "[I", true)
  | 10 => ("WalkFencesModel", "facts", "[I", true)
  | 11 => ("WalkFencesModel", "pile", "[I", true)
  | 12 => ("WalkFencesModel", "laid", "I", false)
  | 13 => ("WalkFencesModel", "here", "I", false)
  | 14 => ("WalkFencesModel", "opened", "I", false)
  | 15 => ("WalkFencesModel", "bad", "Z", false)
  | 16 => ("WalkFencesModel", "using", "I", false)
  | 17 => ("WalkFencesModel", "trace", "[I", true)
  | 18 => ("WalkFencesModel", "traced", "I", false)
  | _ => ("WalkFencesModel", "isParted", "Z", false)
def tyX8 : Nat → FieldType := fun k => match k with
  | 0 => .array .int
  | 1 => .array .int
  | 2 => .array .int
  | 3 => .int
  | 4 => .array .int
  | 5 => .array .int
  | 6 => .array .int
  | 7 => .array .int
  | 8 => .array .int
  | 9 => .array .int
  | 10 => .array .int
  | 11 => .array .int
  | 12 => .int
  | 13 => .int
  | 14 => .int
  | 15 => .boolean
  | 16 => .int
  | 17 => .array .int
  | 18 => .int
  | _ => .boolean
abbrev wsX80 : List Cond := u_ws RX8 TX8 20
theorem nmX8 : ∀ a, a < 20 → ∀ b, b < 20 → a ≠ b → (TX8 a).2.1 ≠ (TX8 b).2.1 := by decide +kernel
theorem tyX8_ok : ∀ k, k < 20 → parseFieldDescriptor (TX8 k).2.2.1 = some (tyX8 k) := by decide +kernel
abbrev cX8_init : ByteArray := prog_10_method_1_code
def yX8_init : MethodName := ⟨RX8, "<init>", "()V"⟩
abbrev cX8_error : ByteArray := prog_10_method_2_code
def yX8_error : MethodName := ⟨RX8, "error", "(I)I"⟩
abbrev cX8_in : ByteArray := prog_10_method_3_code
def yX8_in : MethodName := ⟨RX8, "in", "(III)Z"⟩
abbrev cX8_held : ByteArray := prog_10_method_4_code
def yX8_held : MethodName := ⟨RX8, "held", "(III)I"⟩
abbrev cX8_copyAll : ByteArray := prog_10_method_5_code
def yX8_copyAll : MethodName := ⟨RX8, "copyAll", "([I[I)V"⟩
abbrev cX8_thinks : ByteArray := prog_10_method_6_code
def yX8_thinks : MethodName := ⟨RX8, "thinks", "()V"⟩
abbrev cX8_putsBack : ByteArray := prog_10_method_7_code
def yX8_putsBack : MethodName := ⟨RX8, "putsBack", "()V"⟩
abbrev cX8_bits : ByteArray := prog_10_method_8_code
def yX8_bits : MethodName := ⟨RX8, "bits", "(J)I"⟩
abbrev cX8_isFence : ByteArray := prog_10_method_9_code
def yX8_isFence : MethodName := ⟨RX8, "isFence", "(I)Z"⟩
abbrev cX8_isCow : ByteArray := prog_10_method_10_code
def yX8_isCow : MethodName := ⟨RX8, "isCow", "(I)Z"⟩
abbrev cX8_isCell : ByteArray := prog_10_method_11_code
def yX8_isCell : MethodName := ⟨RX8, "isCell", "(I)Z"⟩
abbrev cX8_becomes : ByteArray := prog_10_method_12_code
def yX8_becomes : MethodName := ⟨RX8, "becomes", "(II)I"⟩
abbrev cX8_of : ByteArray := prog_10_method_13_code
def yX8_of : MethodName := ⟨RX8, "of", "(II)I"⟩
abbrev cX8_lets : ByteArray := prog_10_method_14_code
def yX8_lets : MethodName := ⟨RX8, "lets", "(III)V"⟩
abbrev cX8_headsOf : ByteArray := prog_10_method_15_code
def yX8_headsOf : MethodName := ⟨RX8, "headsOf", "(II)I"⟩
abbrev cX8_next : ByteArray := prog_10_method_16_code
def yX8_next : MethodName := ⟨RX8, "next", "(II)I"⟩
abbrev cX8_moves : ByteArray := prog_10_method_17_code
def yX8_moves : MethodName := ⟨RX8, "moves", "()V"⟩
abbrev cX8_postsOf : ByteArray := prog_10_method_18_code
def yX8_postsOf : MethodName := ⟨RX8, "postsOf", "(I)J"⟩
abbrev cX8_beside : ByteArray := prog_10_method_19_code
def yX8_beside : MethodName := ⟨RX8, "beside", "(J)J"⟩
abbrev cX8_insideOf : ByteArray := prog_10_method_20_code
def yX8_insideOf : MethodName := ⟨RX8, "insideOf", "(I)J"⟩
abbrev cX8_brandOf : ByteArray := prog_10_method_21_code
def yX8_brandOf : MethodName := ⟨RX8, "brandOf", "(I)I"⟩
abbrev cX8_grazeOf : ByteArray := prog_10_method_22_code
def yX8_grazeOf : MethodName := ⟨RX8, "grazeOf", "(I)I"⟩
abbrev cX8_isKm : ByteArray := prog_10_method_23_code
def yX8_isKm : MethodName := ⟨RX8, "isKm", "(I)Z"⟩
abbrev cX8_fence : ByteArray := prog_10_method_24_code
def yX8_fence : MethodName := ⟨RX8, "fence", "(II)I"⟩
abbrev cX8_post : ByteArray := prog_10_method_25_code
def yX8_post : MethodName := ⟨RX8, "post", "(II)I"⟩
abbrev cX8_fenceIs : ByteArray := prog_10_method_26_code
def yX8_fenceIs : MethodName := ⟨RX8, "fenceIs", "(II)I"⟩
abbrev cX8_isPost : ByteArray := prog_10_method_27_code
def yX8_isPost : MethodName := ⟨RX8, "isPost", "(II)Z"⟩
abbrev cX8_at : ByteArray := prog_10_method_28_code
def yX8_at : MethodName := ⟨RX8, "at", "(II)I"⟩
abbrev cX8_heads : ByteArray := prog_10_method_29_code
def yX8_heads : MethodName := ⟨RX8, "heads", "(II)I"⟩
abbrev cX8_become : ByteArray := prog_10_method_30_code
def yX8_become : MethodName := ⟨RX8, "become", "(II)I"⟩
abbrev cX8_as : ByteArray := prog_10_method_31_code
def yX8_as : MethodName := ⟨RX8, "as", "(II)I"⟩
abbrev cX8_turn : ByteArray := prog_10_method_32_code
def yX8_turn : MethodName := ⟨RX8, "turn", "(II)I"⟩
abbrev cX8_cut : ByteArray := prog_10_method_33_code
def yX8_cut : MethodName := ⟨RX8, "cut", "(I)I"⟩
abbrev cX8_lay : ByteArray := prog_10_method_34_code
def yX8_lay : MethodName := ⟨RX8, "lay", "(III)I"⟩
abbrev cX8_cow : ByteArray := prog_10_method_35_code
def yX8_cow : MethodName := ⟨RX8, "cow", "(I)I"⟩
abbrev cX8_cowIs : ByteArray := prog_10_method_36_code
def yX8_cowIs : MethodName := ⟨RX8, "cowIs", "(II)I"⟩
abbrev cX8_drive : ByteArray := prog_10_method_37_code
def yX8_drive : MethodName := ⟨RX8, "drive", "(II)I"⟩
abbrev cX8_feed : ByteArray := prog_10_method_38_code
def yX8_feed : MethodName := ⟨RX8, "feed", "(JI)I"⟩
abbrev cX8_look : ByteArray := prog_10_method_39_code
def yX8_look : MethodName := ⟨RX8, "look", "()I"⟩
abbrev cX8_step : ByteArray := prog_10_method_40_code
def yX8_step : MethodName := ⟨RX8, "step", "(II)V"⟩
abbrev cX8_nameOf : ByteArray := prog_10_method_41_code
def yX8_nameOf : MethodName := ⟨RX8, "nameOf", "(I)I"⟩
abbrev cX8_number : ByteArray := prog_10_method_42_code
def yX8_number : MethodName := ⟨RX8, "number", "()V"⟩
abbrev cX8_opens : ByteArray := prog_10_method_43_code
def yX8_opens : MethodName := ⟨RX8, "opens", "(I)V"⟩
abbrev cX8_one : ByteArray := prog_10_method_44_code
def yX8_one : MethodName := ⟨RX8, "one", "()V"⟩
abbrev cX8_times : ByteArray := prog_10_method_45_code
def yX8_times : MethodName := ⟨RX8, "times", "()V"⟩
abbrev cX8_sum : ByteArray := prog_10_method_46_code
def yX8_sum : MethodName := ⟨RX8, "sum", "()V"⟩
abbrev cX8_compares : ByteArray := prog_10_method_47_code
def yX8_compares : MethodName := ⟨RX8, "compares", "()V"⟩
abbrev cX8_all : ByteArray := prog_10_method_48_code
def yX8_all : MethodName := ⟨RX8, "all", "()V"⟩
abbrev cX8_any : ByteArray := prog_10_method_49_code
def yX8_any : MethodName := ⟨RX8, "any", "()V"⟩
abbrev cX8_text : ByteArray := prog_10_method_50_code
def yX8_text : MethodName := ⟨RX8, "text", "(I)I"⟩
abbrev cX8_untell : ByteArray := prog_10_method_51_code
def yX8_untell : MethodName := ⟨RX8, "untell", "(I)I"⟩
abbrev cX8_twoOf : ByteArray := prog_10_method_52_code
def yX8_twoOf : MethodName := ⟨RX8, "twoOf", "(III)I"⟩
abbrev cX8_works : ByteArray := prog_10_method_53_code
def yX8_works : MethodName := ⟨RX8, "works", "(I)I"⟩
abbrev cX8_gives : ByteArray := prog_10_method_54_code
def yX8_gives : MethodName := ⟨RX8, "gives", "(IIII)I"⟩
abbrev cX8_law : ByteArray := prog_10_method_55_code
def yX8_law : MethodName := ⟨RX8, "law", "(IIII)I"⟩
abbrev cX8_goes : ByteArray := prog_10_method_56_code
def yX8_goes : MethodName := ⟨RX8, "goes", "()V"⟩
abbrev cX8_dawns : ByteArray := prog_10_method_57_code
def yX8_dawns : MethodName := ⟨RX8, "dawns", "(I)I"⟩
abbrev cX8_draw : ByteArray := prog_10_method_58_code
def yX8_draw : MethodName := ⟨RX8, "draw", "()I"⟩
abbrev cX8_drawn : ByteArray := prog_10_method_59_code
def yX8_drawn : MethodName := ⟨RX8, "drawn", "()V"⟩
abbrev cX8_countOf : ByteArray := prog_10_method_60_code
def yX8_countOf : MethodName := ⟨RX8, "countOf", "(I)I"⟩
abbrev cX8_loose : ByteArray := prog_10_method_61_code
def yX8_loose : MethodName := ⟨RX8, "loose", "(I)I"⟩
abbrev cX8_seed : ByteArray := prog_10_method_62_code
def yX8_seed : MethodName := ⟨RX8, "seed", "(I)I"⟩
abbrev cX8_land : ByteArray := prog_10_method_63_code
def yX8_land : MethodName := ⟨RX8, "land", "(II)J"⟩
abbrev cX8_then : ByteArray := prog_10_method_64_code
def yX8_then : MethodName := ⟨RX8, "then", "(III)I"⟩
abbrev cX8_first : ByteArray := prog_10_method_65_code
def yX8_first : MethodName := ⟨RX8, "first", "(II)I"⟩
abbrev cX8_isHad : ByteArray := prog_10_method_66_code
def yX8_isHad : MethodName := ⟨RX8, "isHad", "(IIIII)Z"⟩
abbrev cX8_salts : ByteArray := prog_10_method_67_code
def yX8_salts : MethodName := ⟨RX8, "salts", "(IIII)I"⟩
abbrev cX8_allPosts : ByteArray := prog_10_method_68_code
def yX8_allPosts : MethodName := ⟨RX8, "allPosts", "()J"⟩
abbrev cX8_way : ByteArray := prog_10_method_69_code
def yX8_way : MethodName := ⟨RX8, "way", "(II)I"⟩
abbrev cX8_odds : ByteArray := prog_10_method_70_code
def yX8_odds : MethodName := ⟨RX8, "odds", "(I)I"⟩
abbrev cX8_isSo : ByteArray := prog_10_method_71_code
def yX8_isSo : MethodName := ⟨RX8, "isSo", "(II)Z"⟩
abbrev cX8_fits : ByteArray := prog_10_method_72_code
def yX8_fits : MethodName := ⟨RX8, "fits", "(II)I"⟩
abbrev cX8_begins : ByteArray := prog_10_method_73_code
def yX8_begins : MethodName := ⟨RX8, "begins", "(I)V"⟩
abbrev cX8_plainSings : ByteArray := prog_10_method_74_code
def yX8_plainSings : MethodName := ⟨RX8, "plainSings", "(II)I"⟩
abbrev cX8_northernSings : ByteArray := prog_10_method_75_code
def yX8_northernSings : MethodName := ⟨RX8, "northernSings", "(II)I"⟩
abbrev cX8_sings : ByteArray := prog_10_method_76_code
def yX8_sings : MethodName := ⟨RX8, "sings", "(II)I"⟩
abbrev cX8_plainLeans : ByteArray := prog_10_method_77_code
def yX8_plainLeans : MethodName := ⟨RX8, "plainLeans", "(II)I"⟩
abbrev cX8_laggingLeans : ByteArray := prog_10_method_78_code
def yX8_laggingLeans : MethodName := ⟨RX8, "laggingLeans", "(II)I"⟩
abbrev cX8_leans : ByteArray := prog_10_method_79_code
def yX8_leans : MethodName := ⟨RX8, "leans", "(II)I"⟩
abbrev cX8_plainSprouts : ByteArray := prog_10_method_80_code
def yX8_plainSprouts : MethodName := ⟨RX8, "plainSprouts", "(II)I"⟩
abbrev cX8_sprouts : ByteArray := prog_10_method_81_code
def yX8_sprouts : MethodName := ⟨RX8, "sprouts", "(II)I"⟩
abbrev cX8_plainParts : ByteArray := prog_10_method_82_code
def yX8_plainParts : MethodName := ⟨RX8, "plainParts", "(II)I"⟩
abbrev cX8_parts : ByteArray := prog_10_method_83_code
def yX8_parts : MethodName := ⟨RX8, "parts", "(II)I"⟩
abbrev cX8_voice : ByteArray := prog_10_method_84_code
def yX8_voice : MethodName := ⟨RX8, "voice", "(III)I"⟩
abbrev cX8_body : ByteArray := prog_10_method_85_code
def yX8_body : MethodName := ⟨RX8, "body", "(I)I"⟩
abbrev cX8_isSheet : ByteArray := prog_10_method_86_code
def yX8_isSheet : MethodName := ⟨RX8, "isSheet", "(I)Z"⟩
abbrev cX8_sheet : ByteArray := prog_10_method_87_code
def yX8_sheet : MethodName := ⟨RX8, "sheet", "(III)I"⟩
abbrev cX8_notThere : ByteArray := prog_10_method_88_code
def yX8_notThere : MethodName := ⟨RX8, "notThere", "(I)I"⟩
abbrev cX8_put : ByteArray := prog_10_method_89_code
def yX8_put : MethodName := ⟨RX8, "put", "(III)I"⟩
abbrev cX8_notMoved : ByteArray := prog_10_method_90_code
def yX8_notMoved : MethodName := ⟨RX8, "notMoved", "(IIIII)I"⟩
abbrev cX8_move : ByteArray := prog_10_method_91_code
def yX8_move : MethodName := ⟨RX8, "move", "(IIIII)I"⟩
abbrev cX8_sets : ByteArray := prog_10_method_92_code
def yX8_sets : MethodName := ⟨RX8, "sets", "(II)I"⟩
abbrev cX8_judge : ByteArray := prog_10_method_93_code
def yX8_judge : MethodName := ⟨RX8, "judge", "(I)I"⟩
abbrev cX8_image : ByteArray := prog_10_method_94_code
def yX8_image : MethodName := ⟨RX8, "image", "()I"⟩
abbrev cX8_restore : ByteArray := prog_10_method_95_code
def yX8_restore : MethodName := ⟨RX8, "restore", "()I"⟩
abbrev cX8_tell : ByteArray := prog_10_method_96_code
def yX8_tell : MethodName := ⟨RX8, "tell", "(I)I"⟩
abbrev cX8_check : ByteArray := prog_10_method_97_code
def yX8_check : MethodName := ⟨RX8, "check", "()I"⟩
abbrev cX8_count : ByteArray := prog_10_method_98_code
def yX8_count : MethodName := ⟨RX8, "count", "(I)I"⟩
abbrev cX8_told : ByteArray := prog_10_method_99_code
def yX8_told : MethodName := ⟨RX8, "told", "(I)I"⟩
def RJ11 : String := "java/lang/Character"
def TJ11 : u_T := fun k => match k with
  | _ => ("", "", "", false)
def tyJ11 : Nat → FieldType := fun k => match k with
  | _ => .int
abbrev wsJ110 : List Cond := u_ws RJ11 TJ11 0
theorem nmJ11 : ∀ a, a < 0 → ∀ b, b < 0 → a ≠ b → (TJ11 a).2.1 ≠ (TJ11 b).2.1 := by decide +kernel
theorem tyJ11_ok : ∀ k, k < 0 → parseFieldDescriptor (TJ11 k).2.2.1 = some (tyJ11 k) := by decide +kernel
abbrev cJ11_isValidCodePoint_9a6ad : ByteArray := prog_11_method_11_code
def yJ11_isValidCodePoint_9a6ad : MethodName := ⟨RJ11, "isValidCodePoint", "(I)Z"⟩
abbrev cJ11_highSurrogate_5068e : ByteArray := prog_11_method_28_code
def yJ11_highSurrogate_5068e : MethodName := ⟨RJ11, "highSurrogate", "(I)C"⟩
abbrev cJ11_lowSurrogate_5068e : ByteArray := prog_11_method_29_code
def yJ11_lowSurrogate_5068e : MethodName := ⟨RJ11, "lowSurrogate", "(I)C"⟩
def RJ6 : String := "java/lang/Integer"
def TJ6 : u_T := fun k => match k with
  | _ => ("", "", "", false)
def tyJ6 : Nat → FieldType := fun k => match k with
  | _ => .int
abbrev wsJ60 : List Cond := u_ws RJ6 TJ6 0
theorem nmJ6 : ∀ a, a < 0 → ∀ b, b < 0 → a ≠ b → (TJ6 a).2.1 ≠ (TJ6 b).2.1 := by decide +kernel
theorem tyJ6_ok : ∀ k, k < 0 → parseFieldDescriptor (TJ6 k).2.2.1 = some (tyJ6 k) := by decide +kernel
abbrev cJ6_numberOfTrailingZeros_0f7a4 : ByteArray := prog_12_method_48_code
def yJ6_numberOfTrailingZeros_0f7a4 : MethodName := ⟨RJ6, "numberOfTrailingZeros", "(I)I"⟩
def RJ13 : String := "java/lang/Long"
def TJ13 : u_T := fun k => match k with
  | _ => ("", "", "", false)
def tyJ13 : Nat → FieldType := fun k => match k with
  | _ => .int
abbrev wsJ130 : List Cond := u_ws RJ13 TJ13 0
theorem nmJ13 : ∀ a, a < 0 → ∀ b, b < 0 → a ≠ b → (TJ13 a).2.1 ≠ (TJ13 b).2.1 := by decide +kernel
theorem tyJ13_ok : ∀ k, k < 0 → parseFieldDescriptor (TJ13 k).2.2.1 = some (tyJ13 k) := by decide +kernel
abbrev cJ13_numberOfTrailingZeros_95d88 : ByteArray := prog_13_method_49_code
def yJ13_numberOfTrailingZeros_95d88 : MethodName := ⟨RJ13, "numberOfTrailingZeros", "(J)I"⟩
abbrev cJ13_bitCount_95d88 : ByteArray := prog_13_method_50_code
def yJ13_bitCount_95d88 : MethodName := ⟨RJ13, "bitCount", "(J)I"⟩
def RJ9 : String := "java/lang/Math"
def TJ9 : u_T := fun k => match k with
  | _ => ("", "", "", false)
def tyJ9 : Nat → FieldType := fun k => match k with
  | _ => .int
abbrev wsJ90 : List Cond := u_ws RJ9 TJ9 0
theorem nmJ9 : ∀ a, a < 0 → ∀ b, b < 0 → a ≠ b → (TJ9 a).2.1 ≠ (TJ9 b).2.1 := by decide +kernel
theorem tyJ9_ok : ∀ k, k < 0 → parseFieldDescriptor (TJ9 k).2.2.1 = some (tyJ9 k) := by decide +kernel
abbrev cJ9_max_7cf53 : ByteArray := prog_14_method_65_code
def yJ9_max_7cf53 : MethodName := ⟨RJ9, "max", "(II)I"⟩
abbrev cJ9_min_7cf53 : ByteArray := prog_14_method_69_code
def yJ9_min_7cf53 : MethodName := ⟨RJ9, "min", "(II)I"⟩
def RJ0 : String := "java/lang/String"
def TJ0 : u_T := fun k => match k with
  | _ => ("", "", "", false)
def tyJ0 : Nat → FieldType := fun k => match k with
  | _ => .int
abbrev wsJ00 : List Cond := u_ws RJ0 TJ0 0
theorem nmJ0 : ∀ a, a < 0 → ∀ b, b < 0 → a ≠ b → (TJ0 a).2.1 ≠ (TJ0 b).2.1 := by decide +kernel
theorem tyJ0_ok : ∀ k, k < 0 → parseFieldDescriptor (TJ0 k).2.2.1 = some (tyJ0 k) := by decide +kernel
abbrev cJ0_length_8abf5 : ByteArray := prog_15_method_54_code
def yJ0_length_8abf5 : MethodName := ⟨RJ0, "length", "()I"⟩
abbrev cJ0_indexOf_0f7a4 : ByteArray := prog_15_method_79_code
def yJ0_indexOf_0f7a4 : MethodName := ⟨RJ0, "indexOf", "(I)I"⟩
abbrev cJ0_indexOf_7cf53 : ByteArray := prog_15_method_80_code
def yJ0_indexOf_7cf53 : MethodName := ⟨RJ0, "indexOf", "(II)I"⟩
abbrev cJ0_coder_7d493 : ByteArray := prog_15_method_152_code
def yJ0_coder_7d493 : MethodName := ⟨RJ0, "coder", "()B"⟩
abbrev cJ0_isLatin1_aae02 : ByteArray := prog_15_method_154_code
def yJ0_isLatin1_aae02 : MethodName := ⟨RJ0, "isLatin1", "()Z"⟩
abbrev cJ0_checkBoundsBeginEnd_23922 : ByteArray := prog_15_method_158_code
def yJ0_checkBoundsBeginEnd_23922 : MethodName := ⟨RJ0, "checkBoundsBeginEnd", "(III)V"⟩
def RJ1 : String := "java/lang/StringLatin1"
def TJ1 : u_T := fun k => match k with
  | _ => ("", "", "", false)
def tyJ1 : Nat → FieldType := fun k => match k with
  | _ => .int
abbrev wsJ10 : List Cond := u_ws RJ1 TJ1 0
theorem nmJ1 : ∀ a, a < 0 → ∀ b, b < 0 → a ≠ b → (TJ1 a).2.1 ≠ (TJ1 b).2.1 := by decide +kernel
theorem tyJ1_ok : ∀ k, k < 0 → parseFieldDescriptor (TJ1 k).2.2.1 = some (tyJ1 k) := by decide +kernel
abbrev cJ1_canEncode_9a6ad : ByteArray := prog_16_method_4_code
def yJ1_canEncode_9a6ad : MethodName := ⟨RJ1, "canEncode", "(I)Z"⟩
abbrev cJ1_indexOf_4cfef : ByteArray := prog_16_method_22_code
def yJ1_indexOf_4cfef : MethodName := ⟨RJ1, "indexOf", "([BIII)I"⟩
abbrev cJ1_indexOfChar_4cfef : ByteArray := prog_16_method_23_code
def yJ1_indexOfChar_4cfef : MethodName := ⟨RJ1, "indexOfChar", "([BIII)I"⟩
def RJ2 : String := "java/lang/StringUTF16"
def TJ2 : u_T := fun k => match k with
  | _ => ("", "", "", false)
def tyJ2 : Nat → FieldType := fun k => match k with
  | _ => .int
abbrev wsJ20 : List Cond := u_ws RJ2 TJ2 0
theorem nmJ2 : ∀ a, a < 0 → ∀ b, b < 0 → a ≠ b → (TJ2 a).2.1 ≠ (TJ2 b).2.1 := by decide +kernel
theorem tyJ2_ok : ∀ k, k < 0 → parseFieldDescriptor (TJ2 k).2.2.1 = some (tyJ2 k) := by decide +kernel
abbrev cJ2_getChar_3b067 : ByteArray := prog_17_method_5_code
def yJ2_getChar_3b067 : MethodName := ⟨RJ2, "getChar", "([BI)C"⟩
abbrev cJ2_length_9d52b : ByteArray := prog_17_method_6_code
def yJ2_length_9d52b : MethodName := ⟨RJ2, "length", "([B)I"⟩
abbrev cJ2_indexOf_4cfef : ByteArray := prog_17_method_40_code
def yJ2_indexOf_4cfef : MethodName := ⟨RJ2, "indexOf", "([BIII)I"⟩
abbrev cJ2_indexOfChar_4cfef : ByteArray := prog_17_method_47_code
def yJ2_indexOfChar_4cfef : MethodName := ⟨RJ2, "indexOfChar", "([BIII)I"⟩
abbrev cJ2_indexOfCharUnsafe_4cfef : ByteArray := prog_17_method_48_code
def yJ2_indexOfCharUnsafe_4cfef : MethodName := ⟨RJ2, "indexOfCharUnsafe", "([BIII)I"⟩
abbrev cJ2_indexOfSupplementary_4cfef : ByteArray := prog_17_method_49_code
def yJ2_indexOfSupplementary_4cfef : MethodName := ⟨RJ2, "indexOfSupplementary", "([BIII)I"⟩
abbrev cJ2_checkBoundsBeginEnd_d044e : ByteArray := prog_17_method_93_code
def yJ2_checkBoundsBeginEnd_d044e : MethodName := ⟨RJ2, "checkBoundsBeginEnd", "(II[B)V"⟩
def RJ10 : String := "java/lang/System"
def TJ10 : u_T := fun k => match k with
  | _ => ("", "", "", false)
def tyJ10 : Nat → FieldType := fun k => match k with
  | _ => .int
abbrev wsJ100 : List Cond := u_ws RJ10 TJ10 0
theorem nmJ10 : ∀ a, a < 0 → ∀ b, b < 0 → a ≠ b → (TJ10 a).2.1 ≠ (TJ10 b).2.1 := by decide +kernel
theorem tyJ10_ok : ∀ k, k < 0 → parseFieldDescriptor (TJ10 k).2.2.1 = some (tyJ10 k) := by decide +kernel
def RJ3 : String := "jdk/internal/util/Preconditions"
def TJ3 : u_T := fun k => match k with
  | _ => ("", "", "", false)
def tyJ3 : Nat → FieldType := fun k => match k with
  | _ => .int
abbrev wsJ30 : List Cond := u_ws RJ3 TJ3 0
theorem nmJ3 : ∀ a, a < 0 → ∀ b, b < 0 → a ≠ b → (TJ3 a).2.1 ≠ (TJ3 b).2.1 := by decide +kernel
theorem tyJ3_ok : ∀ k, k < 0 → parseFieldDescriptor (TJ3 k).2.2.1 = some (tyJ3 k) := by decide +kernel
abbrev cJ3_checkFromToIndex_8c36e : ByteArray := prog_19_method_12_code
def yJ3_checkFromToIndex_8c36e : MethodName := ⟨RJ3, "checkFromToIndex", "(IIILjava/util/function/BiFunction;)I"⟩
def RL : String := "WalkFencesLaw"
abbrev cL_law : ByteArray := code
def yL_law : MethodName := ⟨RL, "law", "([I)Z"⟩
abbrev vwCl : List vw_C := [(RX0, TX0, 6), (RX2, TX2, 4), (RX3, TX3, 15), (RX4, TX4, 3), (RX5, TX5, 6), (RX6, TX6, 6), (RX7, TX7, 8), (RX8, TX8, 20)]
end
section
theorem dX0_init_0 : decode cX0_init 0 = .ok (.aload_n 0, 1) := by decide +kernel
theorem dX0_init_1 : decode cX0_init 1 = .ok (.invokespecial 3, 3) := by decide +kernel
theorem dX0_init_4 : decode cX0_init 4 = .ok (.aload_n 0, 1) := by decide +kernel
theorem dX0_init_5 : decode cX0_init 5 = .ok (.bipush 8, 2) := by decide +kernel
theorem dX0_init_7 : decode cX0_init 7 = .ok (.newarray .int, 2) := by decide +kernel
theorem dX0_init_9 : decode cX0_init 9 = .ok (.putfield 11, 3) := by decide +kernel
theorem dX0_init_12 : decode cX0_init 12 = .ok (.return_, 1) := by decide +kernel
theorem dX0_begin_0 : decode cX0_begin 0 = .ok (.aload_n 0, 1) := by decide +kernel
theorem dX0_begin_1 : decode cX0_begin 1 = .ok (.iload_n 1, 1) := by decide +kernel
theorem dX0_begin_2 : decode cX0_begin 2 = .ok (.bipush 10, 2) := by decide +kernel
theorem dX0_begin_4 : decode cX0_begin 4 = .ok (.idiv, 1) := by decide +kernel
theorem dX0_begin_5 : decode cX0_begin 5 = .ok (.putfield 15, 3) := by decide +kernel
theorem dX0_begin_8 : decode cX0_begin 8 = .ok (.aload_n 0, 1) := by decide +kernel
theorem dX0_begin_9 : decode cX0_begin 9 = .ok (.iload_n 1, 1) := by decide +kernel
theorem dX0_begin_10 : decode cX0_begin 10 = .ok (.bipush 10, 2) := by decide +kernel
theorem dX0_begin_12 : decode cX0_begin 12 = .ok (.irem, 1) := by decide +kernel
theorem dX0_begin_13 : decode cX0_begin 13 = .ok (.putfield 19, 3) := by decide +kernel
theorem dX0_begin_16 : decode cX0_begin 16 = .ok (.aload_n 0, 1) := by decide +kernel
theorem dX0_begin_17 : decode cX0_begin 17 = .ok (.iload_n 2, 1) := by decide +kernel
theorem dX0_begin_18 : decode cX0_begin 18 = .ok (.putfield 22, 3) := by decide +kernel
theorem dX0_begin_21 : decode cX0_begin 21 = .ok (.aload_n 0, 1) := by decide +kernel
theorem dX0_begin_22 : decode cX0_begin 22 = .ok (.iconst 0, 1) := by decide +kernel
theorem dX0_begin_23 : decode cX0_begin 23 = .ok (.putfield 25, 3) := by decide +kernel
theorem dX0_begin_26 : decode cX0_begin 26 = .ok (.aload_n 0, 1) := by decide +kernel
theorem dX0_begin_27 : decode cX0_begin 27 = .ok (.iconst 0, 1) := by decide +kernel
theorem dX0_begin_28 : decode cX0_begin 28 = .ok (.putfield 28, 3) := by decide +kernel
theorem dX0_begin_31 : decode cX0_begin 31 = .ok (.return_, 1) := by decide +kernel
theorem dX0_takeAll_0 : decode cX0_takeAll 0 = .ok (.aload_n 1, 1) := by decide +kernel
theorem dX0_takeAll_1 : decode cX0_takeAll 1 = .ok (.getfield 11, 3) := by decide +kernel
theorem dX0_takeAll_4 : decode cX0_takeAll 4 = .ok (.iconst 0, 1) := by decide +kernel
theorem dX0_takeAll_5 : decode cX0_takeAll 5 = .ok (.aload_n 0, 1) := by decide +kernel
theorem dX0_takeAll_6 : decode cX0_takeAll 6 = .ok (.getfield 11, 3) := by decide +kernel
theorem dX0_takeAll_9 : decode cX0_takeAll 9 = .ok (.iconst 0, 1) := by decide +kernel
theorem dX0_takeAll_10 : decode cX0_takeAll 10 = .ok (.bipush 8, 2) := by decide +kernel
theorem dX0_takeAll_12 : decode cX0_takeAll 12 = .ok (.invokestatic 31, 3) := by decide +kernel
theorem dX0_takeAll_15 : decode cX0_takeAll 15 = .ok (.aload_n 0, 1) := by decide +kernel
theorem dX0_takeAll_16 : decode cX0_takeAll 16 = .ok (.aload_n 1, 1) := by decide +kernel
theorem dX0_takeAll_17 : decode cX0_takeAll 17 = .ok (.getfield 25, 3) := by decide +kernel
theorem dX0_takeAll_20 : decode cX0_takeAll 20 = .ok (.putfield 25, 3) := by decide +kernel
theorem dX0_takeAll_23 : decode cX0_takeAll 23 = .ok (.aload_n 0, 1) := by decide +kernel
theorem dX0_takeAll_24 : decode cX0_takeAll 24 = .ok (.aload_n 1, 1) := by decide +kernel
theorem dX0_takeAll_25 : decode cX0_takeAll 25 = .ok (.getfield 15, 3) := by decide +kernel
theorem dX0_takeAll_28 : decode cX0_takeAll 28 = .ok (.putfield 15, 3) := by decide +kernel
theorem dX0_takeAll_31 : decode cX0_takeAll 31 = .ok (.aload_n 0, 1) := by decide +kernel
theorem dX0_takeAll_32 : decode cX0_takeAll 32 = .ok (.aload_n 1, 1) := by decide +kernel
theorem dX0_takeAll_33 : decode cX0_takeAll 33 = .ok (.getfield 19, 3) := by decide +kernel
theorem dX0_takeAll_36 : decode cX0_takeAll 36 = .ok (.putfield 19, 3) := by decide +kernel
theorem dX0_takeAll_39 : decode cX0_takeAll 39 = .ok (.aload_n 0, 1) := by decide +kernel
theorem dX0_takeAll_40 : decode cX0_takeAll 40 = .ok (.aload_n 1, 1) := by decide +kernel
theorem dX0_takeAll_41 : decode cX0_takeAll 41 = .ok (.getfield 22, 3) := by decide +kernel
theorem dX0_takeAll_44 : decode cX0_takeAll 44 = .ok (.putfield 22, 3) := by decide +kernel
theorem dX0_takeAll_47 : decode cX0_takeAll 47 = .ok (.aload_n 0, 1) := by decide +kernel
theorem dX0_takeAll_48 : decode cX0_takeAll 48 = .ok (.aload_n 1, 1) := by decide +kernel
theorem dX0_takeAll_49 : decode cX0_takeAll 49 = .ok (.getfield 28, 3) := by decide +kernel
theorem dX0_takeAll_52 : decode cX0_takeAll 52 = .ok (.putfield 28, 3) := by decide +kernel
theorem dX0_takeAll_55 : decode cX0_takeAll 55 = .ok (.return_, 1) := by decide +kernel
theorem dX0_standAt_0 : decode cX0_standAt 0 = .ok (.aload_n 0, 1) := by decide +kernel
theorem dX0_standAt_1 : decode cX0_standAt 1 = .ok (.iconst 0, 1) := by decide +kernel
theorem dX0_standAt_2 : decode cX0_standAt 2 = .ok (.putfield 25, 3) := by decide +kernel
theorem dX0_standAt_5 : decode cX0_standAt 5 = .ok (.aload_n 0, 1) := by decide +kernel
theorem dX0_standAt_6 : decode cX0_standAt 6 = .ok (.getfield 25, 3) := by decide +kernel
theorem dX0_standAt_9 : decode cX0_standAt 9 = .ok (.bipush 8, 2) := by decide +kernel
theorem dX0_standAt_11 : decode cX0_standAt 11 = .ok (.if_icmp .ge 60, 3) := by decide +kernel
theorem dX0_standAt_14 : decode cX0_standAt 14 = .ok (.aload_n 0, 1) := by decide +kernel
theorem dX0_standAt_15 : decode cX0_standAt 15 = .ok (.getfield 25, 3) := by decide +kernel
theorem dX0_standAt_18 : decode cX0_standAt 18 = .ok (.iload_n 2, 1) := by decide +kernel
theorem dX0_standAt_19 : decode cX0_standAt 19 = .ok (.if_icmp .ge 52, 3) := by decide +kernel
theorem dX0_standAt_22 : decode cX0_standAt 22 = .ok (.aload_n 0, 1) := by decide +kernel
theorem dX0_standAt_23 : decode cX0_standAt 23 = .ok (.getfield 25, 3) := by decide +kernel
theorem dX0_standAt_26 : decode cX0_standAt 26 = .ok (.aload_n 1, 1) := by decide +kernel
theorem dX0_standAt_27 : decode cX0_standAt 27 = .ok (.arraylength, 1) := by decide +kernel
theorem dX0_standAt_28 : decode cX0_standAt 28 = .ok (.if_icmp .ge 43, 3) := by decide +kernel
theorem dX0_standAt_31 : decode cX0_standAt 31 = .ok (.aload_n 1, 1) := by decide +kernel
theorem dX0_standAt_32 : decode cX0_standAt 32 = .ok (.aload_n 0, 1) := by decide +kernel
theorem dX0_standAt_33 : decode cX0_standAt 33 = .ok (.getfield 25, 3) := by decide +kernel
theorem dX0_standAt_36 : decode cX0_standAt 36 = .ok (.iaload, 1) := by decide +kernel
theorem dX0_standAt_37 : decode cX0_standAt 37 = .ok (.invokestatic 37, 3) := by decide +kernel
theorem dX0_standAt_40 : decode cX0_standAt 40 = .ok (.ifCond .eq 31, 3) := by decide +kernel
theorem dX0_standAt_43 : decode cX0_standAt 43 = .ok (.aload_n 0, 1) := by decide +kernel
theorem dX0_standAt_44 : decode cX0_standAt 44 = .ok (.getfield 11, 3) := by decide +kernel
theorem dX0_standAt_47 : decode cX0_standAt 47 = .ok (.aload_n 0, 1) := by decide +kernel
theorem dX0_standAt_48 : decode cX0_standAt 48 = .ok (.getfield 25, 3) := by decide +kernel
theorem dX0_standAt_51 : decode cX0_standAt 51 = .ok (.aload_n 1, 1) := by decide +kernel
theorem dX0_standAt_52 : decode cX0_standAt 52 = .ok (.aload_n 0, 1) := by decide +kernel
theorem dX0_standAt_53 : decode cX0_standAt 53 = .ok (.getfield 25, 3) := by decide +kernel
theorem dX0_standAt_56 : decode cX0_standAt 56 = .ok (.iaload, 1) := by decide +kernel
theorem dX0_standAt_57 : decode cX0_standAt 57 = .ok (.iastore, 1) := by decide +kernel
theorem dX0_standAt_58 : decode cX0_standAt 58 = .ok (.aload_n 0, 1) := by decide +kernel
theorem dX0_standAt_59 : decode cX0_standAt 59 = .ok (.dup, 1) := by decide +kernel
theorem dX0_standAt_60 : decode cX0_standAt 60 = .ok (.getfield 25, 3) := by decide +kernel
theorem dX0_standAt_63 : decode cX0_standAt 63 = .ok (.iconst 1, 1) := by decide +kernel
theorem dX0_standAt_64 : decode cX0_standAt 64 = .ok (.iadd, 1) := by decide +kernel
theorem dX0_standAt_65 : decode cX0_standAt 65 = .ok (.putfield 25, 3) := by decide +kernel
theorem dX0_standAt_68 : decode cX0_standAt 68 = .ok (.goto (-63), 3) := by decide +kernel
theorem dX0_standAt_71 : decode cX0_standAt 71 = .ok (.return_, 1) := by decide +kernel
theorem dX0_headsAt_0 : decode cX0_headsAt 0 = .ok (.aload_n 0, 1) := by decide +kernel
theorem dX0_headsAt_1 : decode cX0_headsAt 1 = .ok (.getfield 15, 3) := by decide +kernel
theorem dX0_headsAt_4 : decode cX0_headsAt 4 = .ok (.tableswitch 129 2 6 #[36, 52, 68, 91, 111], 36) := by decide +kernel
theorem dX0_headsAt_40 : decode cX0_headsAt 40 = .ok (.iload_n 2, 1) := by decide +kernel
theorem dX0_headsAt_41 : decode cX0_headsAt 41 = .ok (.iconst 2, 1) := by decide +kernel
theorem dX0_headsAt_42 : decode cX0_headsAt 42 = .ok (.irem, 1) := by decide +kernel
theorem dX0_headsAt_43 : decode cX0_headsAt 43 = .ok (.iconst 1, 1) := by decide +kernel
theorem dX0_headsAt_44 : decode cX0_headsAt 44 = .ok (.if_icmp .ne 7, 3) := by decide +kernel
theorem dX0_headsAt_47 : decode cX0_headsAt 47 = .ok (.iconst (-1), 1) := by decide +kernel
theorem dX0_headsAt_48 : decode cX0_headsAt 48 = .ok (.goto 7, 3) := by decide +kernel
theorem dX0_headsAt_51 : decode cX0_headsAt 51 = .ok (.aload_n 0, 1) := by decide +kernel
theorem dX0_headsAt_52 : decode cX0_headsAt 52 = .ok (.getfield 22, 3) := by decide +kernel
theorem dX0_headsAt_55 : decode cX0_headsAt 55 = .ok (.ireturn, 1) := by decide +kernel
theorem dX0_headsAt_56 : decode cX0_headsAt 56 = .ok (.aload_n 0, 1) := by decide +kernel
theorem dX0_headsAt_57 : decode cX0_headsAt 57 = .ok (.getfield 22, 3) := by decide +kernel
theorem dX0_headsAt_60 : decode cX0_headsAt 60 = .ok (.iload_n 2, 1) := by decide +kernel
theorem dX0_headsAt_61 : decode cX0_headsAt 61 = .ok (.aload_n 0, 1) := by decide +kernel
theorem dX0_headsAt_62 : decode cX0_headsAt 62 = .ok (.getfield 19, 3) := by decide +kernel
theorem dX0_headsAt_65 : decode cX0_headsAt 65 = .ok (.iconst 1, 1) := by decide +kernel
theorem dX0_headsAt_66 : decode cX0_headsAt 66 = .ok (.iadd, 1) := by decide +kernel
theorem dX0_headsAt_67 : decode cX0_headsAt 67 = .ok (.idiv, 1) := by decide +kernel
theorem dX0_headsAt_68 : decode cX0_headsAt 68 = .ok (.iadd, 1) := by decide +kernel
theorem dX0_headsAt_69 : decode cX0_headsAt 69 = .ok (.iconst 4, 1) := by decide +kernel
theorem dX0_headsAt_70 : decode cX0_headsAt 70 = .ok (.irem, 1) := by decide +kernel
theorem dX0_headsAt_71 : decode cX0_headsAt 71 = .ok (.ireturn, 1) := by decide +kernel
theorem dX0_headsAt_72 : decode cX0_headsAt 72 = .ok (.iload_n 2, 1) := by decide +kernel
theorem dX0_headsAt_73 : decode cX0_headsAt 73 = .ok (.iconst 4, 1) := by decide +kernel
theorem dX0_headsAt_74 : decode cX0_headsAt 74 = .ok (.irem, 1) := by decide +kernel
theorem dX0_headsAt_75 : decode cX0_headsAt 75 = .ok (.iconst 2, 1) := by decide +kernel
theorem dX0_headsAt_76 : decode cX0_headsAt 76 = .ok (.if_icmp .lt 14, 3) := by decide +kernel
theorem dX0_headsAt_79 : decode cX0_headsAt 79 = .ok (.aload_n 0, 1) := by decide +kernel
theorem dX0_headsAt_80 : decode cX0_headsAt 80 = .ok (.getfield 22, 3) := by decide +kernel
theorem dX0_headsAt_83 : decode cX0_headsAt 83 = .ok (.iconst 2, 1) := by decide +kernel
theorem dX0_headsAt_84 : decode cX0_headsAt 84 = .ok (.iadd, 1) := by decide +kernel
theorem dX0_headsAt_85 : decode cX0_headsAt 85 = .ok (.iconst 4, 1) := by decide +kernel
theorem dX0_headsAt_86 : decode cX0_headsAt 86 = .ok (.irem, 1) := by decide +kernel
theorem dX0_headsAt_87 : decode cX0_headsAt 87 = .ok (.goto 7, 3) := by decide +kernel
theorem dX0_headsAt_90 : decode cX0_headsAt 90 = .ok (.aload_n 0, 1) := by decide +kernel
theorem dX0_headsAt_91 : decode cX0_headsAt 91 = .ok (.getfield 22, 3) := by decide +kernel
theorem dX0_headsAt_94 : decode cX0_headsAt 94 = .ok (.ireturn, 1) := by decide +kernel
theorem dX0_headsAt_95 : decode cX0_headsAt 95 = .ok (.iload_n 1, 1) := by decide +kernel
theorem dX0_headsAt_96 : decode cX0_headsAt 96 = .ok (.ifCond .eq 10, 3) := by decide +kernel
theorem dX0_headsAt_99 : decode cX0_headsAt 99 = .ok (.iload_n 2, 1) := by decide +kernel
theorem dX0_headsAt_100 : decode cX0_headsAt 100 = .ok (.iconst 2, 1) := by decide +kernel
theorem dX0_headsAt_101 : decode cX0_headsAt 101 = .ok (.irem, 1) := by decide +kernel
theorem dX0_headsAt_102 : decode cX0_headsAt 102 = .ok (.iconst 1, 1) := by decide +kernel
theorem dX0_headsAt_103 : decode cX0_headsAt 103 = .ok (.if_icmp .ne 7, 3) := by decide +kernel
theorem dX0_headsAt_106 : decode cX0_headsAt 106 = .ok (.iconst (-1), 1) := by decide +kernel
theorem dX0_headsAt_107 : decode cX0_headsAt 107 = .ok (.goto 7, 3) := by decide +kernel
theorem dX0_headsAt_110 : decode cX0_headsAt 110 = .ok (.aload_n 0, 1) := by decide +kernel
theorem dX0_headsAt_111 : decode cX0_headsAt 111 = .ok (.getfield 22, 3) := by decide +kernel
theorem dX0_headsAt_114 : decode cX0_headsAt 114 = .ok (.ireturn, 1) := by decide +kernel
theorem dX0_headsAt_115 : decode cX0_headsAt 115 = .ok (.aload_n 0, 1) := by decide +kernel
theorem dX0_headsAt_116 : decode cX0_headsAt 116 = .ok (.getfield 19, 3) := by decide +kernel
theorem dX0_headsAt_119 : decode cX0_headsAt 119 = .ok (.bipush 9, 2) := by decide +kernel
theorem dX0_headsAt_121 : decode cX0_headsAt 121 = .ok (.if_icmp .ne 10, 3) := by decide +kernel
theorem dX0_headsAt_124 : decode cX0_headsAt 124 = .ok (.aload_n 0, 1) := by decide +kernel
theorem dX0_headsAt_125 : decode cX0_headsAt 125 = .ok (.getfield 22, 3) := by decide +kernel
theorem dX0_headsAt_128 : decode cX0_headsAt 128 = .ok (.goto 4, 3) := by decide +kernel
theorem dX0_headsAt_131 : decode cX0_headsAt 131 = .ok (.iconst (-1), 1) := by decide +kernel
theorem dX0_headsAt_132 : decode cX0_headsAt 132 = .ok (.ireturn, 1) := by decide +kernel
theorem dX0_headsAt_133 : decode cX0_headsAt 133 = .ok (.aload_n 0, 1) := by decide +kernel
theorem dX0_headsAt_134 : decode cX0_headsAt 134 = .ok (.getfield 22, 3) := by decide +kernel
theorem dX0_headsAt_137 : decode cX0_headsAt 137 = .ok (.ireturn, 1) := by decide +kernel
theorem dX0_postsMove_0 : decode cX0_postsMove 0 = .ok (.aload_n 0, 1) := by decide +kernel
theorem dX0_postsMove_1 : decode cX0_postsMove 1 = .ok (.getfield 15, 3) := by decide +kernel
theorem dX0_postsMove_4 : decode cX0_postsMove 4 = .ok (.iconst 1, 1) := by decide +kernel
theorem dX0_postsMove_5 : decode cX0_postsMove 5 = .ok (.invokestatic 43, 3) := by decide +kernel
theorem dX0_postsMove_8 : decode cX0_postsMove 8 = .ok (.ifCond .eq 9, 3) := by decide +kernel
theorem dX0_postsMove_11 : decode cX0_postsMove 11 = .ok (.lload_n 1, 1) := by decide +kernel
theorem dX0_postsMove_12 : decode cX0_postsMove 12 = .ok (.lload_n 3, 1) := by decide +kernel
theorem dX0_postsMove_13 : decode cX0_postsMove 13 = .ok (.lor, 1) := by decide +kernel
theorem dX0_postsMove_14 : decode cX0_postsMove 14 = .ok (.goto 4, 3) := by decide +kernel
theorem dX0_postsMove_17 : decode cX0_postsMove 17 = .ok (.lload_n 1, 1) := by decide +kernel
theorem dX0_postsMove_18 : decode cX0_postsMove 18 = .ok (.lstore 6, 2) := by decide +kernel
theorem dX0_postsMove_20 : decode cX0_postsMove 20 = .ok (.iconst 0, 1) := by decide +kernel
theorem dX0_postsMove_21 : decode cX0_postsMove 21 = .ok (.istore 8, 2) := by decide +kernel
theorem dX0_postsMove_23 : decode cX0_postsMove 23 = .ok (.iload 8, 2) := by decide +kernel
theorem dX0_postsMove_25 : decode cX0_postsMove 25 = .ok (.aload_n 0, 1) := by decide +kernel
theorem dX0_postsMove_26 : decode cX0_postsMove 26 = .ok (.getfield 25, 3) := by decide +kernel
theorem dX0_postsMove_29 : decode cX0_postsMove 29 = .ok (.if_icmp .ge 53, 3) := by decide +kernel
theorem dX0_postsMove_32 : decode cX0_postsMove 32 = .ok (.aload_n 0, 1) := by decide +kernel
theorem dX0_postsMove_33 : decode cX0_postsMove 33 = .ok (.getfield 11, 3) := by decide +kernel
theorem dX0_postsMove_36 : decode cX0_postsMove 36 = .ok (.iload 8, 2) := by decide +kernel
theorem dX0_postsMove_38 : decode cX0_postsMove 38 = .ok (.iaload, 1) := by decide +kernel
theorem dX0_postsMove_39 : decode cX0_postsMove 39 = .ok (.aload_n 0, 1) := by decide +kernel
theorem dX0_postsMove_40 : decode cX0_postsMove 40 = .ok (.iload 8, 2) := by decide +kernel
theorem dX0_postsMove_42 : decode cX0_postsMove 42 = .ok (.iload 5, 2) := by decide +kernel
theorem dX0_postsMove_44 : decode cX0_postsMove 44 = .ok (.invokevirtual 47, 3) := by decide +kernel
theorem dX0_postsMove_47 : decode cX0_postsMove 47 = .ok (.invokestatic 51, 3) := by decide +kernel
theorem dX0_postsMove_50 : decode cX0_postsMove 50 = .ok (.istore 9, 2) := by decide +kernel
theorem dX0_postsMove_52 : decode cX0_postsMove 52 = .ok (.iload 9, 2) := by decide +kernel
theorem dX0_postsMove_54 : decode cX0_postsMove 54 = .ok (.ifCond .lt 22, 3) := by decide +kernel
theorem dX0_postsMove_57 : decode cX0_postsMove 57 = .ok (.lload 6, 2) := by decide +kernel
theorem dX0_postsMove_59 : decode cX0_postsMove 59 = .ok (.iload 9, 2) := by decide +kernel
theorem dX0_postsMove_61 : decode cX0_postsMove 61 = .ok (.invokestatic 54, 3) := by decide +kernel
theorem dX0_postsMove_64 : decode cX0_postsMove 64 = .ok (.ifCond .ne 12, 3) := by decide +kernel
theorem dX0_postsMove_67 : decode cX0_postsMove 67 = .ok (.aload_n 0, 1) := by decide +kernel
theorem dX0_postsMove_68 : decode cX0_postsMove 68 = .ok (.getfield 11, 3) := by decide +kernel
theorem dX0_postsMove_71 : decode cX0_postsMove 71 = .ok (.iload 8, 2) := by decide +kernel
theorem dX0_postsMove_73 : decode cX0_postsMove 73 = .ok (.iload 9, 2) := by decide +kernel
theorem dX0_postsMove_75 : decode cX0_postsMove 75 = .ok (.iastore, 1) := by decide +kernel
theorem dX0_postsMove_76 : decode cX0_postsMove 76 = .ok (.iinc 8 1, 3) := by decide +kernel
theorem dX0_postsMove_79 : decode cX0_postsMove 79 = .ok (.goto (-56), 3) := by decide +kernel
theorem dX0_postsMove_82 : decode cX0_postsMove 82 = .ok (.return_, 1) := by decide +kernel
theorem dX0_tried_0 : decode cX0_tried 0 = .ok (.lconst 0, 1) := by decide +kernel
theorem dX0_tried_1 : decode cX0_tried 1 = .ok (.lstore_n 3, 1) := by decide +kernel
theorem dX0_tried_2 : decode cX0_tried 2 = .ok (.iconst 0, 1) := by decide +kernel
theorem dX0_tried_3 : decode cX0_tried 3 = .ok (.istore 5, 2) := by decide +kernel
theorem dX0_tried_5 : decode cX0_tried 5 = .ok (.iload 5, 2) := by decide +kernel
theorem dX0_tried_7 : decode cX0_tried 7 = .ok (.aload_n 0, 1) := by decide +kernel
theorem dX0_tried_8 : decode cX0_tried 8 = .ok (.getfield 25, 3) := by decide +kernel
theorem dX0_tried_11 : decode cX0_tried 11 = .ok (.if_icmp .ge 65, 3) := by decide +kernel
theorem dX0_tried_14 : decode cX0_tried 14 = .ok (.aload_n 0, 1) := by decide +kernel
theorem dX0_tried_15 : decode cX0_tried 15 = .ok (.getfield 11, 3) := by decide +kernel
theorem dX0_tried_18 : decode cX0_tried 18 = .ok (.iload 5, 2) := by decide +kernel
theorem dX0_tried_20 : decode cX0_tried 20 = .ok (.iaload, 1) := by decide +kernel
theorem dX0_tried_21 : decode cX0_tried 21 = .ok (.invokestatic 58, 3) := by decide +kernel
theorem dX0_tried_24 : decode cX0_tried 24 = .ok (.lstore 6, 2) := by decide +kernel
theorem dX0_tried_26 : decode cX0_tried 26 = .ok (.iconst 0, 1) := by decide +kernel
theorem dX0_tried_27 : decode cX0_tried 27 = .ok (.istore 8, 2) := by decide +kernel
theorem dX0_tried_29 : decode cX0_tried 29 = .ok (.iload 8, 2) := by decide +kernel
theorem dX0_tried_31 : decode cX0_tried 31 = .ok (.iload_n 2, 1) := by decide +kernel
theorem dX0_tried_32 : decode cX0_tried 32 = .ok (.if_icmp .ge 38, 3) := by decide +kernel
theorem dX0_tried_35 : decode cX0_tried 35 = .ok (.lload 6, 2) := by decide +kernel
theorem dX0_tried_37 : decode cX0_tried 37 = .ok (.aload_n 0, 1) := by decide +kernel
theorem dX0_tried_38 : decode cX0_tried 38 = .ok (.iload 5, 2) := by decide +kernel
theorem dX0_tried_40 : decode cX0_tried 40 = .ok (.iload_n 1, 1) := by decide +kernel
theorem dX0_tried_41 : decode cX0_tried 41 = .ok (.iload 8, 2) := by decide +kernel
theorem dX0_tried_43 : decode cX0_tried 43 = .ok (.iadd, 1) := by decide +kernel
theorem dX0_tried_44 : decode cX0_tried 44 = .ok (.invokevirtual 47, 3) := by decide +kernel
theorem dX0_tried_47 : decode cX0_tried 47 = .ok (.invokestatic 62, 3) := by decide +kernel
theorem dX0_tried_50 : decode cX0_tried 50 = .ok (.lstore 9, 2) := by decide +kernel
theorem dX0_tried_52 : decode cX0_tried 52 = .ok (.lload_n 3, 1) := by decide +kernel
theorem dX0_tried_53 : decode cX0_tried 53 = .ok (.lload 9, 2) := by decide +kernel
theorem dX0_tried_55 : decode cX0_tried 55 = .ok (.lor, 1) := by decide +kernel
theorem dX0_tried_56 : decode cX0_tried 56 = .ok (.lstore_n 3, 1) := by decide +kernel
theorem dX0_tried_57 : decode cX0_tried 57 = .ok (.lload 6, 2) := by decide +kernel
theorem dX0_tried_59 : decode cX0_tried 59 = .ok (.lload 9, 2) := by decide +kernel
theorem dX0_tried_61 : decode cX0_tried 61 = .ok (.lor, 1) := by decide +kernel
theorem dX0_tried_62 : decode cX0_tried 62 = .ok (.lstore 6, 2) := by decide +kernel
theorem dX0_tried_64 : decode cX0_tried 64 = .ok (.iinc 8 1, 3) := by decide +kernel
theorem dX0_tried_67 : decode cX0_tried 67 = .ok (.goto (-38), 3) := by decide +kernel
theorem dX0_tried_70 : decode cX0_tried 70 = .ok (.iinc 5 1, 3) := by decide +kernel
theorem dX0_tried_73 : decode cX0_tried 73 = .ok (.goto (-68), 3) := by decide +kernel
theorem dX0_tried_76 : decode cX0_tried 76 = .ok (.lload_n 3, 1) := by decide +kernel
theorem dX0_tried_77 : decode cX0_tried 77 = .ok (.lreturn, 1) := by decide +kernel
theorem dX0_standing_0 : decode cX0_standing 0 = .ok (.lconst 0, 1) := by decide +kernel
theorem dX0_standing_1 : decode cX0_standing 1 = .ok (.lstore_n 1, 1) := by decide +kernel
theorem dX0_standing_2 : decode cX0_standing 2 = .ok (.iconst 0, 1) := by decide +kernel
theorem dX0_standing_3 : decode cX0_standing 3 = .ok (.istore_n 3, 1) := by decide +kernel
theorem dX0_standing_4 : decode cX0_standing 4 = .ok (.iload_n 3, 1) := by decide +kernel
theorem dX0_standing_5 : decode cX0_standing 5 = .ok (.aload_n 0, 1) := by decide +kernel
theorem dX0_standing_6 : decode cX0_standing 6 = .ok (.getfield 25, 3) := by decide +kernel
theorem dX0_standing_9 : decode cX0_standing 9 = .ok (.if_icmp .ge 21, 3) := by decide +kernel
theorem dX0_standing_12 : decode cX0_standing 12 = .ok (.lload_n 1, 1) := by decide +kernel
theorem dX0_standing_13 : decode cX0_standing 13 = .ok (.aload_n 0, 1) := by decide +kernel
theorem dX0_standing_14 : decode cX0_standing 14 = .ok (.getfield 11, 3) := by decide +kernel
theorem dX0_standing_17 : decode cX0_standing 17 = .ok (.iload_n 3, 1) := by decide +kernel
theorem dX0_standing_18 : decode cX0_standing 18 = .ok (.iaload, 1) := by decide +kernel
theorem dX0_standing_19 : decode cX0_standing 19 = .ok (.invokestatic 58, 3) := by decide +kernel
theorem dX0_standing_22 : decode cX0_standing 22 = .ok (.lor, 1) := by decide +kernel
theorem dX0_standing_23 : decode cX0_standing 23 = .ok (.lstore_n 1, 1) := by decide +kernel
theorem dX0_standing_24 : decode cX0_standing 24 = .ok (.iinc 3 1, 3) := by decide +kernel
theorem dX0_standing_27 : decode cX0_standing 27 = .ok (.goto (-23), 3) := by decide +kernel
theorem dX0_standing_30 : decode cX0_standing 30 = .ok (.lload_n 1, 1) := by decide +kernel
theorem dX0_standing_31 : decode cX0_standing 31 = .ok (.lreturn, 1) := by decide +kernel
theorem dX0_inside_0 : decode cX0_inside 0 = .ok (.aload_n 0, 1) := by decide +kernel
theorem dX0_inside_1 : decode cX0_inside 1 = .ok (.invokevirtual 66, 3) := by decide +kernel
theorem dX0_inside_4 : decode cX0_inside 4 = .ok (.invokestatic 70, 3) := by decide +kernel
theorem dX0_inside_7 : decode cX0_inside 7 = .ok (.lreturn, 1) := by decide +kernel
theorem dX1_isCell_0 : decode cX1_isCell 0 = .ok (.iload_n 0, 1) := by decide +kernel
theorem dX1_isCell_1 : decode cX1_isCell 1 = .ok (.ifCond .lt 13, 3) := by decide +kernel
theorem dX1_isCell_4 : decode cX1_isCell 4 = .ok (.iload_n 0, 1) := by decide +kernel
theorem dX1_isCell_5 : decode cX1_isCell 5 = .ok (.bipush 64, 2) := by decide +kernel
theorem dX1_isCell_7 : decode cX1_isCell 7 = .ok (.if_icmp .ge 7, 3) := by decide +kernel
theorem dX1_isCell_10 : decode cX1_isCell 10 = .ok (.iconst 1, 1) := by decide +kernel
theorem dX1_isCell_11 : decode cX1_isCell 11 = .ok (.goto 4, 3) := by decide +kernel
theorem dX1_isCell_14 : decode cX1_isCell 14 = .ok (.iconst 0, 1) := by decide +kernel
theorem dX1_isCell_15 : decode cX1_isCell 15 = .ok (.ireturn, 1) := by decide +kernel
theorem dX1_bit_0 : decode cX1_bit 0 = .ok (.lconst 1, 1) := by decide +kernel
theorem dX1_bit_1 : decode cX1_bit 1 = .ok (.iload_n 0, 1) := by decide +kernel
theorem dX1_bit_2 : decode cX1_bit 2 = .ok (.lshl, 1) := by decide +kernel
theorem dX1_bit_3 : decode cX1_bit 3 = .ok (.lreturn, 1) := by decide +kernel
theorem dX1_has_0 : decode cX1_has 0 = .ok (.lload_n 0, 1) := by decide +kernel
theorem dX1_has_1 : decode cX1_has 1 = .ok (.iload_n 2, 1) := by decide +kernel
theorem dX1_has_2 : decode cX1_has 2 = .ok (.lushr, 1) := by decide +kernel
theorem dX1_has_3 : decode cX1_has 3 = .ok (.lconst 1, 1) := by decide +kernel
theorem dX1_has_4 : decode cX1_has 4 = .ok (.land, 1) := by decide +kernel
theorem dX1_has_5 : decode cX1_has 5 = .ok (.lconst 0, 1) := by decide +kernel
theorem dX1_has_6 : decode cX1_has 6 = .ok (.lcmp, 1) := by decide +kernel
theorem dX1_has_7 : decode cX1_has 7 = .ok (.ifCond .eq 7, 3) := by decide +kernel
theorem dX1_has_10 : decode cX1_has 10 = .ok (.iconst 1, 1) := by decide +kernel
theorem dX1_has_11 : decode cX1_has 11 = .ok (.goto 4, 3) := by decide +kernel
theorem dX1_has_14 : decode cX1_has 14 = .ok (.iconst 0, 1) := by decide +kernel
theorem dX1_has_15 : decode cX1_has 15 = .ok (.ireturn, 1) := by decide +kernel
theorem dX1_next_0 : decode cX1_next 0 = .ok (.iload_n 1, 1) := by decide +kernel
theorem dX1_next_1 : decode cX1_next 1 = .ok (.tableswitch 93 0 3 #[31, 46, 63, 78], 31) := by decide +kernel
theorem dX1_next_32 : decode cX1_next 32 = .ok (.iload_n 0, 1) := by decide +kernel
theorem dX1_next_33 : decode cX1_next 33 = .ok (.bipush 8, 2) := by decide +kernel
theorem dX1_next_35 : decode cX1_next 35 = .ok (.if_icmp .lt 10, 3) := by decide +kernel
theorem dX1_next_38 : decode cX1_next 38 = .ok (.iload_n 0, 1) := by decide +kernel
theorem dX1_next_39 : decode cX1_next 39 = .ok (.bipush 8, 2) := by decide +kernel
theorem dX1_next_41 : decode cX1_next 41 = .ok (.isub, 1) := by decide +kernel
theorem dX1_next_42 : decode cX1_next 42 = .ok (.goto 4, 3) := by decide +kernel
theorem dX1_next_45 : decode cX1_next 45 = .ok (.iconst (-1), 1) := by decide +kernel
theorem dX1_next_46 : decode cX1_next 46 = .ok (.ireturn, 1) := by decide +kernel
theorem dX1_next_47 : decode cX1_next 47 = .ok (.iload_n 0, 1) := by decide +kernel
theorem dX1_next_48 : decode cX1_next 48 = .ok (.bipush 8, 2) := by decide +kernel
theorem dX1_next_50 : decode cX1_next 50 = .ok (.irem, 1) := by decide +kernel
theorem dX1_next_51 : decode cX1_next 51 = .ok (.bipush 7, 2) := by decide +kernel
theorem dX1_next_53 : decode cX1_next 53 = .ok (.if_icmp .ge 9, 3) := by decide +kernel
theorem dX1_next_56 : decode cX1_next 56 = .ok (.iload_n 0, 1) := by decide +kernel
theorem dX1_next_57 : decode cX1_next 57 = .ok (.iconst 1, 1) := by decide +kernel
theorem dX1_next_58 : decode cX1_next 58 = .ok (.iadd, 1) := by decide +kernel
theorem dX1_next_59 : decode cX1_next 59 = .ok (.goto 4, 3) := by decide +kernel
theorem dX1_next_62 : decode cX1_next 62 = .ok (.iconst (-1), 1) := by decide +kernel
theorem dX1_next_63 : decode cX1_next 63 = .ok (.ireturn, 1) := by decide +kernel
theorem dX1_next_64 : decode cX1_next 64 = .ok (.iload_n 0, 1) := by decide +kernel
theorem dX1_next_65 : decode cX1_next 65 = .ok (.bipush 56, 2) := by decide +kernel
theorem dX1_next_67 : decode cX1_next 67 = .ok (.if_icmp .ge 10, 3) := by decide +kernel
theorem dX1_next_70 : decode cX1_next 70 = .ok (.iload_n 0, 1) := by decide +kernel
theorem dX1_next_71 : decode cX1_next 71 = .ok (.bipush 8, 2) := by decide +kernel
theorem dX1_next_73 : decode cX1_next 73 = .ok (.iadd, 1) := by decide +kernel
theorem dX1_next_74 : decode cX1_next 74 = .ok (.goto 4, 3) := by decide +kernel
theorem dX1_next_77 : decode cX1_next 77 = .ok (.iconst (-1), 1) := by decide +kernel
theorem dX1_next_78 : decode cX1_next 78 = .ok (.ireturn, 1) := by decide +kernel
theorem dX1_next_79 : decode cX1_next 79 = .ok (.iload_n 0, 1) := by decide +kernel
theorem dX1_next_80 : decode cX1_next 80 = .ok (.bipush 8, 2) := by decide +kernel
theorem dX1_next_82 : decode cX1_next 82 = .ok (.irem, 1) := by decide +kernel
theorem dX1_next_83 : decode cX1_next 83 = .ok (.ifCond .le 9, 3) := by decide +kernel
theorem dX1_next_86 : decode cX1_next 86 = .ok (.iload_n 0, 1) := by decide +kernel
theorem dX1_next_87 : decode cX1_next 87 = .ok (.iconst 1, 1) := by decide +kernel
theorem dX1_next_88 : decode cX1_next 88 = .ok (.isub, 1) := by decide +kernel
theorem dX1_next_89 : decode cX1_next 89 = .ok (.goto 4, 3) := by decide +kernel
theorem dX1_next_92 : decode cX1_next 92 = .ok (.iconst (-1), 1) := by decide +kernel
theorem dX1_next_93 : decode cX1_next 93 = .ok (.ireturn, 1) := by decide +kernel
theorem dX1_next_94 : decode cX1_next 94 = .ok (.iconst (-1), 1) := by decide +kernel
theorem dX1_next_95 : decode cX1_next 95 = .ok (.ireturn, 1) := by decide +kernel
theorem dX1_nextOf_0 : decode cX1_nextOf 0 = .ok (.iload_n 2, 1) := by decide +kernel
theorem dX1_nextOf_1 : decode cX1_nextOf 1 = .ok (.tableswitch 57 0 3 #[31, 36, 44, 49], 31) := by decide +kernel
theorem dX1_nextOf_32 : decode cX1_nextOf 32 = .ok (.lload_n 0, 1) := by decide +kernel
theorem dX1_nextOf_33 : decode cX1_nextOf 33 = .ok (.bipush 8, 2) := by decide +kernel
theorem dX1_nextOf_35 : decode cX1_nextOf 35 = .ok (.lushr, 1) := by decide +kernel
theorem dX1_nextOf_36 : decode cX1_nextOf 36 = .ok (.lreturn, 1) := by decide +kernel
theorem dX1_nextOf_37 : decode cX1_nextOf 37 = .ok (.lload_n 0, 1) := by decide +kernel
theorem dX1_nextOf_38 : decode cX1_nextOf 38 = .ok (.ldc2_w 9, 3) := by decide +kernel
theorem dX1_nextOf_41 : decode cX1_nextOf 41 = .ok (.land, 1) := by decide +kernel
theorem dX1_nextOf_42 : decode cX1_nextOf 42 = .ok (.iconst 1, 1) := by decide +kernel
theorem dX1_nextOf_43 : decode cX1_nextOf 43 = .ok (.lshl, 1) := by decide +kernel
theorem dX1_nextOf_44 : decode cX1_nextOf 44 = .ok (.lreturn, 1) := by decide +kernel
theorem dX1_nextOf_45 : decode cX1_nextOf 45 = .ok (.lload_n 0, 1) := by decide +kernel
theorem dX1_nextOf_46 : decode cX1_nextOf 46 = .ok (.bipush 8, 2) := by decide +kernel
theorem dX1_nextOf_48 : decode cX1_nextOf 48 = .ok (.lshl, 1) := by decide +kernel
theorem dX1_nextOf_49 : decode cX1_nextOf 49 = .ok (.lreturn, 1) := by decide +kernel
theorem dX1_nextOf_50 : decode cX1_nextOf 50 = .ok (.lload_n 0, 1) := by decide +kernel
theorem dX1_nextOf_51 : decode cX1_nextOf 51 = .ok (.ldc2_w 11, 3) := by decide +kernel
theorem dX1_nextOf_54 : decode cX1_nextOf 54 = .ok (.land, 1) := by decide +kernel
theorem dX1_nextOf_55 : decode cX1_nextOf 55 = .ok (.iconst 1, 1) := by decide +kernel
theorem dX1_nextOf_56 : decode cX1_nextOf 56 = .ok (.lushr, 1) := by decide +kernel
theorem dX1_nextOf_57 : decode cX1_nextOf 57 = .ok (.lreturn, 1) := by decide +kernel
theorem dX1_nextOf_58 : decode cX1_nextOf 58 = .ok (.lconst 0, 1) := by decide +kernel
theorem dX1_nextOf_59 : decode cX1_nextOf 59 = .ok (.lreturn, 1) := by decide +kernel
theorem dX1_beside_0 : decode cX1_beside 0 = .ok (.lload_n 0, 1) := by decide +kernel
theorem dX1_beside_1 : decode cX1_beside 1 = .ok (.iconst 0, 1) := by decide +kernel
theorem dX1_beside_2 : decode cX1_beside 2 = .ok (.invokestatic 13, 3) := by decide +kernel
theorem dX1_beside_5 : decode cX1_beside 5 = .ok (.lload_n 0, 1) := by decide +kernel
theorem dX1_beside_6 : decode cX1_beside 6 = .ok (.iconst 1, 1) := by decide +kernel
theorem dX1_beside_7 : decode cX1_beside 7 = .ok (.invokestatic 13, 3) := by decide +kernel
theorem dX1_beside_10 : decode cX1_beside 10 = .ok (.lor, 1) := by decide +kernel
theorem dX1_beside_11 : decode cX1_beside 11 = .ok (.lload_n 0, 1) := by decide +kernel
theorem dX1_beside_12 : decode cX1_beside 12 = .ok (.iconst 2, 1) := by decide +kernel
theorem dX1_beside_13 : decode cX1_beside 13 = .ok (.invokestatic 13, 3) := by decide +kernel
theorem dX1_beside_16 : decode cX1_beside 16 = .ok (.lor, 1) := by decide +kernel
theorem dX1_beside_17 : decode cX1_beside 17 = .ok (.lload_n 0, 1) := by decide +kernel
theorem dX1_beside_18 : decode cX1_beside 18 = .ok (.iconst 3, 1) := by decide +kernel
theorem dX1_beside_19 : decode cX1_beside 19 = .ok (.invokestatic 13, 3) := by decide +kernel
theorem dX1_beside_22 : decode cX1_beside 22 = .ok (.lor, 1) := by decide +kernel
theorem dX1_beside_23 : decode cX1_beside 23 = .ok (.lreturn, 1) := by decide +kernel
theorem dX1_inside_0 : decode cX1_inside 0 = .ok (.lload_n 0, 1) := by decide +kernel
theorem dX1_inside_1 : decode cX1_inside 1 = .ok (.ldc2_w 17, 3) := by decide +kernel
theorem dX1_inside_4 : decode cX1_inside 4 = .ok (.lxor, 1) := by decide +kernel
theorem dX1_inside_5 : decode cX1_inside 5 = .ok (.lstore_n 2, 1) := by decide +kernel
theorem dX1_inside_6 : decode cX1_inside 6 = .ok (.ldc2_w 19, 3) := by decide +kernel
theorem dX1_inside_9 : decode cX1_inside 9 = .ok (.lload_n 2, 1) := by decide +kernel
theorem dX1_inside_10 : decode cX1_inside 10 = .ok (.land, 1) := by decide +kernel
theorem dX1_inside_11 : decode cX1_inside 11 = .ok (.lstore 4, 2) := by decide +kernel
theorem dX1_inside_13 : decode cX1_inside 13 = .ok (.iconst 0, 1) := by decide +kernel
theorem dX1_inside_14 : decode cX1_inside 14 = .ok (.istore 6, 2) := by decide +kernel
theorem dX1_inside_16 : decode cX1_inside 16 = .ok (.iload 6, 2) := by decide +kernel
theorem dX1_inside_18 : decode cX1_inside 18 = .ok (.bipush 64, 2) := by decide +kernel
theorem dX1_inside_20 : decode cX1_inside 20 = .ok (.if_icmp .ge 36, 3) := by decide +kernel
theorem dX1_inside_23 : decode cX1_inside 23 = .ok (.lload 4, 2) := by decide +kernel
theorem dX1_inside_25 : decode cX1_inside 25 = .ok (.lload 4, 2) := by decide +kernel
theorem dX1_inside_27 : decode cX1_inside 27 = .ok (.invokestatic 21, 3) := by decide +kernel
theorem dX1_inside_30 : decode cX1_inside 30 = .ok (.lload_n 2, 1) := by decide +kernel
theorem dX1_inside_31 : decode cX1_inside 31 = .ok (.land, 1) := by decide +kernel
theorem dX1_inside_32 : decode cX1_inside 32 = .ok (.lor, 1) := by decide +kernel
theorem dX1_inside_33 : decode cX1_inside 33 = .ok (.lstore 7, 2) := by decide +kernel
theorem dX1_inside_35 : decode cX1_inside 35 = .ok (.lload 7, 2) := by decide +kernel
theorem dX1_inside_37 : decode cX1_inside 37 = .ok (.lload 4, 2) := by decide +kernel
theorem dX1_inside_39 : decode cX1_inside 39 = .ok (.lcmp, 1) := by decide +kernel
theorem dX1_inside_40 : decode cX1_inside 40 = .ok (.ifCond .ne 6, 3) := by decide +kernel
theorem dX1_inside_43 : decode cX1_inside 43 = .ok (.goto 13, 3) := by decide +kernel
theorem dX1_inside_46 : decode cX1_inside 46 = .ok (.lload 7, 2) := by decide +kernel
theorem dX1_inside_48 : decode cX1_inside 48 = .ok (.lstore 4, 2) := by decide +kernel
theorem dX1_inside_50 : decode cX1_inside 50 = .ok (.iinc 6 1, 3) := by decide +kernel
theorem dX1_inside_53 : decode cX1_inside 53 = .ok (.goto (-37), 3) := by decide +kernel
theorem dX1_inside_56 : decode cX1_inside 56 = .ok (.lload_n 2, 1) := by decide +kernel
theorem dX1_inside_57 : decode cX1_inside 57 = .ok (.lload 4, 2) := by decide +kernel
theorem dX1_inside_59 : decode cX1_inside 59 = .ok (.ldc2_w 17, 3) := by decide +kernel
theorem dX1_inside_62 : decode cX1_inside 62 = .ok (.lxor, 1) := by decide +kernel
theorem dX1_inside_63 : decode cX1_inside 63 = .ok (.land, 1) := by decide +kernel
theorem dX1_inside_64 : decode cX1_inside 64 = .ok (.lreturn, 1) := by decide +kernel
theorem dX2_init_0 : decode cX2_init 0 = .ok (.aload_n 0, 1) := by decide +kernel
theorem dX2_init_1 : decode cX2_init 1 = .ok (.invokespecial 1, 3) := by decide +kernel
theorem dX2_init_4 : decode cX2_init 4 = .ok (.aload_n 0, 1) := by decide +kernel
theorem dX2_init_5 : decode cX2_init 5 = .ok (.bipush 60, 2) := by decide +kernel
theorem dX2_init_7 : decode cX2_init 7 = .ok (.newarray .int, 2) := by decide +kernel
theorem dX2_init_9 : decode cX2_init 9 = .ok (.putfield 9, 3) := by decide +kernel
theorem dX2_init_12 : decode cX2_init 12 = .ok (.aload_n 0, 1) := by decide +kernel
theorem dX2_init_13 : decode cX2_init 13 = .ok (.bipush 60, 2) := by decide +kernel
theorem dX2_init_15 : decode cX2_init 15 = .ok (.newarray .int, 2) := by decide +kernel
theorem dX2_init_17 : decode cX2_init 17 = .ok (.putfield 15, 3) := by decide +kernel
theorem dX2_init_20 : decode cX2_init 20 = .ok (.aload_n 0, 1) := by decide +kernel
theorem dX2_init_21 : decode cX2_init 21 = .ok (.iload_n 1, 1) := by decide +kernel
theorem dX2_init_22 : decode cX2_init 22 = .ok (.putfield 18, 3) := by decide +kernel
theorem dX2_init_25 : decode cX2_init 25 = .ok (.return_, 1) := by decide +kernel
theorem dX2_namesOf_0 : decode cX2_namesOf 0 = .ok (.iload_n 0, 1) := by decide +kernel
theorem dX2_namesOf_1 : decode cX2_namesOf 1 = .ok (.ifCond .ne 8, 3) := by decide +kernel
theorem dX2_namesOf_4 : decode cX2_namesOf 4 = .ok (.ldc 22, 2) := by decide +kernel
theorem dX2_namesOf_6 : decode cX2_namesOf 6 = .ok (.goto 5, 3) := by decide +kernel
theorem dX2_namesOf_9 : decode cX2_namesOf 9 = .ok (.ldc 24, 2) := by decide +kernel
theorem dX2_namesOf_11 : decode cX2_namesOf 11 = .ok (.areturn, 1) := by decide +kernel
theorem dX2_takeCode_0 : decode cX2_takeCode 0 = .ok (.aload_n 0, 1) := by decide +kernel
theorem dX2_takeCode_1 : decode cX2_takeCode 1 = .ok (.iconst 0, 1) := by decide +kernel
theorem dX2_takeCode_2 : decode cX2_takeCode 2 = .ok (.iload_n 2, 1) := by decide +kernel
theorem dX2_takeCode_3 : decode cX2_takeCode 3 = .ok (.aload_n 1, 1) := by decide +kernel
theorem dX2_takeCode_4 : decode cX2_takeCode 4 = .ok (.arraylength, 1) := by decide +kernel
theorem dX2_takeCode_5 : decode cX2_takeCode 5 = .ok (.aload_n 0, 1) := by decide +kernel
theorem dX2_takeCode_6 : decode cX2_takeCode 6 = .ok (.getfield 15, 3) := by decide +kernel
theorem dX2_takeCode_9 : decode cX2_takeCode 9 = .ok (.arraylength, 1) := by decide +kernel
theorem dX2_takeCode_10 : decode cX2_takeCode 10 = .ok (.invokestatic 26, 3) := by decide +kernel
theorem dX2_takeCode_13 : decode cX2_takeCode 13 = .ok (.invokestatic 26, 3) := by decide +kernel
theorem dX2_takeCode_16 : decode cX2_takeCode 16 = .ok (.invokestatic 32, 3) := by decide +kernel
theorem dX2_takeCode_19 : decode cX2_takeCode 19 = .ok (.putfield 35, 3) := by decide +kernel
theorem dX2_takeCode_22 : decode cX2_takeCode 22 = .ok (.aload_n 1, 1) := by decide +kernel
theorem dX2_takeCode_23 : decode cX2_takeCode 23 = .ok (.iconst 0, 1) := by decide +kernel
theorem dX2_takeCode_24 : decode cX2_takeCode 24 = .ok (.aload_n 0, 1) := by decide +kernel
theorem dX2_takeCode_25 : decode cX2_takeCode 25 = .ok (.getfield 15, 3) := by decide +kernel
theorem dX2_takeCode_28 : decode cX2_takeCode 28 = .ok (.iconst 0, 1) := by decide +kernel
theorem dX2_takeCode_29 : decode cX2_takeCode 29 = .ok (.aload_n 0, 1) := by decide +kernel
theorem dX2_takeCode_30 : decode cX2_takeCode 30 = .ok (.getfield 35, 3) := by decide +kernel
theorem dX2_takeCode_33 : decode cX2_takeCode 33 = .ok (.invokestatic 38, 3) := by decide +kernel
theorem dX2_takeCode_36 : decode cX2_takeCode 36 = .ok (.return_, 1) := by decide +kernel
theorem dX2_gives_0 : decode cX2_gives 0 = .ok (.aload_n 0, 1) := by decide +kernel
theorem dX2_gives_1 : decode cX2_gives 1 = .ok (.getfield 18, 3) := by decide +kernel
theorem dX2_gives_4 : decode cX2_gives 4 = .ok (.ifCond .ne 38, 3) := by decide +kernel
theorem dX2_gives_7 : decode cX2_gives 7 = .ok (.aload_n 0, 1) := by decide +kernel
theorem dX2_gives_8 : decode cX2_gives 8 = .ok (.getfield 35, 3) := by decide +kernel
theorem dX2_gives_11 : decode cX2_gives 11 = .ok (.ifCond .le 13, 3) := by decide +kernel
theorem dX2_gives_14 : decode cX2_gives 14 = .ok (.aload_n 0, 1) := by decide +kernel
theorem dX2_gives_15 : decode cX2_gives 15 = .ok (.iload_n 1, 1) := by decide +kernel
theorem dX2_gives_16 : decode cX2_gives 16 = .ok (.iload_n 2, 1) := by decide +kernel
theorem dX2_gives_17 : decode cX2_gives 17 = .ok (.iload_n 3, 1) := by decide +kernel
theorem dX2_gives_18 : decode cX2_gives 18 = .ok (.invokevirtual 44, 3) := by decide +kernel
theorem dX2_gives_21 : decode cX2_gives 21 = .ok (.goto 6, 3) := by decide +kernel
theorem dX2_gives_24 : decode cX2_gives 24 = .ok (.iload_n 1, 1) := by decide +kernel
theorem dX2_gives_25 : decode cX2_gives 25 = .ok (.iload_n 2, 1) := by decide +kernel
theorem dX2_gives_26 : decode cX2_gives 26 = .ok (.iadd, 1) := by decide +kernel
theorem dX2_gives_27 : decode cX2_gives 27 = .ok (.istore 4, 2) := by decide +kernel
theorem dX2_gives_29 : decode cX2_gives 29 = .ok (.iconst 0, 1) := by decide +kernel
theorem dX2_gives_30 : decode cX2_gives 30 = .ok (.sipush 999, 3) := by decide +kernel
theorem dX2_gives_33 : decode cX2_gives 33 = .ok (.iload 4, 2) := by decide +kernel
theorem dX2_gives_35 : decode cX2_gives 35 = .ok (.invokestatic 26, 3) := by decide +kernel
theorem dX2_gives_38 : decode cX2_gives 38 = .ok (.invokestatic 32, 3) := by decide +kernel
theorem dX2_gives_41 : decode cX2_gives 41 = .ok (.ireturn, 1) := by decide +kernel
theorem dX2_gives_42 : decode cX2_gives 42 = .ok (.aload_n 0, 1) := by decide +kernel
theorem dX2_gives_43 : decode cX2_gives 43 = .ok (.getfield 35, 3) := by decide +kernel
theorem dX2_gives_46 : decode cX2_gives 46 = .ok (.ifCond .le 13, 3) := by decide +kernel
theorem dX2_gives_49 : decode cX2_gives 49 = .ok (.aload_n 0, 1) := by decide +kernel
theorem dX2_gives_50 : decode cX2_gives 50 = .ok (.iload_n 1, 1) := by decide +kernel
theorem dX2_gives_51 : decode cX2_gives 51 = .ok (.iload_n 2, 1) := by decide +kernel
theorem dX2_gives_52 : decode cX2_gives 52 = .ok (.iload_n 3, 1) := by decide +kernel
theorem dX2_gives_53 : decode cX2_gives 53 = .ok (.invokevirtual 44, 3) := by decide +kernel
theorem dX2_gives_56 : decode cX2_gives 56 = .ok (.goto 6, 3) := by decide +kernel
theorem dX2_gives_59 : decode cX2_gives 59 = .ok (.iload_n 2, 1) := by decide +kernel
theorem dX2_gives_60 : decode cX2_gives 60 = .ok (.iconst 1, 1) := by decide +kernel
theorem dX2_gives_61 : decode cX2_gives 61 = .ok (.iadd, 1) := by decide +kernel
theorem dX2_gives_62 : decode cX2_gives 62 = .ok (.istore 4, 2) := by decide +kernel
theorem dX2_gives_64 : decode cX2_gives 64 = .ok (.bipush (-9), 2) := by decide +kernel
theorem dX2_gives_66 : decode cX2_gives 66 = .ok (.bipush 9, 2) := by decide +kernel
theorem dX2_gives_68 : decode cX2_gives 68 = .ok (.iload 4, 2) := by decide +kernel
theorem dX2_gives_70 : decode cX2_gives 70 = .ok (.invokestatic 26, 3) := by decide +kernel
theorem dX2_gives_73 : decode cX2_gives 73 = .ok (.invokestatic 32, 3) := by decide +kernel
theorem dX2_gives_76 : decode cX2_gives 76 = .ok (.ireturn, 1) := by decide +kernel
theorem dX2_workedOut_0 : decode cX2_workedOut 0 = .ok (.iconst 0, 1) := by decide +kernel
theorem dX2_workedOut_1 : decode cX2_workedOut 1 = .ok (.istore 4, 2) := by decide +kernel
theorem dX2_workedOut_3 : decode cX2_workedOut 3 = .ok (.iconst 0, 1) := by decide +kernel
theorem dX2_workedOut_4 : decode cX2_workedOut 4 = .ok (.istore 5, 2) := by decide +kernel
theorem dX2_workedOut_6 : decode cX2_workedOut 6 = .ok (.iload 5, 2) := by decide +kernel
theorem dX2_workedOut_8 : decode cX2_workedOut 8 = .ok (.aload_n 0, 1) := by decide +kernel
theorem dX2_workedOut_9 : decode cX2_workedOut 9 = .ok (.getfield 35, 3) := by decide +kernel
theorem dX2_workedOut_12 : decode cX2_workedOut 12 = .ok (.if_icmp .ge 165, 3) := by decide +kernel
theorem dX2_workedOut_15 : decode cX2_workedOut 15 = .ok (.aload_n 0, 1) := by decide +kernel
theorem dX2_workedOut_16 : decode cX2_workedOut 16 = .ok (.getfield 15, 3) := by decide +kernel
theorem dX2_workedOut_19 : decode cX2_workedOut 19 = .ok (.iload 5, 2) := by decide +kernel
theorem dX2_workedOut_21 : decode cX2_workedOut 21 = .ok (.iaload, 1) := by decide +kernel
theorem dX2_workedOut_22 : decode cX2_workedOut 22 = .ok (.istore 6, 2) := by decide +kernel
theorem dX2_workedOut_24 : decode cX2_workedOut 24 = .ok (.iload 6, 2) := by decide +kernel
theorem dX2_workedOut_26 : decode cX2_workedOut 26 = .ok (.bipush (-33), 2) := by decide +kernel
theorem dX2_workedOut_28 : decode cX2_workedOut 28 = .ok (.if_icmp .ne 41, 3) := by decide +kernel
theorem dX2_workedOut_31 : decode cX2_workedOut 31 = .ok (.iload 4, 2) := by decide +kernel
theorem dX2_workedOut_33 : decode cX2_workedOut 33 = .ok (.iconst 1, 1) := by decide +kernel
theorem dX2_workedOut_34 : decode cX2_workedOut 34 = .ok (.if_icmp .lt 137, 3) := by decide +kernel
theorem dX2_workedOut_37 : decode cX2_workedOut 37 = .ok (.aload_n 0, 1) := by decide +kernel
theorem dX2_workedOut_38 : decode cX2_workedOut 38 = .ok (.getfield 9, 3) := by decide +kernel
theorem dX2_workedOut_41 : decode cX2_workedOut 41 = .ok (.iload 4, 2) := by decide +kernel
theorem dX2_workedOut_43 : decode cX2_workedOut 43 = .ok (.iconst 1, 1) := by decide +kernel
theorem dX2_workedOut_44 : decode cX2_workedOut 44 = .ok (.isub, 1) := by decide +kernel
theorem dX2_workedOut_45 : decode cX2_workedOut 45 = .ok (.aload_n 0, 1) := by decide +kernel
theorem dX2_workedOut_46 : decode cX2_workedOut 46 = .ok (.getfield 9, 3) := by decide +kernel
theorem dX2_workedOut_49 : decode cX2_workedOut 49 = .ok (.iload 4, 2) := by decide +kernel
theorem dX2_workedOut_51 : decode cX2_workedOut 51 = .ok (.iconst 1, 1) := by decide +kernel
theorem dX2_workedOut_52 : decode cX2_workedOut 52 = .ok (.isub, 1) := by decide +kernel
theorem dX2_workedOut_53 : decode cX2_workedOut 53 = .ok (.iaload, 1) := by decide +kernel
theorem dX2_workedOut_54 : decode cX2_workedOut 54 = .ok (.ifCond .ne 7, 3) := by decide +kernel
theorem dX2_workedOut_57 : decode cX2_workedOut 57 = .ok (.iconst 1, 1) := by decide +kernel
theorem dX2_workedOut_58 : decode cX2_workedOut 58 = .ok (.goto 4, 3) := by decide +kernel
theorem dX2_workedOut_61 : decode cX2_workedOut 61 = .ok (.iconst 0, 1) := by decide +kernel
theorem dX2_workedOut_62 : decode cX2_workedOut 62 = .ok (.invokestatic 50, 3) := by decide +kernel
theorem dX2_workedOut_65 : decode cX2_workedOut 65 = .ok (.iastore, 1) := by decide +kernel
theorem dX2_workedOut_66 : decode cX2_workedOut 66 = .ok (.goto 105, 3) := by decide +kernel
theorem dX2_workedOut_69 : decode cX2_workedOut 69 = .ok (.iload 6, 2) := by decide +kernel
theorem dX2_workedOut_71 : decode cX2_workedOut 71 = .ok (.bipush (-3), 2) := by decide +kernel
theorem dX2_workedOut_73 : decode cX2_workedOut 73 = .ok (.if_icmp .ge 46, 3) := by decide +kernel
theorem dX2_workedOut_76 : decode cX2_workedOut 76 = .ok (.iload 4, 2) := by decide +kernel
theorem dX2_workedOut_78 : decode cX2_workedOut 78 = .ok (.iconst 2, 1) := by decide +kernel
theorem dX2_workedOut_79 : decode cX2_workedOut 79 = .ok (.if_icmp .lt 92, 3) := by decide +kernel
theorem dX2_workedOut_82 : decode cX2_workedOut 82 = .ok (.iinc 4 (-1), 3) := by decide +kernel
theorem dX2_workedOut_85 : decode cX2_workedOut 85 = .ok (.aload_n 0, 1) := by decide +kernel
theorem dX2_workedOut_86 : decode cX2_workedOut 86 = .ok (.getfield 9, 3) := by decide +kernel
theorem dX2_workedOut_89 : decode cX2_workedOut 89 = .ok (.iload 4, 2) := by decide +kernel
theorem dX2_workedOut_91 : decode cX2_workedOut 91 = .ok (.iconst 1, 1) := by decide +kernel
theorem dX2_workedOut_92 : decode cX2_workedOut 92 = .ok (.isub, 1) := by decide +kernel
theorem dX2_workedOut_93 : decode cX2_workedOut 93 = .ok (.iload 6, 2) := by decide +kernel
theorem dX2_workedOut_95 : decode cX2_workedOut 95 = .ok (.ineg, 1) := by decide +kernel
theorem dX2_workedOut_96 : decode cX2_workedOut 96 = .ok (.aload_n 0, 1) := by decide +kernel
theorem dX2_workedOut_97 : decode cX2_workedOut 97 = .ok (.getfield 9, 3) := by decide +kernel
theorem dX2_workedOut_100 : decode cX2_workedOut 100 = .ok (.iload 4, 2) := by decide +kernel
theorem dX2_workedOut_102 : decode cX2_workedOut 102 = .ok (.iconst 1, 1) := by decide +kernel
theorem dX2_workedOut_103 : decode cX2_workedOut 103 = .ok (.isub, 1) := by decide +kernel
theorem dX2_workedOut_104 : decode cX2_workedOut 104 = .ok (.iaload, 1) := by decide +kernel
theorem dX2_workedOut_105 : decode cX2_workedOut 105 = .ok (.aload_n 0, 1) := by decide +kernel
theorem dX2_workedOut_106 : decode cX2_workedOut 106 = .ok (.getfield 9, 3) := by decide +kernel
theorem dX2_workedOut_109 : decode cX2_workedOut 109 = .ok (.iload 4, 2) := by decide +kernel
theorem dX2_workedOut_111 : decode cX2_workedOut 111 = .ok (.iaload, 1) := by decide +kernel
theorem dX2_workedOut_112 : decode cX2_workedOut 112 = .ok (.invokestatic 54, 3) := by decide +kernel
theorem dX2_workedOut_115 : decode cX2_workedOut 115 = .ok (.iastore, 1) := by decide +kernel
theorem dX2_workedOut_116 : decode cX2_workedOut 116 = .ok (.goto 55, 3) := by decide +kernel
theorem dX2_workedOut_119 : decode cX2_workedOut 119 = .ok (.iload 4, 2) := by decide +kernel
theorem dX2_workedOut_121 : decode cX2_workedOut 121 = .ok (.aload_n 0, 1) := by decide +kernel
theorem dX2_workedOut_122 : decode cX2_workedOut 122 = .ok (.getfield 9, 3) := by decide +kernel
theorem dX2_workedOut_125 : decode cX2_workedOut 125 = .ok (.arraylength, 1) := by decide +kernel
theorem dX2_workedOut_126 : decode cX2_workedOut 126 = .ok (.if_icmp .ge 45, 3) := by decide +kernel
theorem dX2_workedOut_129 : decode cX2_workedOut 129 = .ok (.aload_n 0, 1) := by decide +kernel
theorem dX2_workedOut_130 : decode cX2_workedOut 130 = .ok (.getfield 9, 3) := by decide +kernel
theorem dX2_workedOut_133 : decode cX2_workedOut 133 = .ok (.iload 4, 2) := by decide +kernel
theorem dX2_workedOut_135 : decode cX2_workedOut 135 = .ok (.iload 6, 2) := by decide +kernel
theorem dX2_workedOut_137 : decode cX2_workedOut 137 = .ok (.ifCond .lt 8, 3) := by decide +kernel
theorem dX2_workedOut_140 : decode cX2_workedOut 140 = .ok (.iload 6, 2) := by decide +kernel
theorem dX2_workedOut_142 : decode cX2_workedOut 142 = .ok (.goto 25, 3) := by decide +kernel
theorem dX2_workedOut_145 : decode cX2_workedOut 145 = .ok (.iload 6, 2) := by decide +kernel
theorem dX2_workedOut_147 : decode cX2_workedOut 147 = .ok (.iconst (-1), 1) := by decide +kernel
theorem dX2_workedOut_148 : decode cX2_workedOut 148 = .ok (.if_icmp .ne 7, 3) := by decide +kernel
theorem dX2_workedOut_151 : decode cX2_workedOut 151 = .ok (.iload_n 1, 1) := by decide +kernel
theorem dX2_workedOut_152 : decode cX2_workedOut 152 = .ok (.goto 15, 3) := by decide +kernel
theorem dX2_workedOut_155 : decode cX2_workedOut 155 = .ok (.iload 6, 2) := by decide +kernel
theorem dX2_workedOut_157 : decode cX2_workedOut 157 = .ok (.bipush (-2), 2) := by decide +kernel
theorem dX2_workedOut_159 : decode cX2_workedOut 159 = .ok (.if_icmp .ne 7, 3) := by decide +kernel
theorem dX2_workedOut_162 : decode cX2_workedOut 162 = .ok (.iload_n 2, 1) := by decide +kernel
theorem dX2_workedOut_163 : decode cX2_workedOut 163 = .ok (.goto 4, 3) := by decide +kernel
theorem dX2_workedOut_166 : decode cX2_workedOut 166 = .ok (.iload_n 3, 1) := by decide +kernel
theorem dX2_workedOut_167 : decode cX2_workedOut 167 = .ok (.iastore, 1) := by decide +kernel
theorem dX2_workedOut_168 : decode cX2_workedOut 168 = .ok (.iinc 4 1, 3) := by decide +kernel
theorem dX2_workedOut_171 : decode cX2_workedOut 171 = .ok (.iinc 5 1, 3) := by decide +kernel
theorem dX2_workedOut_174 : decode cX2_workedOut 174 = .ok (.goto (-168), 3) := by decide +kernel
theorem dX2_workedOut_177 : decode cX2_workedOut 177 = .ok (.aload_n 0, 1) := by decide +kernel
theorem dX2_workedOut_178 : decode cX2_workedOut 178 = .ok (.getfield 9, 3) := by decide +kernel
theorem dX2_workedOut_181 : decode cX2_workedOut 181 = .ok (.iconst 0, 1) := by decide +kernel
theorem dX2_workedOut_182 : decode cX2_workedOut 182 = .ok (.iaload, 1) := by decide +kernel
theorem dX2_workedOut_183 : decode cX2_workedOut 183 = .ok (.ireturn, 1) := by decide +kernel
theorem dX2_joined_0 : decode cX2_joined 0 = .ok (.iload_n 0, 1) := by decide +kernel
theorem dX2_joined_1 : decode cX2_joined 1 = .ok (.lookupswitch 183 #[(38, 100), (42, 167), (43, 159), (45, 163), (47, 171), (60, 117), (61, 131), (62, 145), (124, 83)], 83) := by decide +kernel
theorem dX2_joined_84 : decode cX2_joined 84 = .ok (.iload_n 1, 1) := by decide +kernel
theorem dX2_joined_85 : decode cX2_joined 85 = .ok (.ifCond .ne 7, 3) := by decide +kernel
theorem dX2_joined_88 : decode cX2_joined 88 = .ok (.iload_n 2, 1) := by decide +kernel
theorem dX2_joined_89 : decode cX2_joined 89 = .ok (.ifCond .eq 7, 3) := by decide +kernel
theorem dX2_joined_92 : decode cX2_joined 92 = .ok (.iconst 1, 1) := by decide +kernel
theorem dX2_joined_93 : decode cX2_joined 93 = .ok (.goto 4, 3) := by decide +kernel
theorem dX2_joined_96 : decode cX2_joined 96 = .ok (.iconst 0, 1) := by decide +kernel
theorem dX2_joined_97 : decode cX2_joined 97 = .ok (.invokestatic 50, 3) := by decide +kernel
theorem dX2_joined_100 : decode cX2_joined 100 = .ok (.ireturn, 1) := by decide +kernel
theorem dX2_joined_101 : decode cX2_joined 101 = .ok (.iload_n 1, 1) := by decide +kernel
theorem dX2_joined_102 : decode cX2_joined 102 = .ok (.ifCond .eq 11, 3) := by decide +kernel
theorem dX2_joined_105 : decode cX2_joined 105 = .ok (.iload_n 2, 1) := by decide +kernel
theorem dX2_joined_106 : decode cX2_joined 106 = .ok (.ifCond .eq 7, 3) := by decide +kernel
theorem dX2_joined_109 : decode cX2_joined 109 = .ok (.iconst 1, 1) := by decide +kernel
theorem dX2_joined_110 : decode cX2_joined 110 = .ok (.goto 4, 3) := by decide +kernel
theorem dX2_joined_113 : decode cX2_joined 113 = .ok (.iconst 0, 1) := by decide +kernel
theorem dX2_joined_114 : decode cX2_joined 114 = .ok (.invokestatic 50, 3) := by decide +kernel
theorem dX2_joined_117 : decode cX2_joined 117 = .ok (.ireturn, 1) := by decide +kernel
theorem dX2_joined_118 : decode cX2_joined 118 = .ok (.iload_n 1, 1) := by decide +kernel
theorem dX2_joined_119 : decode cX2_joined 119 = .ok (.iload_n 2, 1) := by decide +kernel
theorem dX2_joined_120 : decode cX2_joined 120 = .ok (.if_icmp .ge 7, 3) := by decide +kernel
theorem dX2_joined_123 : decode cX2_joined 123 = .ok (.iconst 1, 1) := by decide +kernel
theorem dX2_joined_124 : decode cX2_joined 124 = .ok (.goto 4, 3) := by decide +kernel
theorem dX2_joined_127 : decode cX2_joined 127 = .ok (.iconst 0, 1) := by decide +kernel
theorem dX2_joined_128 : decode cX2_joined 128 = .ok (.invokestatic 50, 3) := by decide +kernel
theorem dX2_joined_131 : decode cX2_joined 131 = .ok (.ireturn, 1) := by decide +kernel
theorem dX2_joined_132 : decode cX2_joined 132 = .ok (.iload_n 1, 1) := by decide +kernel
theorem dX2_joined_133 : decode cX2_joined 133 = .ok (.iload_n 2, 1) := by decide +kernel
theorem dX2_joined_134 : decode cX2_joined 134 = .ok (.if_icmp .ne 7, 3) := by decide +kernel
theorem dX2_joined_137 : decode cX2_joined 137 = .ok (.iconst 1, 1) := by decide +kernel
theorem dX2_joined_138 : decode cX2_joined 138 = .ok (.goto 4, 3) := by decide +kernel
theorem dX2_joined_141 : decode cX2_joined 141 = .ok (.iconst 0, 1) := by decide +kernel
theorem dX2_joined_142 : decode cX2_joined 142 = .ok (.invokestatic 50, 3) := by decide +kernel
theorem dX2_joined_145 : decode cX2_joined 145 = .ok (.ireturn, 1) := by decide +kernel
theorem dX2_joined_146 : decode cX2_joined 146 = .ok (.iload_n 1, 1) := by decide +kernel
theorem dX2_joined_147 : decode cX2_joined 147 = .ok (.iload_n 2, 1) := by decide +kernel
theorem dX2_joined_148 : decode cX2_joined 148 = .ok (.if_icmp .le 7, 3) := by decide +kernel
theorem dX2_joined_151 : decode cX2_joined 151 = .ok (.iconst 1, 1) := by decide +kernel
theorem dX2_joined_152 : decode cX2_joined 152 = .ok (.goto 4, 3) := by decide +kernel
theorem dX2_joined_155 : decode cX2_joined 155 = .ok (.iconst 0, 1) := by decide +kernel
theorem dX2_joined_156 : decode cX2_joined 156 = .ok (.invokestatic 50, 3) := by decide +kernel
theorem dX2_joined_159 : decode cX2_joined 159 = .ok (.ireturn, 1) := by decide +kernel
theorem dX2_joined_160 : decode cX2_joined 160 = .ok (.iload_n 1, 1) := by decide +kernel
theorem dX2_joined_161 : decode cX2_joined 161 = .ok (.iload_n 2, 1) := by decide +kernel
theorem dX2_joined_162 : decode cX2_joined 162 = .ok (.iadd, 1) := by decide +kernel
theorem dX2_joined_163 : decode cX2_joined 163 = .ok (.ireturn, 1) := by decide +kernel
theorem dX2_joined_164 : decode cX2_joined 164 = .ok (.iload_n 1, 1) := by decide +kernel
theorem dX2_joined_165 : decode cX2_joined 165 = .ok (.iload_n 2, 1) := by decide +kernel
theorem dX2_joined_166 : decode cX2_joined 166 = .ok (.isub, 1) := by decide +kernel
theorem dX2_joined_167 : decode cX2_joined 167 = .ok (.ireturn, 1) := by decide +kernel
theorem dX2_joined_168 : decode cX2_joined 168 = .ok (.iload_n 1, 1) := by decide +kernel
theorem dX2_joined_169 : decode cX2_joined 169 = .ok (.iload_n 2, 1) := by decide +kernel
theorem dX2_joined_170 : decode cX2_joined 170 = .ok (.imul, 1) := by decide +kernel
theorem dX2_joined_171 : decode cX2_joined 171 = .ok (.ireturn, 1) := by decide +kernel
theorem dX2_joined_172 : decode cX2_joined 172 = .ok (.iload_n 2, 1) := by decide +kernel
theorem dX2_joined_173 : decode cX2_joined 173 = .ok (.ifCond .ne 7, 3) := by decide +kernel
theorem dX2_joined_176 : decode cX2_joined 176 = .ok (.iconst 0, 1) := by decide +kernel
theorem dX2_joined_177 : decode cX2_joined 177 = .ok (.goto 6, 3) := by decide +kernel
theorem dX2_joined_180 : decode cX2_joined 180 = .ok (.iload_n 1, 1) := by decide +kernel
theorem dX2_joined_181 : decode cX2_joined 181 = .ok (.iload_n 2, 1) := by decide +kernel
theorem dX2_joined_182 : decode cX2_joined 182 = .ok (.idiv, 1) := by decide +kernel
theorem dX2_joined_183 : decode cX2_joined 183 = .ok (.ireturn, 1) := by decide +kernel
theorem dX2_joined_184 : decode cX2_joined 184 = .ok (.iload_n 2, 1) := by decide +kernel
theorem dX2_joined_185 : decode cX2_joined 185 = .ok (.ifCond .ne 7, 3) := by decide +kernel
theorem dX2_joined_188 : decode cX2_joined 188 = .ok (.iconst 0, 1) := by decide +kernel
theorem dX2_joined_189 : decode cX2_joined 189 = .ok (.goto 6, 3) := by decide +kernel
theorem dX2_joined_192 : decode cX2_joined 192 = .ok (.iload_n 1, 1) := by decide +kernel
theorem dX2_joined_193 : decode cX2_joined 193 = .ok (.iload_n 2, 1) := by decide +kernel
theorem dX2_joined_194 : decode cX2_joined 194 = .ok (.irem, 1) := by decide +kernel
theorem dX2_joined_195 : decode cX2_joined 195 = .ok (.ireturn, 1) := by decide +kernel
theorem dX2_truth_0 : decode cX2_truth 0 = .ok (.iload_n 0, 1) := by decide +kernel
theorem dX2_truth_1 : decode cX2_truth 1 = .ok (.ifCond .eq 7, 3) := by decide +kernel
theorem dX2_truth_4 : decode cX2_truth 4 = .ok (.iconst 1, 1) := by decide +kernel
theorem dX2_truth_5 : decode cX2_truth 5 = .ok (.goto 4, 3) := by decide +kernel
theorem dX2_truth_8 : decode cX2_truth 8 = .ok (.iconst 0, 1) := by decide +kernel
theorem dX2_truth_9 : decode cX2_truth 9 = .ok (.ireturn, 1) := by decide +kernel
theorem dX3_init_0 : decode cX3_init 0 = .ok (.aload_n 0, 1) := by decide +kernel
theorem dX3_init_1 : decode cX3_init 1 = .ok (.invokespecial 1, 3) := by decide +kernel
theorem dX3_init_4 : decode cX3_init 4 = .ok (.aload_n 0, 1) := by decide +kernel
theorem dX3_init_5 : decode cX3_init 5 = .ok (.iconst 4, 1) := by decide +kernel
theorem dX3_init_6 : decode cX3_init 6 = .ok (.anewarray 9, 3) := by decide +kernel
theorem dX3_init_9 : decode cX3_init 9 = .ok (.putfield 11, 3) := by decide +kernel
theorem dX3_init_12 : decode cX3_init 12 = .ok (.aload_n 0, 1) := by decide +kernel
theorem dX3_init_13 : decode cX3_init 13 = .ok (.bipush 6, 2) := by decide +kernel
theorem dX3_init_15 : decode cX3_init 15 = .ok (.newarray .int, 2) := by decide +kernel
theorem dX3_init_17 : decode cX3_init 17 = .ok (.putfield 15, 3) := by decide +kernel
theorem dX3_init_20 : decode cX3_init 20 = .ok (.aload_n 0, 1) := by decide +kernel
theorem dX3_init_21 : decode cX3_init 21 = .ok (.bipush 6, 2) := by decide +kernel
theorem dX3_init_23 : decode cX3_init 23 = .ok (.newarray .int, 2) := by decide +kernel
theorem dX3_init_25 : decode cX3_init 25 = .ok (.putfield 19, 3) := by decide +kernel
theorem dX3_init_28 : decode cX3_init 28 = .ok (.aload_n 0, 1) := by decide +kernel
theorem dX3_init_29 : decode cX3_init 29 = .ok (.iconst 1, 1) := by decide +kernel
theorem dX3_init_30 : decode cX3_init 30 = .ok (.putfield 22, 3) := by decide +kernel
theorem dX3_init_33 : decode cX3_init 33 = .ok (.aload_n 0, 1) := by decide +kernel
theorem dX3_init_34 : decode cX3_init 34 = .ok (.bipush 60, 2) := by decide +kernel
theorem dX3_init_36 : decode cX3_init 36 = .ok (.newarray .byte, 2) := by decide +kernel
theorem dX3_init_38 : decode cX3_init 38 = .ok (.putfield 26, 3) := by decide +kernel
theorem dX3_init_41 : decode cX3_init 41 = .ok (.aload_n 0, 1) := by decide +kernel
theorem dX3_init_42 : decode cX3_init 42 = .ok (.iconst 2, 1) := by decide +kernel
theorem dX3_init_43 : decode cX3_init 43 = .ok (.anewarray 30, 3) := by decide +kernel
theorem dX3_init_46 : decode cX3_init 46 = .ok (.putfield 32, 3) := by decide +kernel
theorem dX3_init_49 : decode cX3_init 49 = .ok (.aload_n 0, 1) := by decide +kernel
theorem dX3_init_50 : decode cX3_init 50 = .ok (.bipush 24, 2) := by decide +kernel
theorem dX3_init_52 : decode cX3_init 52 = .ok (.newarray .int, 2) := by decide +kernel
theorem dX3_init_54 : decode cX3_init 54 = .ok (.putfield 36, 3) := by decide +kernel
theorem dX3_init_57 : decode cX3_init 57 = .ok (.aload_n 0, 1) := by decide +kernel
theorem dX3_init_58 : decode cX3_init 58 = .ok (.iconst 4, 1) := by decide +kernel
theorem dX3_init_59 : decode cX3_init 59 = .ok (.newarray .long, 2) := by decide +kernel
theorem dX3_init_61 : decode cX3_init 61 = .ok (.putfield 39, 3) := by decide +kernel
theorem dX3_init_64 : decode cX3_init 64 = .ok (.iconst 0, 1) := by decide +kernel
theorem dX3_init_65 : decode cX3_init 65 = .ok (.istore_n 1, 1) := by decide +kernel
theorem dX3_init_66 : decode cX3_init 66 = .ok (.iload_n 1, 1) := by decide +kernel
theorem dX3_init_67 : decode cX3_init 67 = .ok (.iconst 4, 1) := by decide +kernel
theorem dX3_init_68 : decode cX3_init 68 = .ok (.if_icmp .ge 22, 3) := by decide +kernel
theorem dX3_init_71 : decode cX3_init 71 = .ok (.aload_n 0, 1) := by decide +kernel
theorem dX3_init_72 : decode cX3_init 72 = .ok (.getfield 11, 3) := by decide +kernel
theorem dX3_init_75 : decode cX3_init 75 = .ok (.iload_n 1, 1) := by decide +kernel
theorem dX3_init_76 : decode cX3_init 76 = .ok (.new 9, 3) := by decide +kernel
theorem dX3_init_79 : decode cX3_init 79 = .ok (.dup, 1) := by decide +kernel
theorem dX3_init_80 : decode cX3_init 80 = .ok (.invokespecial 43, 3) := by decide +kernel
theorem dX3_init_83 : decode cX3_init 83 = .ok (.aastore, 1) := by decide +kernel
theorem dX3_init_84 : decode cX3_init 84 = .ok (.iinc 1 1, 3) := by decide +kernel
theorem dX3_init_87 : decode cX3_init 87 = .ok (.goto (-21), 3) := by decide +kernel
theorem dX3_init_90 : decode cX3_init 90 = .ok (.aload_n 0, 1) := by decide +kernel
theorem dX3_init_91 : decode cX3_init 91 = .ok (.getfield 32, 3) := by decide +kernel
theorem dX3_init_94 : decode cX3_init 94 = .ok (.iconst 0, 1) := by decide +kernel
theorem dX3_init_95 : decode cX3_init 95 = .ok (.new 30, 3) := by decide +kernel
theorem dX3_init_98 : decode cX3_init 98 = .ok (.dup, 1) := by decide +kernel
theorem dX3_init_99 : decode cX3_init 99 = .ok (.iconst 0, 1) := by decide +kernel
theorem dX3_init_100 : decode cX3_init 100 = .ok (.invokespecial 44, 3) := by decide +kernel
theorem dX3_init_103 : decode cX3_init 103 = .ok (.aastore, 1) := by decide +kernel
theorem dX3_init_104 : decode cX3_init 104 = .ok (.aload_n 0, 1) := by decide +kernel
theorem dX3_init_105 : decode cX3_init 105 = .ok (.getfield 32, 3) := by decide +kernel
theorem dX3_init_108 : decode cX3_init 108 = .ok (.iconst 1, 1) := by decide +kernel
theorem dX3_init_109 : decode cX3_init 109 = .ok (.new 30, 3) := by decide +kernel
theorem dX3_init_112 : decode cX3_init 112 = .ok (.dup, 1) := by decide +kernel
theorem dX3_init_113 : decode cX3_init 113 = .ok (.iconst 1, 1) := by decide +kernel
theorem dX3_init_114 : decode cX3_init 114 = .ok (.invokespecial 44, 3) := by decide +kernel
theorem dX3_init_117 : decode cX3_init 117 = .ok (.aastore, 1) := by decide +kernel
theorem dX3_init_118 : decode cX3_init 118 = .ok (.return_, 1) := by decide +kernel
theorem dX3_takeAll_0 : decode cX3_takeAll 0 = .ok (.iconst 0, 1) := by decide +kernel
theorem dX3_takeAll_1 : decode cX3_takeAll 1 = .ok (.istore_n 2, 1) := by decide +kernel
theorem dX3_takeAll_2 : decode cX3_takeAll 2 = .ok (.iload_n 2, 1) := by decide +kernel
theorem dX3_takeAll_3 : decode cX3_takeAll 3 = .ok (.iconst 4, 1) := by decide +kernel
theorem dX3_takeAll_4 : decode cX3_takeAll 4 = .ok (.if_icmp .ge 24, 3) := by decide +kernel
theorem dX3_takeAll_7 : decode cX3_takeAll 7 = .ok (.aload_n 0, 1) := by decide +kernel
theorem dX3_takeAll_8 : decode cX3_takeAll 8 = .ok (.getfield 11, 3) := by decide +kernel
theorem dX3_takeAll_11 : decode cX3_takeAll 11 = .ok (.iload_n 2, 1) := by decide +kernel
theorem dX3_takeAll_12 : decode cX3_takeAll 12 = .ok (.aaload, 1) := by decide +kernel
theorem dX3_takeAll_13 : decode cX3_takeAll 13 = .ok (.aload_n 1, 1) := by decide +kernel
theorem dX3_takeAll_14 : decode cX3_takeAll 14 = .ok (.getfield 11, 3) := by decide +kernel
theorem dX3_takeAll_17 : decode cX3_takeAll 17 = .ok (.iload_n 2, 1) := by decide +kernel
theorem dX3_takeAll_18 : decode cX3_takeAll 18 = .ok (.aaload, 1) := by decide +kernel
theorem dX3_takeAll_19 : decode cX3_takeAll 19 = .ok (.invokevirtual 47, 3) := by decide +kernel
theorem dX3_takeAll_22 : decode cX3_takeAll 22 = .ok (.iinc 2 1, 3) := by decide +kernel
theorem dX3_takeAll_25 : decode cX3_takeAll 25 = .ok (.goto (-23), 3) := by decide +kernel
theorem dX3_takeAll_28 : decode cX3_takeAll 28 = .ok (.aload_n 0, 1) := by decide +kernel
theorem dX3_takeAll_29 : decode cX3_takeAll 29 = .ok (.aload_n 1, 1) := by decide +kernel
theorem dX3_takeAll_30 : decode cX3_takeAll 30 = .ok (.getfield 51, 3) := by decide +kernel
theorem dX3_takeAll_33 : decode cX3_takeAll 33 = .ok (.putfield 51, 3) := by decide +kernel
theorem dX3_takeAll_36 : decode cX3_takeAll 36 = .ok (.aload_n 1, 1) := by decide +kernel
theorem dX3_takeAll_37 : decode cX3_takeAll 37 = .ok (.getfield 15, 3) := by decide +kernel
theorem dX3_takeAll_40 : decode cX3_takeAll 40 = .ok (.iconst 0, 1) := by decide +kernel
theorem dX3_takeAll_41 : decode cX3_takeAll 41 = .ok (.aload_n 0, 1) := by decide +kernel
theorem dX3_takeAll_42 : decode cX3_takeAll 42 = .ok (.getfield 15, 3) := by decide +kernel
theorem dX3_takeAll_45 : decode cX3_takeAll 45 = .ok (.iconst 0, 1) := by decide +kernel
theorem dX3_takeAll_46 : decode cX3_takeAll 46 = .ok (.bipush 6, 2) := by decide +kernel
theorem dX3_takeAll_48 : decode cX3_takeAll 48 = .ok (.invokestatic 54, 3) := by decide +kernel
theorem dX3_takeAll_51 : decode cX3_takeAll 51 = .ok (.aload_n 1, 1) := by decide +kernel
theorem dX3_takeAll_52 : decode cX3_takeAll 52 = .ok (.getfield 19, 3) := by decide +kernel
theorem dX3_takeAll_55 : decode cX3_takeAll 55 = .ok (.iconst 0, 1) := by decide +kernel
theorem dX3_takeAll_56 : decode cX3_takeAll 56 = .ok (.aload_n 0, 1) := by decide +kernel
theorem dX3_takeAll_57 : decode cX3_takeAll 57 = .ok (.getfield 19, 3) := by decide +kernel
theorem dX3_takeAll_60 : decode cX3_takeAll 60 = .ok (.iconst 0, 1) := by decide +kernel
theorem dX3_takeAll_61 : decode cX3_takeAll 61 = .ok (.bipush 6, 2) := by decide +kernel
theorem dX3_takeAll_63 : decode cX3_takeAll 63 = .ok (.invokestatic 54, 3) := by decide +kernel
theorem dX3_takeAll_66 : decode cX3_takeAll 66 = .ok (.aload_n 0, 1) := by decide +kernel
theorem dX3_takeAll_67 : decode cX3_takeAll 67 = .ok (.aload_n 1, 1) := by decide +kernel
theorem dX3_takeAll_68 : decode cX3_takeAll 68 = .ok (.getfield 60, 3) := by decide +kernel
theorem dX3_takeAll_71 : decode cX3_takeAll 71 = .ok (.putfield 60, 3) := by decide +kernel
theorem dX3_takeAll_74 : decode cX3_takeAll 74 = .ok (.aload_n 0, 1) := by decide +kernel
theorem dX3_takeAll_75 : decode cX3_takeAll 75 = .ok (.aload_n 1, 1) := by decide +kernel
theorem dX3_takeAll_76 : decode cX3_takeAll 76 = .ok (.getfield 63, 3) := by decide +kernel
theorem dX3_takeAll_79 : decode cX3_takeAll 79 = .ok (.putfield 63, 3) := by decide +kernel
theorem dX3_takeAll_82 : decode cX3_takeAll 82 = .ok (.aload_n 0, 1) := by decide +kernel
theorem dX3_takeAll_83 : decode cX3_takeAll 83 = .ok (.aload_n 1, 1) := by decide +kernel
theorem dX3_takeAll_84 : decode cX3_takeAll 84 = .ok (.getfield 67, 3) := by decide +kernel
theorem dX3_takeAll_87 : decode cX3_takeAll 87 = .ok (.putfield 67, 3) := by decide +kernel
theorem dX3_takeAll_90 : decode cX3_takeAll 90 = .ok (.aload_n 0, 1) := by decide +kernel
theorem dX3_takeAll_91 : decode cX3_takeAll 91 = .ok (.aload_n 1, 1) := by decide +kernel
theorem dX3_takeAll_92 : decode cX3_takeAll 92 = .ok (.getfield 70, 3) := by decide +kernel
theorem dX3_takeAll_95 : decode cX3_takeAll 95 = .ok (.putfield 70, 3) := by decide +kernel
theorem dX3_takeAll_98 : decode cX3_takeAll 98 = .ok (.aload_n 0, 1) := by decide +kernel
theorem dX3_takeAll_99 : decode cX3_takeAll 99 = .ok (.aload_n 1, 1) := by decide +kernel
theorem dX3_takeAll_100 : decode cX3_takeAll 100 = .ok (.getfield 22, 3) := by decide +kernel
theorem dX3_takeAll_103 : decode cX3_takeAll 103 = .ok (.putfield 22, 3) := by decide +kernel
theorem dX3_takeAll_106 : decode cX3_takeAll 106 = .ok (.aload_n 1, 1) := by decide +kernel
theorem dX3_takeAll_107 : decode cX3_takeAll 107 = .ok (.getfield 26, 3) := by decide +kernel
theorem dX3_takeAll_110 : decode cX3_takeAll 110 = .ok (.iconst 0, 1) := by decide +kernel
theorem dX3_takeAll_111 : decode cX3_takeAll 111 = .ok (.aload_n 0, 1) := by decide +kernel
theorem dX3_takeAll_112 : decode cX3_takeAll 112 = .ok (.getfield 26, 3) := by decide +kernel
theorem dX3_takeAll_115 : decode cX3_takeAll 115 = .ok (.iconst 0, 1) := by decide +kernel
theorem dX3_takeAll_116 : decode cX3_takeAll 116 = .ok (.bipush 60, 2) := by decide +kernel
theorem dX3_takeAll_118 : decode cX3_takeAll 118 = .ok (.invokestatic 54, 3) := by decide +kernel
theorem dX3_takeAll_121 : decode cX3_takeAll 121 = .ok (.aload_n 0, 1) := by decide +kernel
theorem dX3_takeAll_122 : decode cX3_takeAll 122 = .ok (.aload_n 1, 1) := by decide +kernel
theorem dX3_takeAll_123 : decode cX3_takeAll 123 = .ok (.getfield 73, 3) := by decide +kernel
theorem dX3_takeAll_126 : decode cX3_takeAll 126 = .ok (.putfield 73, 3) := by decide +kernel
theorem dX3_takeAll_129 : decode cX3_takeAll 129 = .ok (.iconst 0, 1) := by decide +kernel
theorem dX3_takeAll_130 : decode cX3_takeAll 130 = .ok (.istore_n 2, 1) := by decide +kernel
theorem dX3_takeAll_131 : decode cX3_takeAll 131 = .ok (.iload_n 2, 1) := by decide +kernel
theorem dX3_takeAll_132 : decode cX3_takeAll 132 = .ok (.aload_n 0, 1) := by decide +kernel
theorem dX3_takeAll_133 : decode cX3_takeAll 133 = .ok (.getfield 32, 3) := by decide +kernel
theorem dX3_takeAll_136 : decode cX3_takeAll 136 = .ok (.arraylength, 1) := by decide +kernel
theorem dX3_takeAll_137 : decode cX3_takeAll 137 = .ok (.if_icmp .ge 36, 3) := by decide +kernel
theorem dX3_takeAll_140 : decode cX3_takeAll 140 = .ok (.aload_n 0, 1) := by decide +kernel
theorem dX3_takeAll_141 : decode cX3_takeAll 141 = .ok (.getfield 32, 3) := by decide +kernel
theorem dX3_takeAll_144 : decode cX3_takeAll 144 = .ok (.iload_n 2, 1) := by decide +kernel
theorem dX3_takeAll_145 : decode cX3_takeAll 145 = .ok (.aaload, 1) := by decide +kernel
theorem dX3_takeAll_146 : decode cX3_takeAll 146 = .ok (.aload_n 1, 1) := by decide +kernel
theorem dX3_takeAll_147 : decode cX3_takeAll 147 = .ok (.getfield 32, 3) := by decide +kernel
theorem dX3_takeAll_150 : decode cX3_takeAll 150 = .ok (.iload_n 2, 1) := by decide +kernel
theorem dX3_takeAll_151 : decode cX3_takeAll 151 = .ok (.aaload, 1) := by decide +kernel
theorem dX3_takeAll_152 : decode cX3_takeAll 152 = .ok (.getfield 76, 3) := by decide +kernel
theorem dX3_takeAll_155 : decode cX3_takeAll 155 = .ok (.aload_n 1, 1) := by decide +kernel
theorem dX3_takeAll_156 : decode cX3_takeAll 156 = .ok (.getfield 32, 3) := by decide +kernel
theorem dX3_takeAll_159 : decode cX3_takeAll 159 = .ok (.iload_n 2, 1) := by decide +kernel
theorem dX3_takeAll_160 : decode cX3_takeAll 160 = .ok (.aaload, 1) := by decide +kernel
theorem dX3_takeAll_161 : decode cX3_takeAll 161 = .ok (.getfield 79, 3) := by decide +kernel
theorem dX3_takeAll_164 : decode cX3_takeAll 164 = .ok (.invokevirtual 82, 3) := by decide +kernel
theorem dX3_takeAll_167 : decode cX3_takeAll 167 = .ok (.iinc 2 1, 3) := by decide +kernel
theorem dX3_takeAll_170 : decode cX3_takeAll 170 = .ok (.goto (-39), 3) := by decide +kernel
theorem dX3_takeAll_173 : decode cX3_takeAll 173 = .ok (.aload_n 1, 1) := by decide +kernel
theorem dX3_takeAll_174 : decode cX3_takeAll 174 = .ok (.getfield 36, 3) := by decide +kernel
theorem dX3_takeAll_177 : decode cX3_takeAll 177 = .ok (.iconst 0, 1) := by decide +kernel
theorem dX3_takeAll_178 : decode cX3_takeAll 178 = .ok (.aload_n 0, 1) := by decide +kernel
theorem dX3_takeAll_179 : decode cX3_takeAll 179 = .ok (.getfield 36, 3) := by decide +kernel
theorem dX3_takeAll_182 : decode cX3_takeAll 182 = .ok (.iconst 0, 1) := by decide +kernel
theorem dX3_takeAll_183 : decode cX3_takeAll 183 = .ok (.bipush 24, 2) := by decide +kernel
theorem dX3_takeAll_185 : decode cX3_takeAll 185 = .ok (.invokestatic 54, 3) := by decide +kernel
theorem dX3_takeAll_188 : decode cX3_takeAll 188 = .ok (.aload_n 0, 1) := by decide +kernel
theorem dX3_takeAll_189 : decode cX3_takeAll 189 = .ok (.aload_n 1, 1) := by decide +kernel
theorem dX3_takeAll_190 : decode cX3_takeAll 190 = .ok (.getfield 86, 3) := by decide +kernel
theorem dX3_takeAll_193 : decode cX3_takeAll 193 = .ok (.putfield 86, 3) := by decide +kernel
theorem dX3_takeAll_196 : decode cX3_takeAll 196 = .ok (.return_, 1) := by decide +kernel
theorem dX3_postsMove_0 : decode cX3_postsMove 0 = .ok (.iconst 0, 1) := by decide +kernel
theorem dX3_postsMove_1 : decode cX3_postsMove 1 = .ok (.istore_n 1, 1) := by decide +kernel
theorem dX3_postsMove_2 : decode cX3_postsMove 2 = .ok (.iload_n 1, 1) := by decide +kernel
theorem dX3_postsMove_3 : decode cX3_postsMove 3 = .ok (.aload_n 0, 1) := by decide +kernel
theorem dX3_postsMove_4 : decode cX3_postsMove 4 = .ok (.getfield 51, 3) := by decide +kernel
theorem dX3_postsMove_7 : decode cX3_postsMove 7 = .ok (.if_icmp .ge 30, 3) := by decide +kernel
theorem dX3_postsMove_10 : decode cX3_postsMove 10 = .ok (.aload_n 0, 1) := by decide +kernel
theorem dX3_postsMove_11 : decode cX3_postsMove 11 = .ok (.getfield 11, 3) := by decide +kernel
theorem dX3_postsMove_14 : decode cX3_postsMove 14 = .ok (.iload_n 1, 1) := by decide +kernel
theorem dX3_postsMove_15 : decode cX3_postsMove 15 = .ok (.aaload, 1) := by decide +kernel
theorem dX3_postsMove_16 : decode cX3_postsMove 16 = .ok (.aload_n 0, 1) := by decide +kernel
theorem dX3_postsMove_17 : decode cX3_postsMove 17 = .ok (.getfield 63, 3) := by decide +kernel
theorem dX3_postsMove_20 : decode cX3_postsMove 20 = .ok (.aload_n 0, 1) := by decide +kernel
theorem dX3_postsMove_21 : decode cX3_postsMove 21 = .ok (.getfield 67, 3) := by decide +kernel
theorem dX3_postsMove_24 : decode cX3_postsMove 24 = .ok (.aload_n 0, 1) := by decide +kernel
theorem dX3_postsMove_25 : decode cX3_postsMove 25 = .ok (.getfield 70, 3) := by decide +kernel
theorem dX3_postsMove_28 : decode cX3_postsMove 28 = .ok (.invokevirtual 89, 3) := by decide +kernel
theorem dX3_postsMove_31 : decode cX3_postsMove 31 = .ok (.iinc 1 1, 3) := by decide +kernel
theorem dX3_postsMove_34 : decode cX3_postsMove 34 = .ok (.goto (-32), 3) := by decide +kernel
theorem dX3_postsMove_37 : decode cX3_postsMove 37 = .ok (.aload_n 0, 1) := by decide +kernel
theorem dX3_postsMove_38 : decode cX3_postsMove 38 = .ok (.dup, 1) := by decide +kernel
theorem dX3_postsMove_39 : decode cX3_postsMove 39 = .ok (.getfield 70, 3) := by decide +kernel
theorem dX3_postsMove_42 : decode cX3_postsMove 42 = .ok (.iconst 1, 1) := by decide +kernel
theorem dX3_postsMove_43 : decode cX3_postsMove 43 = .ok (.iadd, 1) := by decide +kernel
theorem dX3_postsMove_44 : decode cX3_postsMove 44 = .ok (.putfield 70, 3) := by decide +kernel
theorem dX3_postsMove_47 : decode cX3_postsMove 47 = .ok (.return_, 1) := by decide +kernel
theorem dX3_dawnsCome_0 : decode cX3_dawnsCome 0 = .ok (.iconst 0, 1) := by decide +kernel
theorem dX3_dawnsCome_1 : decode cX3_dawnsCome 1 = .ok (.istore_n 2, 1) := by decide +kernel
theorem dX3_dawnsCome_2 : decode cX3_dawnsCome 2 = .ok (.iload_n 2, 1) := by decide +kernel
theorem dX3_dawnsCome_3 : decode cX3_dawnsCome 3 = .ok (.iload_n 1, 1) := by decide +kernel
theorem dX3_dawnsCome_4 : decode cX3_dawnsCome 4 = .ok (.if_icmp .ge 25, 3) := by decide +kernel
theorem dX3_dawnsCome_7 : decode cX3_dawnsCome 7 = .ok (.aload_n 0, 1) := by decide +kernel
theorem dX3_dawnsCome_8 : decode cX3_dawnsCome 8 = .ok (.invokevirtual 93, 3) := by decide +kernel
theorem dX3_dawnsCome_11 : decode cX3_dawnsCome 11 = .ok (.aload_n 0, 1) := by decide +kernel
theorem dX3_dawnsCome_12 : decode cX3_dawnsCome 12 = .ok (.invokevirtual 95, 3) := by decide +kernel
theorem dX3_dawnsCome_15 : decode cX3_dawnsCome 15 = .ok (.aload_n 0, 1) := by decide +kernel
theorem dX3_dawnsCome_16 : decode cX3_dawnsCome 16 = .ok (.invokevirtual 98, 3) := by decide +kernel
theorem dX3_dawnsCome_19 : decode cX3_dawnsCome 19 = .ok (.aload_n 0, 1) := by decide +kernel
theorem dX3_dawnsCome_20 : decode cX3_dawnsCome 20 = .ok (.invokevirtual 101, 3) := by decide +kernel
theorem dX3_dawnsCome_23 : decode cX3_dawnsCome 23 = .ok (.iinc 2 1, 3) := by decide +kernel
theorem dX3_dawnsCome_26 : decode cX3_dawnsCome 26 = .ok (.goto (-24), 3) := by decide +kernel
theorem dX3_dawnsCome_29 : decode cX3_dawnsCome 29 = .ok (.return_, 1) := by decide +kernel
theorem dX3_fencesGraze_0 : decode cX3_fencesGraze 0 = .ok (.iconst 0, 1) := by decide +kernel
theorem dX3_fencesGraze_1 : decode cX3_fencesGraze 1 = .ok (.istore_n 1, 1) := by decide +kernel
theorem dX3_fencesGraze_2 : decode cX3_fencesGraze 2 = .ok (.iload_n 1, 1) := by decide +kernel
theorem dX3_fencesGraze_3 : decode cX3_fencesGraze 3 = .ok (.aload_n 0, 1) := by decide +kernel
theorem dX3_fencesGraze_4 : decode cX3_fencesGraze 4 = .ok (.getfield 51, 3) := by decide +kernel
theorem dX3_fencesGraze_7 : decode cX3_fencesGraze 7 = .ok (.if_icmp .ge 41, 3) := by decide +kernel
theorem dX3_fencesGraze_10 : decode cX3_fencesGraze 10 = .ok (.aload_n 0, 1) := by decide +kernel
theorem dX3_fencesGraze_11 : decode cX3_fencesGraze 11 = .ok (.getfield 11, 3) := by decide +kernel
theorem dX3_fencesGraze_14 : decode cX3_fencesGraze 14 = .ok (.iload_n 1, 1) := by decide +kernel
theorem dX3_fencesGraze_15 : decode cX3_fencesGraze 15 = .ok (.aaload, 1) := by decide +kernel
theorem dX3_fencesGraze_16 : decode cX3_fencesGraze 16 = .ok (.astore_n 2, 1) := by decide +kernel
theorem dX3_fencesGraze_17 : decode cX3_fencesGraze 17 = .ok (.aload_n 2, 1) := by decide +kernel
theorem dX3_fencesGraze_18 : decode cX3_fencesGraze 18 = .ok (.ldc 104, 2) := by decide +kernel
theorem dX3_fencesGraze_20 : decode cX3_fencesGraze 20 = .ok (.aload_n 2, 1) := by decide +kernel
theorem dX3_fencesGraze_21 : decode cX3_fencesGraze 21 = .ok (.getfield 105, 3) := by decide +kernel
theorem dX3_fencesGraze_24 : decode cX3_fencesGraze 24 = .ok (.aload_n 0, 1) := by decide +kernel
theorem dX3_fencesGraze_25 : decode cX3_fencesGraze 25 = .ok (.aload_n 2, 1) := by decide +kernel
theorem dX3_fencesGraze_26 : decode cX3_fencesGraze 26 = .ok (.aload_n 0, 1) := by decide +kernel
theorem dX3_fencesGraze_27 : decode cX3_fencesGraze 27 = .ok (.getfield 39, 3) := by decide +kernel
theorem dX3_fencesGraze_30 : decode cX3_fencesGraze 30 = .ok (.iload_n 1, 1) := by decide +kernel
theorem dX3_fencesGraze_31 : decode cX3_fencesGraze 31 = .ok (.laload, 1) := by decide +kernel
theorem dX3_fencesGraze_32 : decode cX3_fencesGraze 32 = .ok (.invokevirtual 108, 3) := by decide +kernel
theorem dX3_fencesGraze_35 : decode cX3_fencesGraze 35 = .ok (.iadd, 1) := by decide +kernel
theorem dX3_fencesGraze_36 : decode cX3_fencesGraze 36 = .ok (.invokestatic 112, 3) := by decide +kernel
theorem dX3_fencesGraze_39 : decode cX3_fencesGraze 39 = .ok (.putfield 105, 3) := by decide +kernel
theorem dX3_fencesGraze_42 : decode cX3_fencesGraze 42 = .ok (.iinc 1 1, 3) := by decide +kernel
theorem dX3_fencesGraze_45 : decode cX3_fencesGraze 45 = .ok (.goto (-43), 3) := by decide +kernel
theorem dX3_fencesGraze_48 : decode cX3_fencesGraze 48 = .ok (.return_, 1) := by decide +kernel
theorem dX3_cattleFeed_0 : decode cX3_cattleFeed 0 = .ok (.iconst 0, 1) := by decide +kernel
theorem dX3_cattleFeed_1 : decode cX3_cattleFeed 1 = .ok (.istore_n 1, 1) := by decide +kernel
theorem dX3_cattleFeed_2 : decode cX3_cattleFeed 2 = .ok (.iload_n 1, 1) := by decide +kernel
theorem dX3_cattleFeed_3 : decode cX3_cattleFeed 3 = .ok (.aload_n 0, 1) := by decide +kernel
theorem dX3_cattleFeed_4 : decode cX3_cattleFeed 4 = .ok (.getfield 60, 3) := by decide +kernel
theorem dX3_cattleFeed_7 : decode cX3_cattleFeed 7 = .ok (.if_icmp .ge 66, 3) := by decide +kernel
theorem dX3_cattleFeed_10 : decode cX3_cattleFeed 10 = .ok (.aload_n 0, 1) := by decide +kernel
theorem dX3_cattleFeed_11 : decode cX3_cattleFeed 11 = .ok (.getfield 32, 3) := by decide +kernel
theorem dX3_cattleFeed_14 : decode cX3_cattleFeed 14 = .ok (.iconst 1, 1) := by decide +kernel
theorem dX3_cattleFeed_15 : decode cX3_cattleFeed 15 = .ok (.aaload, 1) := by decide +kernel
theorem dX3_cattleFeed_16 : decode cX3_cattleFeed 16 = .ok (.aload_n 0, 1) := by decide +kernel
theorem dX3_cattleFeed_17 : decode cX3_cattleFeed 17 = .ok (.getfield 15, 3) := by decide +kernel
theorem dX3_cattleFeed_20 : decode cX3_cattleFeed 20 = .ok (.iload_n 1, 1) := by decide +kernel
theorem dX3_cattleFeed_21 : decode cX3_cattleFeed 21 = .ok (.iaload, 1) := by decide +kernel
theorem dX3_cattleFeed_22 : decode cX3_cattleFeed 22 = .ok (.aload_n 0, 1) := by decide +kernel
theorem dX3_cattleFeed_23 : decode cX3_cattleFeed 23 = .ok (.aload_n 0, 1) := by decide +kernel
theorem dX3_cattleFeed_24 : decode cX3_cattleFeed 24 = .ok (.getfield 15, 3) := by decide +kernel
theorem dX3_cattleFeed_27 : decode cX3_cattleFeed 27 = .ok (.iload_n 1, 1) := by decide +kernel
theorem dX3_cattleFeed_28 : decode cX3_cattleFeed 28 = .ok (.iaload, 1) := by decide +kernel
theorem dX3_cattleFeed_29 : decode cX3_cattleFeed 29 = .ok (.invokevirtual 118, 3) := by decide +kernel
theorem dX3_cattleFeed_32 : decode cX3_cattleFeed 32 = .ok (.aload_n 0, 1) := by decide +kernel
theorem dX3_cattleFeed_33 : decode cX3_cattleFeed 33 = .ok (.getfield 70, 3) := by decide +kernel
theorem dX3_cattleFeed_36 : decode cX3_cattleFeed 36 = .ok (.bipush 7, 2) := by decide +kernel
theorem dX3_cattleFeed_38 : decode cX3_cattleFeed 38 = .ok (.irem, 1) := by decide +kernel
theorem dX3_cattleFeed_39 : decode cX3_cattleFeed 39 = .ok (.invokevirtual 122, 3) := by decide +kernel
theorem dX3_cattleFeed_42 : decode cX3_cattleFeed 42 = .ok (.istore_n 2, 1) := by decide +kernel
theorem dX3_cattleFeed_43 : decode cX3_cattleFeed 43 = .ok (.aload_n 0, 1) := by decide +kernel
theorem dX3_cattleFeed_44 : decode cX3_cattleFeed 44 = .ok (.getfield 19, 3) := by decide +kernel
theorem dX3_cattleFeed_47 : decode cX3_cattleFeed 47 = .ok (.iload_n 1, 1) := by decide +kernel
theorem dX3_cattleFeed_48 : decode cX3_cattleFeed 48 = .ok (.iconst 0, 1) := by decide +kernel
theorem dX3_cattleFeed_49 : decode cX3_cattleFeed 49 = .ok (.sipush 999, 3) := by decide +kernel
theorem dX3_cattleFeed_52 : decode cX3_cattleFeed 52 = .ok (.aload_n 0, 1) := by decide +kernel
theorem dX3_cattleFeed_53 : decode cX3_cattleFeed 53 = .ok (.getfield 19, 3) := by decide +kernel
theorem dX3_cattleFeed_56 : decode cX3_cattleFeed 56 = .ok (.iload_n 1, 1) := by decide +kernel
theorem dX3_cattleFeed_57 : decode cX3_cattleFeed 57 = .ok (.iaload, 1) := by decide +kernel
theorem dX3_cattleFeed_58 : decode cX3_cattleFeed 58 = .ok (.iload_n 2, 1) := by decide +kernel
theorem dX3_cattleFeed_59 : decode cX3_cattleFeed 59 = .ok (.iadd, 1) := by decide +kernel
theorem dX3_cattleFeed_60 : decode cX3_cattleFeed 60 = .ok (.invokestatic 112, 3) := by decide +kernel
theorem dX3_cattleFeed_63 : decode cX3_cattleFeed 63 = .ok (.invokestatic 126, 3) := by decide +kernel
theorem dX3_cattleFeed_66 : decode cX3_cattleFeed 66 = .ok (.iastore, 1) := by decide +kernel
theorem dX3_cattleFeed_67 : decode cX3_cattleFeed 67 = .ok (.iinc 1 1, 3) := by decide +kernel
theorem dX3_cattleFeed_70 : decode cX3_cattleFeed 70 = .ok (.goto (-68), 3) := by decide +kernel
theorem dX3_cattleFeed_73 : decode cX3_cattleFeed 73 = .ok (.return_, 1) := by decide +kernel
theorem dX3_graze_0 : decode cX3_graze 0 = .ok (.aload_n 0, 1) := by decide +kernel
theorem dX3_graze_1 : decode cX3_graze 1 = .ok (.getfield 32, 3) := by decide +kernel
theorem dX3_graze_4 : decode cX3_graze 4 = .ok (.iconst 0, 1) := by decide +kernel
theorem dX3_graze_5 : decode cX3_graze 5 = .ok (.aaload, 1) := by decide +kernel
theorem dX3_graze_6 : decode cX3_graze 6 = .ok (.lload_n 2, 1) := by decide +kernel
theorem dX3_graze_7 : decode cX3_graze 7 = .ok (.invokestatic 129, 3) := by decide +kernel
theorem dX3_graze_10 : decode cX3_graze 10 = .ok (.aload_n 1, 1) := by decide +kernel
theorem dX3_graze_11 : decode cX3_graze 11 = .ok (.getfield 135, 3) := by decide +kernel
theorem dX3_graze_14 : decode cX3_graze 14 = .ok (.aload_n 1, 1) := by decide +kernel
theorem dX3_graze_15 : decode cX3_graze 15 = .ok (.getfield 138, 3) := by decide +kernel
theorem dX3_graze_18 : decode cX3_graze 18 = .ok (.invokevirtual 122, 3) := by decide +kernel
theorem dX3_graze_21 : decode cX3_graze 21 = .ok (.ireturn, 1) := by decide +kernel
theorem dX3_strayByDraws_0 : decode cX3_strayByDraws 0 = .ok (.aload_n 0, 1) := by decide +kernel
theorem dX3_strayByDraws_1 : decode cX3_strayByDraws 1 = .ok (.dup, 1) := by decide +kernel
theorem dX3_strayByDraws_2 : decode cX3_strayByDraws 2 = .ok (.getfield 63, 3) := by decide +kernel
theorem dX3_strayByDraws_5 : decode cX3_strayByDraws 5 = .ok (.aload_n 0, 1) := by decide +kernel
theorem dX3_strayByDraws_6 : decode cX3_strayByDraws 6 = .ok (.invokevirtual 141, 3) := by decide +kernel
theorem dX3_strayByDraws_9 : decode cX3_strayByDraws 9 = .ok (.bipush 64, 2) := by decide +kernel
theorem dX3_strayByDraws_11 : decode cX3_strayByDraws 11 = .ok (.irem, 1) := by decide +kernel
theorem dX3_strayByDraws_12 : decode cX3_strayByDraws 12 = .ok (.invokestatic 147, 3) := by decide +kernel
theorem dX3_strayByDraws_15 : decode cX3_strayByDraws 15 = .ok (.lxor, 1) := by decide +kernel
theorem dX3_strayByDraws_16 : decode cX3_strayByDraws 16 = .ok (.putfield 63, 3) := by decide +kernel
theorem dX3_strayByDraws_19 : decode cX3_strayByDraws 19 = .ok (.aload_n 0, 1) := by decide +kernel
theorem dX3_strayByDraws_20 : decode cX3_strayByDraws 20 = .ok (.getfield 60, 3) := by decide +kernel
theorem dX3_strayByDraws_23 : decode cX3_strayByDraws 23 = .ok (.ifCond .le 40, 3) := by decide +kernel
theorem dX3_strayByDraws_26 : decode cX3_strayByDraws 26 = .ok (.aload_n 0, 1) := by decide +kernel
theorem dX3_strayByDraws_27 : decode cX3_strayByDraws 27 = .ok (.invokevirtual 141, 3) := by decide +kernel
theorem dX3_strayByDraws_30 : decode cX3_strayByDraws 30 = .ok (.aload_n 0, 1) := by decide +kernel
theorem dX3_strayByDraws_31 : decode cX3_strayByDraws 31 = .ok (.getfield 60, 3) := by decide +kernel
theorem dX3_strayByDraws_34 : decode cX3_strayByDraws 34 = .ok (.irem, 1) := by decide +kernel
theorem dX3_strayByDraws_35 : decode cX3_strayByDraws 35 = .ok (.istore_n 1, 1) := by decide +kernel
theorem dX3_strayByDraws_36 : decode cX3_strayByDraws 36 = .ok (.aload_n 0, 1) := by decide +kernel
theorem dX3_strayByDraws_37 : decode cX3_strayByDraws 37 = .ok (.getfield 15, 3) := by decide +kernel
theorem dX3_strayByDraws_40 : decode cX3_strayByDraws 40 = .ok (.iload_n 1, 1) := by decide +kernel
theorem dX3_strayByDraws_41 : decode cX3_strayByDraws 41 = .ok (.iaload, 1) := by decide +kernel
theorem dX3_strayByDraws_42 : decode cX3_strayByDraws 42 = .ok (.aload_n 0, 1) := by decide +kernel
theorem dX3_strayByDraws_43 : decode cX3_strayByDraws 43 = .ok (.invokevirtual 141, 3) := by decide +kernel
theorem dX3_strayByDraws_46 : decode cX3_strayByDraws 46 = .ok (.iconst 4, 1) := by decide +kernel
theorem dX3_strayByDraws_47 : decode cX3_strayByDraws 47 = .ok (.irem, 1) := by decide +kernel
theorem dX3_strayByDraws_48 : decode cX3_strayByDraws 48 = .ok (.invokestatic 151, 3) := by decide +kernel
theorem dX3_strayByDraws_51 : decode cX3_strayByDraws 51 = .ok (.istore_n 2, 1) := by decide +kernel
theorem dX3_strayByDraws_52 : decode cX3_strayByDraws 52 = .ok (.iload_n 2, 1) := by decide +kernel
theorem dX3_strayByDraws_53 : decode cX3_strayByDraws 53 = .ok (.ifCond .lt 10, 3) := by decide +kernel
theorem dX3_strayByDraws_56 : decode cX3_strayByDraws 56 = .ok (.aload_n 0, 1) := by decide +kernel
theorem dX3_strayByDraws_57 : decode cX3_strayByDraws 57 = .ok (.getfield 15, 3) := by decide +kernel
theorem dX3_strayByDraws_60 : decode cX3_strayByDraws 60 = .ok (.iload_n 1, 1) := by decide +kernel
theorem dX3_strayByDraws_61 : decode cX3_strayByDraws 61 = .ok (.iload_n 2, 1) := by decide +kernel
theorem dX3_strayByDraws_62 : decode cX3_strayByDraws 62 = .ok (.iastore, 1) := by decide +kernel
theorem dX3_strayByDraws_63 : decode cX3_strayByDraws 63 = .ok (.return_, 1) := by decide +kernel
theorem dX3_draw_0 : decode cX3_draw 0 = .ok (.aload_n 0, 1) := by decide +kernel
theorem dX3_draw_1 : decode cX3_draw 1 = .ok (.aload_n 0, 1) := by decide +kernel
theorem dX3_draw_2 : decode cX3_draw 2 = .ok (.getfield 22, 3) := by decide +kernel
theorem dX3_draw_5 : decode cX3_draw 5 = .ok (.ldc 154, 2) := by decide +kernel
theorem dX3_draw_7 : decode cX3_draw 7 = .ok (.imul, 1) := by decide +kernel
theorem dX3_draw_8 : decode cX3_draw 8 = .ok (.sipush 12345, 3) := by decide +kernel
theorem dX3_draw_11 : decode cX3_draw 11 = .ok (.iadd, 1) := by decide +kernel
theorem dX3_draw_12 : decode cX3_draw 12 = .ok (.putfield 22, 3) := by decide +kernel
theorem dX3_draw_15 : decode cX3_draw 15 = .ok (.aload_n 0, 1) := by decide +kernel
theorem dX3_draw_16 : decode cX3_draw 16 = .ok (.getfield 22, 3) := by decide +kernel
theorem dX3_draw_19 : decode cX3_draw 19 = .ok (.bipush 8, 2) := by decide +kernel
theorem dX3_draw_21 : decode cX3_draw 21 = .ok (.iushr, 1) := by decide +kernel
theorem dX3_draw_22 : decode cX3_draw 22 = .ok (.ireturn, 1) := by decide +kernel
theorem dX3_standing_0 : decode cX3_standing 0 = .ok (.lconst 0, 1) := by decide +kernel
theorem dX3_standing_1 : decode cX3_standing 1 = .ok (.lstore_n 1, 1) := by decide +kernel
theorem dX3_standing_2 : decode cX3_standing 2 = .ok (.iconst 0, 1) := by decide +kernel
theorem dX3_standing_3 : decode cX3_standing 3 = .ok (.istore_n 3, 1) := by decide +kernel
theorem dX3_standing_4 : decode cX3_standing 4 = .ok (.iload_n 3, 1) := by decide +kernel
theorem dX3_standing_5 : decode cX3_standing 5 = .ok (.aload_n 0, 1) := by decide +kernel
theorem dX3_standing_6 : decode cX3_standing 6 = .ok (.getfield 51, 3) := by decide +kernel
theorem dX3_standing_9 : decode cX3_standing 9 = .ok (.if_icmp .ge 21, 3) := by decide +kernel
theorem dX3_standing_12 : decode cX3_standing 12 = .ok (.lload_n 1, 1) := by decide +kernel
theorem dX3_standing_13 : decode cX3_standing 13 = .ok (.aload_n 0, 1) := by decide +kernel
theorem dX3_standing_14 : decode cX3_standing 14 = .ok (.getfield 11, 3) := by decide +kernel
theorem dX3_standing_17 : decode cX3_standing 17 = .ok (.iload_n 3, 1) := by decide +kernel
theorem dX3_standing_18 : decode cX3_standing 18 = .ok (.aaload, 1) := by decide +kernel
theorem dX3_standing_19 : decode cX3_standing 19 = .ok (.invokevirtual 155, 3) := by decide +kernel
theorem dX3_standing_22 : decode cX3_standing 22 = .ok (.lor, 1) := by decide +kernel
theorem dX3_standing_23 : decode cX3_standing 23 = .ok (.lstore_n 1, 1) := by decide +kernel
theorem dX3_standing_24 : decode cX3_standing 24 = .ok (.iinc 3 1, 3) := by decide +kernel
theorem dX3_standing_27 : decode cX3_standing 27 = .ok (.goto (-23), 3) := by decide +kernel
theorem dX3_standing_30 : decode cX3_standing 30 = .ok (.lload_n 1, 1) := by decide +kernel
theorem dX3_standing_31 : decode cX3_standing 31 = .ok (.lreturn, 1) := by decide +kernel
theorem dX3_lookInside_0 : decode cX3_lookInside 0 = .ok (.iconst 0, 1) := by decide +kernel
theorem dX3_lookInside_1 : decode cX3_lookInside 1 = .ok (.istore_n 1, 1) := by decide +kernel
theorem dX3_lookInside_2 : decode cX3_lookInside 2 = .ok (.iload_n 1, 1) := by decide +kernel
theorem dX3_lookInside_3 : decode cX3_lookInside 3 = .ok (.aload_n 0, 1) := by decide +kernel
theorem dX3_lookInside_4 : decode cX3_lookInside 4 = .ok (.getfield 51, 3) := by decide +kernel
theorem dX3_lookInside_7 : decode cX3_lookInside 7 = .ok (.if_icmp .ge 24, 3) := by decide +kernel
theorem dX3_lookInside_10 : decode cX3_lookInside 10 = .ok (.aload_n 0, 1) := by decide +kernel
theorem dX3_lookInside_11 : decode cX3_lookInside 11 = .ok (.getfield 39, 3) := by decide +kernel
theorem dX3_lookInside_14 : decode cX3_lookInside 14 = .ok (.iload_n 1, 1) := by decide +kernel
theorem dX3_lookInside_15 : decode cX3_lookInside 15 = .ok (.aload_n 0, 1) := by decide +kernel
theorem dX3_lookInside_16 : decode cX3_lookInside 16 = .ok (.getfield 11, 3) := by decide +kernel
theorem dX3_lookInside_19 : decode cX3_lookInside 19 = .ok (.iload_n 1, 1) := by decide +kernel
theorem dX3_lookInside_20 : decode cX3_lookInside 20 = .ok (.aaload, 1) := by decide +kernel
theorem dX3_lookInside_21 : decode cX3_lookInside 21 = .ok (.invokevirtual 159, 3) := by decide +kernel
theorem dX3_lookInside_24 : decode cX3_lookInside 24 = .ok (.lastore, 1) := by decide +kernel
theorem dX3_lookInside_25 : decode cX3_lookInside 25 = .ok (.iinc 1 1, 3) := by decide +kernel
theorem dX3_lookInside_28 : decode cX3_lookInside 28 = .ok (.goto (-26), 3) := by decide +kernel
theorem dX3_lookInside_31 : decode cX3_lookInside 31 = .ok (.return_, 1) := by decide +kernel
theorem dX3_brandSeen_0 : decode cX3_brandSeen 0 = .ok (.iconst 0, 1) := by decide +kernel
theorem dX3_brandSeen_1 : decode cX3_brandSeen 1 = .ok (.istore_n 2, 1) := by decide +kernel
theorem dX3_brandSeen_2 : decode cX3_brandSeen 2 = .ok (.iload_n 2, 1) := by decide +kernel
theorem dX3_brandSeen_3 : decode cX3_brandSeen 3 = .ok (.aload_n 0, 1) := by decide +kernel
theorem dX3_brandSeen_4 : decode cX3_brandSeen 4 = .ok (.getfield 51, 3) := by decide +kernel
theorem dX3_brandSeen_7 : decode cX3_brandSeen 7 = .ok (.if_icmp .ge 24, 3) := by decide +kernel
theorem dX3_brandSeen_10 : decode cX3_brandSeen 10 = .ok (.aload_n 0, 1) := by decide +kernel
theorem dX3_brandSeen_11 : decode cX3_brandSeen 11 = .ok (.getfield 39, 3) := by decide +kernel
theorem dX3_brandSeen_14 : decode cX3_brandSeen 14 = .ok (.iload_n 2, 1) := by decide +kernel
theorem dX3_brandSeen_15 : decode cX3_brandSeen 15 = .ok (.laload, 1) := by decide +kernel
theorem dX3_brandSeen_16 : decode cX3_brandSeen 16 = .ok (.iload_n 1, 1) := by decide +kernel
theorem dX3_brandSeen_17 : decode cX3_brandSeen 17 = .ok (.invokestatic 162, 3) := by decide +kernel
theorem dX3_brandSeen_20 : decode cX3_brandSeen 20 = .ok (.ifCond .eq 5, 3) := by decide +kernel
theorem dX3_brandSeen_23 : decode cX3_brandSeen 23 = .ok (.iload_n 2, 1) := by decide +kernel
theorem dX3_brandSeen_24 : decode cX3_brandSeen 24 = .ok (.ireturn, 1) := by decide +kernel
theorem dX3_brandSeen_25 : decode cX3_brandSeen 25 = .ok (.iinc 2 1, 3) := by decide +kernel
theorem dX3_brandSeen_28 : decode cX3_brandSeen 28 = .ok (.goto (-26), 3) := by decide +kernel
theorem dX3_brandSeen_31 : decode cX3_brandSeen 31 = .ok (.iconst (-1), 1) := by decide +kernel
theorem dX3_brandSeen_32 : decode cX3_brandSeen 32 = .ok (.ireturn, 1) := by decide +kernel
theorem dX3_branded_0 : decode cX3_branded 0 = .ok (.lconst 0, 1) := by decide +kernel
theorem dX3_branded_1 : decode cX3_branded 1 = .ok (.lstore_n 1, 1) := by decide +kernel
theorem dX3_branded_2 : decode cX3_branded 2 = .ok (.iconst 0, 1) := by decide +kernel
theorem dX3_branded_3 : decode cX3_branded 3 = .ok (.istore_n 3, 1) := by decide +kernel
theorem dX3_branded_4 : decode cX3_branded 4 = .ok (.iload_n 3, 1) := by decide +kernel
theorem dX3_branded_5 : decode cX3_branded 5 = .ok (.aload_n 0, 1) := by decide +kernel
theorem dX3_branded_6 : decode cX3_branded 6 = .ok (.getfield 51, 3) := by decide +kernel
theorem dX3_branded_9 : decode cX3_branded 9 = .ok (.if_icmp .ge 18, 3) := by decide +kernel
theorem dX3_branded_12 : decode cX3_branded 12 = .ok (.lload_n 1, 1) := by decide +kernel
theorem dX3_branded_13 : decode cX3_branded 13 = .ok (.aload_n 0, 1) := by decide +kernel
theorem dX3_branded_14 : decode cX3_branded 14 = .ok (.getfield 39, 3) := by decide +kernel
theorem dX3_branded_17 : decode cX3_branded 17 = .ok (.iload_n 3, 1) := by decide +kernel
theorem dX3_branded_18 : decode cX3_branded 18 = .ok (.laload, 1) := by decide +kernel
theorem dX3_branded_19 : decode cX3_branded 19 = .ok (.lor, 1) := by decide +kernel
theorem dX3_branded_20 : decode cX3_branded 20 = .ok (.lstore_n 1, 1) := by decide +kernel
theorem dX3_branded_21 : decode cX3_branded 21 = .ok (.iinc 3 1, 3) := by decide +kernel
theorem dX3_branded_24 : decode cX3_branded 24 = .ok (.goto (-20), 3) := by decide +kernel
theorem dX3_branded_27 : decode cX3_branded 27 = .ok (.lload_n 1, 1) := by decide +kernel
theorem dX3_branded_28 : decode cX3_branded 28 = .ok (.lreturn, 1) := by decide +kernel
theorem dX4_init_0 : decode cX4_init 0 = .ok (.aload_n 0, 1) := by decide +kernel
theorem dX4_init_1 : decode cX4_init 1 = .ok (.invokespecial 1, 3) := by decide +kernel
theorem dX4_init_4 : decode cX4_init 4 = .ok (.aload_n 0, 1) := by decide +kernel
theorem dX4_init_5 : decode cX4_init 5 = .ok (.bipush 24, 2) := by decide +kernel
theorem dX4_init_7 : decode cX4_init 7 = .ok (.newarray .int, 2) := by decide +kernel
theorem dX4_init_9 : decode cX4_init 9 = .ok (.putfield 9, 3) := by decide +kernel
theorem dX4_init_12 : decode cX4_init 12 = .ok (.return_, 1) := by decide +kernel
theorem dX4_isBits_0 : decode cX4_isBits 0 = .ok (.iload_n 0, 1) := by decide +kernel
theorem dX4_isBits_1 : decode cX4_isBits 1 = .ok (.ifCond .eq 21, 3) := by decide +kernel
theorem dX4_isBits_4 : decode cX4_isBits 4 = .ok (.iload_n 0, 1) := by decide +kernel
theorem dX4_isBits_5 : decode cX4_isBits 5 = .ok (.bipush 8, 2) := by decide +kernel
theorem dX4_isBits_7 : decode cX4_isBits 7 = .ok (.if_icmp .eq 15, 3) := by decide +kernel
theorem dX4_isBits_10 : decode cX4_isBits 10 = .ok (.iload_n 0, 1) := by decide +kernel
theorem dX4_isBits_11 : decode cX4_isBits 11 = .ok (.bipush 16, 2) := by decide +kernel
theorem dX4_isBits_13 : decode cX4_isBits 13 = .ok (.if_icmp .eq 9, 3) := by decide +kernel
theorem dX4_isBits_16 : decode cX4_isBits 16 = .ok (.iload_n 0, 1) := by decide +kernel
theorem dX4_isBits_17 : decode cX4_isBits 17 = .ok (.bipush 32, 2) := by decide +kernel
theorem dX4_isBits_19 : decode cX4_isBits 19 = .ok (.if_icmp .ne 7, 3) := by decide +kernel
theorem dX4_isBits_22 : decode cX4_isBits 22 = .ok (.iconst 1, 1) := by decide +kernel
theorem dX4_isBits_23 : decode cX4_isBits 23 = .ok (.goto 4, 3) := by decide +kernel
theorem dX4_isBits_26 : decode cX4_isBits 26 = .ok (.iconst 0, 1) := by decide +kernel
theorem dX4_isBits_27 : decode cX4_isBits 27 = .ok (.ireturn, 1) := by decide +kernel
theorem dX4_begin_0 : decode cX4_begin 0 = .ok (.aload_n 0, 1) := by decide +kernel
theorem dX4_begin_1 : decode cX4_begin 1 = .ok (.iload_n 1, 1) := by decide +kernel
theorem dX4_begin_2 : decode cX4_begin 2 = .ok (.putfield 13, 3) := by decide +kernel
theorem dX4_begin_5 : decode cX4_begin 5 = .ok (.aload_n 0, 1) := by decide +kernel
theorem dX4_begin_6 : decode cX4_begin 6 = .ok (.iload_n 2, 1) := by decide +kernel
theorem dX4_begin_7 : decode cX4_begin 7 = .ok (.putfield 17, 3) := by decide +kernel
theorem dX4_begin_10 : decode cX4_begin 10 = .ok (.iconst 0, 1) := by decide +kernel
theorem dX4_begin_11 : decode cX4_begin 11 = .ok (.istore_n 3, 1) := by decide +kernel
theorem dX4_begin_12 : decode cX4_begin 12 = .ok (.iload_n 3, 1) := by decide +kernel
theorem dX4_begin_13 : decode cX4_begin 13 = .ok (.bipush 24, 2) := by decide +kernel
theorem dX4_begin_15 : decode cX4_begin 15 = .ok (.if_icmp .ge 16, 3) := by decide +kernel
theorem dX4_begin_18 : decode cX4_begin 18 = .ok (.aload_n 0, 1) := by decide +kernel
theorem dX4_begin_19 : decode cX4_begin 19 = .ok (.getfield 9, 3) := by decide +kernel
theorem dX4_begin_22 : decode cX4_begin 22 = .ok (.iload_n 3, 1) := by decide +kernel
theorem dX4_begin_23 : decode cX4_begin 23 = .ok (.iconst 0, 1) := by decide +kernel
theorem dX4_begin_24 : decode cX4_begin 24 = .ok (.iastore, 1) := by decide +kernel
theorem dX4_begin_25 : decode cX4_begin 25 = .ok (.iinc 3 1, 3) := by decide +kernel
theorem dX4_begin_28 : decode cX4_begin 28 = .ok (.goto (-16), 3) := by decide +kernel
theorem dX4_begin_31 : decode cX4_begin 31 = .ok (.return_, 1) := by decide +kernel
theorem dX4_lowestBits_0 : decode cX4_lowestBits 0 = .ok (.aload_n 0, 1) := by decide +kernel
theorem dX4_lowestBits_1 : decode cX4_lowestBits 1 = .ok (.getfield 13, 3) := by decide +kernel
theorem dX4_lowestBits_4 : decode cX4_lowestBits 4 = .ok (.bipush 8, 2) := by decide +kernel
theorem dX4_lowestBits_6 : decode cX4_lowestBits 6 = .ok (.if_icmp .ne 6, 3) := by decide +kernel
theorem dX4_lowestBits_9 : decode cX4_lowestBits 9 = .ok (.iload_n 1, 1) := by decide +kernel
theorem dX4_lowestBits_10 : decode cX4_lowestBits 10 = .ok (.i2b, 1) := by decide +kernel
theorem dX4_lowestBits_11 : decode cX4_lowestBits 11 = .ok (.ireturn, 1) := by decide +kernel
theorem dX4_lowestBits_12 : decode cX4_lowestBits 12 = .ok (.aload_n 0, 1) := by decide +kernel
theorem dX4_lowestBits_13 : decode cX4_lowestBits 13 = .ok (.getfield 13, 3) := by decide +kernel
theorem dX4_lowestBits_16 : decode cX4_lowestBits 16 = .ok (.bipush 16, 2) := by decide +kernel
theorem dX4_lowestBits_18 : decode cX4_lowestBits 18 = .ok (.if_icmp .ne 8, 3) := by decide +kernel
theorem dX4_lowestBits_21 : decode cX4_lowestBits 21 = .ok (.iload_n 1, 1) := by decide +kernel
theorem dX4_lowestBits_22 : decode cX4_lowestBits 22 = .ok (.i2s, 1) := by decide +kernel
theorem dX4_lowestBits_23 : decode cX4_lowestBits 23 = .ok (.goto 4, 3) := by decide +kernel
theorem dX4_lowestBits_26 : decode cX4_lowestBits 26 = .ok (.iload_n 1, 1) := by decide +kernel
theorem dX4_lowestBits_27 : decode cX4_lowestBits 27 = .ok (.ireturn, 1) := by decide +kernel
theorem dX4_hasPart_0 : decode cX4_hasPart 0 = .ok (.iload_n 1, 1) := by decide +kernel
theorem dX4_hasPart_1 : decode cX4_hasPart 1 = .ok (.ifCond .lt 29, 3) := by decide +kernel
theorem dX4_hasPart_4 : decode cX4_hasPart 4 = .ok (.iload_n 2, 1) := by decide +kernel
theorem dX4_hasPart_5 : decode cX4_hasPart 5 = .ok (.ifCond .lt 25, 3) := by decide +kernel
theorem dX4_hasPart_8 : decode cX4_hasPart 8 = .ok (.iload_n 2, 1) := by decide +kernel
theorem dX4_hasPart_9 : decode cX4_hasPart 9 = .ok (.aload_n 0, 1) := by decide +kernel
theorem dX4_hasPart_10 : decode cX4_hasPart 10 = .ok (.getfield 17, 3) := by decide +kernel
theorem dX4_hasPart_13 : decode cX4_hasPart 13 = .ok (.if_icmp .gt 17, 3) := by decide +kernel
theorem dX4_hasPart_16 : decode cX4_hasPart 16 = .ok (.iload_n 1, 1) := by decide +kernel
theorem dX4_hasPart_17 : decode cX4_hasPart 17 = .ok (.aload_n 0, 1) := by decide +kernel
theorem dX4_hasPart_18 : decode cX4_hasPart 18 = .ok (.getfield 17, 3) := by decide +kernel
theorem dX4_hasPart_21 : decode cX4_hasPart 21 = .ok (.iload_n 2, 1) := by decide +kernel
theorem dX4_hasPart_22 : decode cX4_hasPart 22 = .ok (.isub, 1) := by decide +kernel
theorem dX4_hasPart_23 : decode cX4_hasPart 23 = .ok (.if_icmp .gt 7, 3) := by decide +kernel
theorem dX4_hasPart_26 : decode cX4_hasPart 26 = .ok (.iconst 1, 1) := by decide +kernel
theorem dX4_hasPart_27 : decode cX4_hasPart 27 = .ok (.goto 4, 3) := by decide +kernel
theorem dX4_hasPart_30 : decode cX4_hasPart 30 = .ok (.iconst 0, 1) := by decide +kernel
theorem dX4_hasPart_31 : decode cX4_hasPart 31 = .ok (.ireturn, 1) := by decide +kernel
theorem dX4_tells_0 : decode cX4_tells 0 = .ok (.aload_n 0, 1) := by decide +kernel
theorem dX4_tells_1 : decode cX4_tells 1 = .ok (.getfield 17, 3) := by decide +kernel
theorem dX4_tells_4 : decode cX4_tells 4 = .ok (.aload_n 1, 1) := by decide +kernel
theorem dX4_tells_5 : decode cX4_tells 5 = .ok (.getfield 20, 3) := by decide +kernel
theorem dX4_tells_8 : decode cX4_tells 8 = .ok (.if_icmp .ne 7, 3) := by decide +kernel
theorem dX4_tells_11 : decode cX4_tells 11 = .ok (.iconst 1, 1) := by decide +kernel
theorem dX4_tells_12 : decode cX4_tells 12 = .ok (.goto 4, 3) := by decide +kernel
theorem dX4_tells_15 : decode cX4_tells 15 = .ok (.iconst 0, 1) := by decide +kernel
theorem dX4_tells_16 : decode cX4_tells 16 = .ok (.istore_n 2, 1) := by decide +kernel
theorem dX4_tells_17 : decode cX4_tells 17 = .ok (.iconst 0, 1) := by decide +kernel
theorem dX4_tells_18 : decode cX4_tells 18 = .ok (.istore_n 3, 1) := by decide +kernel
theorem dX4_tells_19 : decode cX4_tells 19 = .ok (.iload_n 2, 1) := by decide +kernel
theorem dX4_tells_20 : decode cX4_tells 20 = .ok (.ifCond .eq 38, 3) := by decide +kernel
theorem dX4_tells_23 : decode cX4_tells 23 = .ok (.iload_n 3, 1) := by decide +kernel
theorem dX4_tells_24 : decode cX4_tells 24 = .ok (.aload_n 1, 1) := by decide +kernel
theorem dX4_tells_25 : decode cX4_tells 25 = .ok (.getfield 20, 3) := by decide +kernel
theorem dX4_tells_28 : decode cX4_tells 28 = .ok (.if_icmp .ge 30, 3) := by decide +kernel
theorem dX4_tells_31 : decode cX4_tells 31 = .ok (.aload_n 0, 1) := by decide +kernel
theorem dX4_tells_32 : decode cX4_tells 32 = .ok (.getfield 9, 3) := by decide +kernel
theorem dX4_tells_35 : decode cX4_tells 35 = .ok (.iload_n 3, 1) := by decide +kernel
theorem dX4_tells_36 : decode cX4_tells 36 = .ok (.iaload, 1) := by decide +kernel
theorem dX4_tells_37 : decode cX4_tells 37 = .ok (.aload_n 1, 1) := by decide +kernel
theorem dX4_tells_38 : decode cX4_tells 38 = .ok (.getfield 25, 3) := by decide +kernel
theorem dX4_tells_41 : decode cX4_tells 41 = .ok (.iload_n 3, 1) := by decide +kernel
theorem dX4_tells_42 : decode cX4_tells 42 = .ok (.iaload, 1) := by decide +kernel
theorem dX4_tells_43 : decode cX4_tells 43 = .ok (.if_icmp .ne 7, 3) := by decide +kernel
theorem dX4_tells_46 : decode cX4_tells 46 = .ok (.iconst 1, 1) := by decide +kernel
theorem dX4_tells_47 : decode cX4_tells 47 = .ok (.goto 4, 3) := by decide +kernel
theorem dX4_tells_50 : decode cX4_tells 50 = .ok (.iconst 0, 1) := by decide +kernel
theorem dX4_tells_51 : decode cX4_tells 51 = .ok (.istore_n 2, 1) := by decide +kernel
theorem dX4_tells_52 : decode cX4_tells 52 = .ok (.iinc 3 1, 3) := by decide +kernel
theorem dX4_tells_55 : decode cX4_tells 55 = .ok (.goto (-36), 3) := by decide +kernel
theorem dX4_tells_58 : decode cX4_tells 58 = .ok (.iload_n 2, 1) := by decide +kernel
theorem dX4_tells_59 : decode cX4_tells 59 = .ok (.ireturn, 1) := by decide +kernel
theorem dX5_init_0 : decode cX5_init 0 = .ok (.aload_n 0, 1) := by decide +kernel
theorem dX5_init_1 : decode cX5_init 1 = .ok (.invokespecial 1, 3) := by decide +kernel
theorem dX5_init_4 : decode cX5_init 4 = .ok (.aload_n 0, 1) := by decide +kernel
theorem dX5_init_5 : decode cX5_init 5 = .ok (.bipush 60, 2) := by decide +kernel
theorem dX5_init_7 : decode cX5_init 7 = .ok (.newarray .int, 2) := by decide +kernel
theorem dX5_init_9 : decode cX5_init 9 = .ok (.putfield 9, 3) := by decide +kernel
theorem dX5_init_12 : decode cX5_init 12 = .ok (.aload_n 0, 1) := by decide +kernel
theorem dX5_init_13 : decode cX5_init 13 = .ok (.iconst 0, 1) := by decide +kernel
theorem dX5_init_14 : decode cX5_init 14 = .ok (.newarray .byte, 2) := by decide +kernel
theorem dX5_init_16 : decode cX5_init 16 = .ok (.putfield 15, 3) := by decide +kernel
theorem dX5_init_19 : decode cX5_init 19 = .ok (.aload_n 0, 1) := by decide +kernel
theorem dX5_init_20 : decode cX5_init 20 = .ok (.ldc 19, 2) := by decide +kernel
theorem dX5_init_22 : decode cX5_init 22 = .ok (.putfield 21, 3) := by decide +kernel
theorem dX5_init_25 : decode cX5_init 25 = .ok (.return_, 1) := by decide +kernel
theorem dX5_faultOf_0 : decode cX5_faultOf 0 = .ok (.aload_n 0, 1) := by decide +kernel
theorem dX5_faultOf_1 : decode cX5_faultOf 1 = .ok (.aload_n 1, 1) := by decide +kernel
theorem dX5_faultOf_2 : decode cX5_faultOf 2 = .ok (.putfield 15, 3) := by decide +kernel
theorem dX5_faultOf_5 : decode cX5_faultOf 5 = .ok (.aload_n 0, 1) := by decide +kernel
theorem dX5_faultOf_6 : decode cX5_faultOf 6 = .ok (.iload_n 2, 1) := by decide +kernel
theorem dX5_faultOf_7 : decode cX5_faultOf 7 = .ok (.aload_n 1, 1) := by decide +kernel
theorem dX5_faultOf_8 : decode cX5_faultOf 8 = .ok (.arraylength, 1) := by decide +kernel
theorem dX5_faultOf_9 : decode cX5_faultOf 9 = .ok (.invokestatic 25, 3) := by decide +kernel
theorem dX5_faultOf_12 : decode cX5_faultOf 12 = .ok (.putfield 31, 3) := by decide +kernel
theorem dX5_faultOf_15 : decode cX5_faultOf 15 = .ok (.aload_n 0, 1) := by decide +kernel
theorem dX5_faultOf_16 : decode cX5_faultOf 16 = .ok (.aload_n 3, 1) := by decide +kernel
theorem dX5_faultOf_17 : decode cX5_faultOf 17 = .ok (.putfield 21, 3) := by decide +kernel
theorem dX5_faultOf_20 : decode cX5_faultOf 20 = .ok (.aload_n 0, 1) := by decide +kernel
theorem dX5_faultOf_21 : decode cX5_faultOf 21 = .ok (.iconst 0, 1) := by decide +kernel
theorem dX5_faultOf_22 : decode cX5_faultOf 22 = .ok (.putfield 35, 3) := by decide +kernel
theorem dX5_faultOf_25 : decode cX5_faultOf 25 = .ok (.aload_n 0, 1) := by decide +kernel
theorem dX5_faultOf_26 : decode cX5_faultOf 26 = .ok (.iconst 0, 1) := by decide +kernel
theorem dX5_faultOf_27 : decode cX5_faultOf 27 = .ok (.putfield 38, 3) := by decide +kernel
theorem dX5_faultOf_30 : decode cX5_faultOf 30 = .ok (.aload_n 0, 1) := by decide +kernel
theorem dX5_faultOf_31 : decode cX5_faultOf 31 = .ok (.iconst 0, 1) := by decide +kernel
theorem dX5_faultOf_32 : decode cX5_faultOf 32 = .ok (.iconst 0, 1) := by decide +kernel
theorem dX5_faultOf_33 : decode cX5_faultOf 33 = .ok (.invokevirtual 41, 3) := by decide +kernel
theorem dX5_faultOf_36 : decode cX5_faultOf 36 = .ok (.ifCond .eq 18, 3) := by decide +kernel
theorem dX5_faultOf_39 : decode cX5_faultOf 39 = .ok (.aload_n 0, 1) := by decide +kernel
theorem dX5_faultOf_40 : decode cX5_faultOf 40 = .ok (.getfield 35, 3) := by decide +kernel
theorem dX5_faultOf_43 : decode cX5_faultOf 43 = .ok (.aload_n 0, 1) := by decide +kernel
theorem dX5_faultOf_44 : decode cX5_faultOf 44 = .ok (.getfield 31, 3) := by decide +kernel
theorem dX5_faultOf_47 : decode cX5_faultOf 47 = .ok (.if_icmp .ne 7, 3) := by decide +kernel
theorem dX5_faultOf_50 : decode cX5_faultOf 50 = .ok (.iconst 1, 1) := by decide +kernel
theorem dX5_faultOf_51 : decode cX5_faultOf 51 = .ok (.goto 4, 3) := by decide +kernel
theorem dX5_faultOf_54 : decode cX5_faultOf 54 = .ok (.iconst 0, 1) := by decide +kernel
theorem dX5_faultOf_55 : decode cX5_faultOf 55 = .ok (.istore 4, 2) := by decide +kernel
theorem dX5_faultOf_57 : decode cX5_faultOf 57 = .ok (.iload 4, 2) := by decide +kernel
theorem dX5_faultOf_59 : decode cX5_faultOf 59 = .ok (.ifCond .eq 7, 3) := by decide +kernel
theorem dX5_faultOf_62 : decode cX5_faultOf 62 = .ok (.iconst (-1), 1) := by decide +kernel
theorem dX5_faultOf_63 : decode cX5_faultOf 63 = .ok (.goto 7, 3) := by decide +kernel
theorem dX5_faultOf_66 : decode cX5_faultOf 66 = .ok (.aload_n 0, 1) := by decide +kernel
theorem dX5_faultOf_67 : decode cX5_faultOf 67 = .ok (.getfield 35, 3) := by decide +kernel
theorem dX5_faultOf_70 : decode cX5_faultOf 70 = .ok (.ireturn, 1) := by decide +kernel
theorem dX5_readLevel_0 : decode cX5_readLevel 0 = .ok (.iload_n 1, 1) := by decide +kernel
theorem dX5_readLevel_1 : decode cX5_readLevel 1 = .ok (.iconst 5, 1) := by decide +kernel
theorem dX5_readLevel_2 : decode cX5_readLevel 2 = .ok (.if_icmp .lt 9, 3) := by decide +kernel
theorem dX5_readLevel_5 : decode cX5_readLevel 5 = .ok (.aload_n 0, 1) := by decide +kernel
theorem dX5_readLevel_6 : decode cX5_readLevel 6 = .ok (.iload_n 2, 1) := by decide +kernel
theorem dX5_readLevel_7 : decode cX5_readLevel 7 = .ok (.invokevirtual 45, 3) := by decide +kernel
theorem dX5_readLevel_10 : decode cX5_readLevel 10 = .ok (.ireturn, 1) := by decide +kernel
theorem dX5_readLevel_11 : decode cX5_readLevel 11 = .ok (.aload_n 0, 1) := by decide +kernel
theorem dX5_readLevel_12 : decode cX5_readLevel 12 = .ok (.iload_n 1, 1) := by decide +kernel
theorem dX5_readLevel_13 : decode cX5_readLevel 13 = .ok (.iconst 1, 1) := by decide +kernel
theorem dX5_readLevel_14 : decode cX5_readLevel 14 = .ok (.iadd, 1) := by decide +kernel
theorem dX5_readLevel_15 : decode cX5_readLevel 15 = .ok (.iload_n 2, 1) := by decide +kernel
theorem dX5_readLevel_16 : decode cX5_readLevel 16 = .ok (.invokevirtual 41, 3) := by decide +kernel
theorem dX5_readLevel_19 : decode cX5_readLevel 19 = .ok (.ifCond .ne 5, 3) := by decide +kernel
theorem dX5_readLevel_22 : decode cX5_readLevel 22 = .ok (.iconst 0, 1) := by decide +kernel
theorem dX5_readLevel_23 : decode cX5_readLevel 23 = .ok (.ireturn, 1) := by decide +kernel
theorem dX5_readLevel_24 : decode cX5_readLevel 24 = .ok (.iload_n 1, 1) := by decide +kernel
theorem dX5_readLevel_25 : decode cX5_readLevel 25 = .ok (.iconst 2, 1) := by decide +kernel
theorem dX5_readLevel_26 : decode cX5_readLevel 26 = .ok (.if_icmp .ne 7, 3) := by decide +kernel
theorem dX5_readLevel_29 : decode cX5_readLevel 29 = .ok (.iconst 1, 1) := by decide +kernel
theorem dX5_readLevel_30 : decode cX5_readLevel 30 = .ok (.goto 5, 3) := by decide +kernel
theorem dX5_readLevel_33 : decode cX5_readLevel 33 = .ok (.bipush 60, 2) := by decide +kernel
theorem dX5_readLevel_35 : decode cX5_readLevel 35 = .ok (.istore_n 3, 1) := by decide +kernel
theorem dX5_readLevel_36 : decode cX5_readLevel 36 = .ok (.iconst 0, 1) := by decide +kernel
theorem dX5_readLevel_37 : decode cX5_readLevel 37 = .ok (.istore 4, 2) := by decide +kernel
theorem dX5_readLevel_39 : decode cX5_readLevel 39 = .ok (.iload 4, 2) := by decide +kernel
theorem dX5_readLevel_41 : decode cX5_readLevel 41 = .ok (.iload_n 3, 1) := by decide +kernel
theorem dX5_readLevel_42 : decode cX5_readLevel 42 = .ok (.if_icmp .ge 56, 3) := by decide +kernel
theorem dX5_readLevel_45 : decode cX5_readLevel 45 = .ok (.iload_n 1, 1) := by decide +kernel
theorem dX5_readLevel_46 : decode cX5_readLevel 46 = .ok (.aload_n 0, 1) := by decide +kernel
theorem dX5_readLevel_47 : decode cX5_readLevel 47 = .ok (.invokevirtual 49, 3) := by decide +kernel
theorem dX5_readLevel_50 : decode cX5_readLevel 50 = .ok (.invokestatic 53, 3) := by decide +kernel
theorem dX5_readLevel_53 : decode cX5_readLevel 53 = .ok (.ifCond .eq 45, 3) := by decide +kernel
theorem dX5_readLevel_56 : decode cX5_readLevel 56 = .ok (.aload_n 0, 1) := by decide +kernel
theorem dX5_readLevel_57 : decode cX5_readLevel 57 = .ok (.invokevirtual 49, 3) := by decide +kernel
theorem dX5_readLevel_60 : decode cX5_readLevel 60 = .ok (.istore 5, 2) := by decide +kernel
theorem dX5_readLevel_62 : decode cX5_readLevel 62 = .ok (.aload_n 0, 1) := by decide +kernel
theorem dX5_readLevel_63 : decode cX5_readLevel 63 = .ok (.dup, 1) := by decide +kernel
theorem dX5_readLevel_64 : decode cX5_readLevel 64 = .ok (.getfield 35, 3) := by decide +kernel
theorem dX5_readLevel_67 : decode cX5_readLevel 67 = .ok (.iconst 1, 1) := by decide +kernel
theorem dX5_readLevel_68 : decode cX5_readLevel 68 = .ok (.iadd, 1) := by decide +kernel
theorem dX5_readLevel_69 : decode cX5_readLevel 69 = .ok (.putfield 35, 3) := by decide +kernel
theorem dX5_readLevel_72 : decode cX5_readLevel 72 = .ok (.aload_n 0, 1) := by decide +kernel
theorem dX5_readLevel_73 : decode cX5_readLevel 73 = .ok (.iload_n 1, 1) := by decide +kernel
theorem dX5_readLevel_74 : decode cX5_readLevel 74 = .ok (.iconst 1, 1) := by decide +kernel
theorem dX5_readLevel_75 : decode cX5_readLevel 75 = .ok (.iadd, 1) := by decide +kernel
theorem dX5_readLevel_76 : decode cX5_readLevel 76 = .ok (.iload_n 2, 1) := by decide +kernel
theorem dX5_readLevel_77 : decode cX5_readLevel 77 = .ok (.invokevirtual 41, 3) := by decide +kernel
theorem dX5_readLevel_80 : decode cX5_readLevel 80 = .ok (.ifCond .ne 5, 3) := by decide +kernel
theorem dX5_readLevel_83 : decode cX5_readLevel 83 = .ok (.iconst 0, 1) := by decide +kernel
theorem dX5_readLevel_84 : decode cX5_readLevel 84 = .ok (.ireturn, 1) := by decide +kernel
theorem dX5_readLevel_85 : decode cX5_readLevel 85 = .ok (.aload_n 0, 1) := by decide +kernel
theorem dX5_readLevel_86 : decode cX5_readLevel 86 = .ok (.iload 5, 2) := by decide +kernel
theorem dX5_readLevel_88 : decode cX5_readLevel 88 = .ok (.ineg, 1) := by decide +kernel
theorem dX5_readLevel_89 : decode cX5_readLevel 89 = .ok (.invokevirtual 57, 3) := by decide +kernel
theorem dX5_readLevel_92 : decode cX5_readLevel 92 = .ok (.iinc 4 1, 3) := by decide +kernel
theorem dX5_readLevel_95 : decode cX5_readLevel 95 = .ok (.goto (-56), 3) := by decide +kernel
theorem dX5_readLevel_98 : decode cX5_readLevel 98 = .ok (.iconst 1, 1) := by decide +kernel
theorem dX5_readLevel_99 : decode cX5_readLevel 99 = .ok (.ireturn, 1) := by decide +kernel
theorem dX5_joins_0 : decode cX5_joins 0 = .ok (.iload_n 1, 1) := by decide +kernel
theorem dX5_joins_1 : decode cX5_joins 1 = .ok (.lookupswitch 145 #[(37, 134), (38, 101), (42, 134), (43, 123), (45, 123), (47, 134), (60, 112), (61, 112), (62, 112), (124, 91)], 91) := by decide +kernel
theorem dX5_joins_92 : decode cX5_joins 92 = .ok (.iload_n 0, 1) := by decide +kernel
theorem dX5_joins_93 : decode cX5_joins 93 = .ok (.ifCond .ne 7, 3) := by decide +kernel
theorem dX5_joins_96 : decode cX5_joins 96 = .ok (.iconst 1, 1) := by decide +kernel
theorem dX5_joins_97 : decode cX5_joins 97 = .ok (.goto 4, 3) := by decide +kernel
theorem dX5_joins_100 : decode cX5_joins 100 = .ok (.iconst 0, 1) := by decide +kernel
theorem dX5_joins_101 : decode cX5_joins 101 = .ok (.ireturn, 1) := by decide +kernel
theorem dX5_joins_102 : decode cX5_joins 102 = .ok (.iload_n 0, 1) := by decide +kernel
theorem dX5_joins_103 : decode cX5_joins 103 = .ok (.iconst 1, 1) := by decide +kernel
theorem dX5_joins_104 : decode cX5_joins 104 = .ok (.if_icmp .ne 7, 3) := by decide +kernel
theorem dX5_joins_107 : decode cX5_joins 107 = .ok (.iconst 1, 1) := by decide +kernel
theorem dX5_joins_108 : decode cX5_joins 108 = .ok (.goto 4, 3) := by decide +kernel
theorem dX5_joins_111 : decode cX5_joins 111 = .ok (.iconst 0, 1) := by decide +kernel
theorem dX5_joins_112 : decode cX5_joins 112 = .ok (.ireturn, 1) := by decide +kernel
theorem dX5_joins_113 : decode cX5_joins 113 = .ok (.iload_n 0, 1) := by decide +kernel
theorem dX5_joins_114 : decode cX5_joins 114 = .ok (.iconst 2, 1) := by decide +kernel
theorem dX5_joins_115 : decode cX5_joins 115 = .ok (.if_icmp .ne 7, 3) := by decide +kernel
theorem dX5_joins_118 : decode cX5_joins 118 = .ok (.iconst 1, 1) := by decide +kernel
theorem dX5_joins_119 : decode cX5_joins 119 = .ok (.goto 4, 3) := by decide +kernel
theorem dX5_joins_122 : decode cX5_joins 122 = .ok (.iconst 0, 1) := by decide +kernel
theorem dX5_joins_123 : decode cX5_joins 123 = .ok (.ireturn, 1) := by decide +kernel
theorem dX5_joins_124 : decode cX5_joins 124 = .ok (.iload_n 0, 1) := by decide +kernel
theorem dX5_joins_125 : decode cX5_joins 125 = .ok (.iconst 3, 1) := by decide +kernel
theorem dX5_joins_126 : decode cX5_joins 126 = .ok (.if_icmp .ne 7, 3) := by decide +kernel
theorem dX5_joins_129 : decode cX5_joins 129 = .ok (.iconst 1, 1) := by decide +kernel
theorem dX5_joins_130 : decode cX5_joins 130 = .ok (.goto 4, 3) := by decide +kernel
theorem dX5_joins_133 : decode cX5_joins 133 = .ok (.iconst 0, 1) := by decide +kernel
theorem dX5_joins_134 : decode cX5_joins 134 = .ok (.ireturn, 1) := by decide +kernel
theorem dX5_joins_135 : decode cX5_joins 135 = .ok (.iload_n 0, 1) := by decide +kernel
theorem dX5_joins_136 : decode cX5_joins 136 = .ok (.iconst 4, 1) := by decide +kernel
theorem dX5_joins_137 : decode cX5_joins 137 = .ok (.if_icmp .ne 7, 3) := by decide +kernel
theorem dX5_joins_140 : decode cX5_joins 140 = .ok (.iconst 1, 1) := by decide +kernel
theorem dX5_joins_141 : decode cX5_joins 141 = .ok (.goto 4, 3) := by decide +kernel
theorem dX5_joins_144 : decode cX5_joins 144 = .ok (.iconst 0, 1) := by decide +kernel
theorem dX5_joins_145 : decode cX5_joins 145 = .ok (.ireturn, 1) := by decide +kernel
theorem dX5_joins_146 : decode cX5_joins 146 = .ok (.iconst 0, 1) := by decide +kernel
theorem dX5_joins_147 : decode cX5_joins 147 = .ok (.ireturn, 1) := by decide +kernel
theorem dX5_readQ_0 : decode cX5_readQ 0 = .ok (.aload_n 0, 1) := by decide +kernel
theorem dX5_readQ_1 : decode cX5_readQ 1 = .ok (.invokevirtual 49, 3) := by decide +kernel
theorem dX5_readQ_4 : decode cX5_readQ 4 = .ok (.istore_n 2, 1) := by decide +kernel
theorem dX5_readQ_5 : decode cX5_readQ 5 = .ok (.iload_n 2, 1) := by decide +kernel
theorem dX5_readQ_6 : decode cX5_readQ 6 = .ok (.invokestatic 61, 3) := by decide +kernel
theorem dX5_readQ_9 : decode cX5_readQ 9 = .ok (.ifCond .eq 9, 3) := by decide +kernel
theorem dX5_readQ_12 : decode cX5_readQ 12 = .ok (.aload_n 0, 1) := by decide +kernel
theorem dX5_readQ_13 : decode cX5_readQ 13 = .ok (.invokevirtual 65, 3) := by decide +kernel
theorem dX5_readQ_16 : decode cX5_readQ 16 = .ok (.iconst 1, 1) := by decide +kernel
theorem dX5_readQ_17 : decode cX5_readQ 17 = .ok (.ireturn, 1) := by decide +kernel
theorem dX5_readQ_18 : decode cX5_readQ 18 = .ok (.iload_n 2, 1) := by decide +kernel
theorem dX5_readQ_19 : decode cX5_readQ 19 = .ok (.bipush 33, 2) := by decide +kernel
theorem dX5_readQ_21 : decode cX5_readQ 21 = .ok (.if_icmp .eq 9, 3) := by decide +kernel
theorem dX5_readQ_24 : decode cX5_readQ 24 = .ok (.iload_n 2, 1) := by decide +kernel
theorem dX5_readQ_25 : decode cX5_readQ 25 = .ok (.bipush 40, 2) := by decide +kernel
theorem dX5_readQ_27 : decode cX5_readQ 27 = .ok (.if_icmp .ne 25, 3) := by decide +kernel
theorem dX5_readQ_30 : decode cX5_readQ 30 = .ok (.iload_n 1, 1) := by decide +kernel
theorem dX5_readQ_31 : decode cX5_readQ 31 = .ok (.iconst 5, 1) := by decide +kernel
theorem dX5_readQ_32 : decode cX5_readQ 32 = .ok (.if_icmp .ge 18, 3) := by decide +kernel
theorem dX5_readQ_35 : decode cX5_readQ 35 = .ok (.aload_n 0, 1) := by decide +kernel
theorem dX5_readQ_36 : decode cX5_readQ 36 = .ok (.iload_n 2, 1) := by decide +kernel
theorem dX5_readQ_37 : decode cX5_readQ 37 = .ok (.iload_n 1, 1) := by decide +kernel
theorem dX5_readQ_38 : decode cX5_readQ 38 = .ok (.iconst 1, 1) := by decide +kernel
theorem dX5_readQ_39 : decode cX5_readQ 39 = .ok (.iadd, 1) := by decide +kernel
theorem dX5_readQ_40 : decode cX5_readQ 40 = .ok (.invokevirtual 68, 3) := by decide +kernel
theorem dX5_readQ_43 : decode cX5_readQ 43 = .ok (.ifCond .eq 7, 3) := by decide +kernel
theorem dX5_readQ_46 : decode cX5_readQ 46 = .ok (.iconst 1, 1) := by decide +kernel
theorem dX5_readQ_47 : decode cX5_readQ 47 = .ok (.goto 4, 3) := by decide +kernel
theorem dX5_readQ_50 : decode cX5_readQ 50 = .ok (.iconst 0, 1) := by decide +kernel
theorem dX5_readQ_51 : decode cX5_readQ 51 = .ok (.ireturn, 1) := by decide +kernel
theorem dX5_readQ_52 : decode cX5_readQ 52 = .ok (.aload_n 0, 1) := by decide +kernel
theorem dX5_readQ_53 : decode cX5_readQ 53 = .ok (.getfield 21, 3) := by decide +kernel
theorem dX5_readQ_56 : decode cX5_readQ 56 = .ok (.iload_n 2, 1) := by decide +kernel
theorem dX5_readQ_57 : decode cX5_readQ 57 = .ok (.invokevirtual 72, 3) := by decide +kernel
theorem dX5_readQ_60 : decode cX5_readQ 60 = .ok (.istore_n 3, 1) := by decide +kernel
theorem dX5_readQ_61 : decode cX5_readQ 61 = .ok (.iload_n 3, 1) := by decide +kernel
theorem dX5_readQ_62 : decode cX5_readQ 62 = .ok (.ifCond .ge 5, 3) := by decide +kernel
theorem dX5_readQ_65 : decode cX5_readQ 65 = .ok (.iconst 0, 1) := by decide +kernel
theorem dX5_readQ_66 : decode cX5_readQ 66 = .ok (.ireturn, 1) := by decide +kernel
theorem dX5_readQ_67 : decode cX5_readQ 67 = .ok (.aload_n 0, 1) := by decide +kernel
theorem dX5_readQ_68 : decode cX5_readQ 68 = .ok (.dup, 1) := by decide +kernel
theorem dX5_readQ_69 : decode cX5_readQ 69 = .ok (.getfield 35, 3) := by decide +kernel
theorem dX5_readQ_72 : decode cX5_readQ 72 = .ok (.iconst 1, 1) := by decide +kernel
theorem dX5_readQ_73 : decode cX5_readQ 73 = .ok (.iadd, 1) := by decide +kernel
theorem dX5_readQ_74 : decode cX5_readQ 74 = .ok (.putfield 35, 3) := by decide +kernel
theorem dX5_readQ_77 : decode cX5_readQ 77 = .ok (.aload_n 0, 1) := by decide +kernel
theorem dX5_readQ_78 : decode cX5_readQ 78 = .ok (.iconst (-1), 1) := by decide +kernel
theorem dX5_readQ_79 : decode cX5_readQ 79 = .ok (.iload_n 3, 1) := by decide +kernel
theorem dX5_readQ_80 : decode cX5_readQ 80 = .ok (.isub, 1) := by decide +kernel
theorem dX5_readQ_81 : decode cX5_readQ 81 = .ok (.invokevirtual 57, 3) := by decide +kernel
theorem dX5_readQ_84 : decode cX5_readQ 84 = .ok (.iconst 1, 1) := by decide +kernel
theorem dX5_readQ_85 : decode cX5_readQ 85 = .ok (.ireturn, 1) := by decide +kernel
theorem dX5_readOpened_0 : decode cX5_readOpened 0 = .ok (.aload_n 0, 1) := by decide +kernel
theorem dX5_readOpened_1 : decode cX5_readOpened 1 = .ok (.dup, 1) := by decide +kernel
theorem dX5_readOpened_2 : decode cX5_readOpened 2 = .ok (.getfield 35, 3) := by decide +kernel
theorem dX5_readOpened_5 : decode cX5_readOpened 5 = .ok (.iconst 1, 1) := by decide +kernel
theorem dX5_readOpened_6 : decode cX5_readOpened 6 = .ok (.iadd, 1) := by decide +kernel
theorem dX5_readOpened_7 : decode cX5_readOpened 7 = .ok (.putfield 35, 3) := by decide +kernel
theorem dX5_readOpened_10 : decode cX5_readOpened 10 = .ok (.iload_n 1, 1) := by decide +kernel
theorem dX5_readOpened_11 : decode cX5_readOpened 11 = .ok (.bipush 33, 2) := by decide +kernel
theorem dX5_readOpened_13 : decode cX5_readOpened 13 = .ok (.if_icmp .ne 17, 3) := by decide +kernel
theorem dX5_readOpened_16 : decode cX5_readOpened 16 = .ok (.aload_n 0, 1) := by decide +kernel
theorem dX5_readOpened_17 : decode cX5_readOpened 17 = .ok (.iload_n 2, 1) := by decide +kernel
theorem dX5_readOpened_18 : decode cX5_readOpened 18 = .ok (.invokevirtual 45, 3) := by decide +kernel
theorem dX5_readOpened_21 : decode cX5_readOpened 21 = .ok (.istore_n 3, 1) := by decide +kernel
theorem dX5_readOpened_22 : decode cX5_readOpened 22 = .ok (.aload_n 0, 1) := by decide +kernel
theorem dX5_readOpened_23 : decode cX5_readOpened 23 = .ok (.bipush (-33), 2) := by decide +kernel
theorem dX5_readOpened_25 : decode cX5_readOpened 25 = .ok (.invokevirtual 57, 3) := by decide +kernel
theorem dX5_readOpened_28 : decode cX5_readOpened 28 = .ok (.iload_n 3, 1) := by decide +kernel
theorem dX5_readOpened_29 : decode cX5_readOpened 29 = .ok (.ireturn, 1) := by decide +kernel
theorem dX5_readOpened_30 : decode cX5_readOpened 30 = .ok (.aload_n 0, 1) := by decide +kernel
theorem dX5_readOpened_31 : decode cX5_readOpened 31 = .ok (.iconst 0, 1) := by decide +kernel
theorem dX5_readOpened_32 : decode cX5_readOpened 32 = .ok (.iload_n 2, 1) := by decide +kernel
theorem dX5_readOpened_33 : decode cX5_readOpened 33 = .ok (.invokevirtual 41, 3) := by decide +kernel
theorem dX5_readOpened_36 : decode cX5_readOpened 36 = .ok (.ifCond .eq 12, 3) := by decide +kernel
theorem dX5_readOpened_39 : decode cX5_readOpened 39 = .ok (.aload_n 0, 1) := by decide +kernel
theorem dX5_readOpened_40 : decode cX5_readOpened 40 = .ok (.invokevirtual 49, 3) := by decide +kernel
theorem dX5_readOpened_43 : decode cX5_readOpened 43 = .ok (.bipush 41, 2) := by decide +kernel
theorem dX5_readOpened_45 : decode cX5_readOpened 45 = .ok (.if_icmp .eq 5, 3) := by decide +kernel
theorem dX5_readOpened_48 : decode cX5_readOpened 48 = .ok (.iconst 0, 1) := by decide +kernel
theorem dX5_readOpened_49 : decode cX5_readOpened 49 = .ok (.ireturn, 1) := by decide +kernel
theorem dX5_readOpened_50 : decode cX5_readOpened 50 = .ok (.aload_n 0, 1) := by decide +kernel
theorem dX5_readOpened_51 : decode cX5_readOpened 51 = .ok (.dup, 1) := by decide +kernel
theorem dX5_readOpened_52 : decode cX5_readOpened 52 = .ok (.getfield 35, 3) := by decide +kernel
theorem dX5_readOpened_55 : decode cX5_readOpened 55 = .ok (.iconst 1, 1) := by decide +kernel
theorem dX5_readOpened_56 : decode cX5_readOpened 56 = .ok (.iadd, 1) := by decide +kernel
theorem dX5_readOpened_57 : decode cX5_readOpened 57 = .ok (.putfield 35, 3) := by decide +kernel
theorem dX5_readOpened_60 : decode cX5_readOpened 60 = .ok (.iconst 1, 1) := by decide +kernel
theorem dX5_readOpened_61 : decode cX5_readOpened 61 = .ok (.ireturn, 1) := by decide +kernel
theorem dX5_readNumber_0 : decode cX5_readNumber 0 = .ok (.iconst 0, 1) := by decide +kernel
theorem dX5_readNumber_1 : decode cX5_readNumber 1 = .ok (.istore_n 1, 1) := by decide +kernel
theorem dX5_readNumber_2 : decode cX5_readNumber 2 = .ok (.iconst 0, 1) := by decide +kernel
theorem dX5_readNumber_3 : decode cX5_readNumber 3 = .ok (.istore_n 2, 1) := by decide +kernel
theorem dX5_readNumber_4 : decode cX5_readNumber 4 = .ok (.iload_n 2, 1) := by decide +kernel
theorem dX5_readNumber_5 : decode cX5_readNumber 5 = .ok (.iconst 4, 1) := by decide +kernel
theorem dX5_readNumber_6 : decode cX5_readNumber 6 = .ok (.if_icmp .ge 42, 3) := by decide +kernel
theorem dX5_readNumber_9 : decode cX5_readNumber 9 = .ok (.aload_n 0, 1) := by decide +kernel
theorem dX5_readNumber_10 : decode cX5_readNumber 10 = .ok (.invokevirtual 49, 3) := by decide +kernel
theorem dX5_readNumber_13 : decode cX5_readNumber 13 = .ok (.invokestatic 61, 3) := by decide +kernel
theorem dX5_readNumber_16 : decode cX5_readNumber 16 = .ok (.ifCond .eq 32, 3) := by decide +kernel
theorem dX5_readNumber_19 : decode cX5_readNumber 19 = .ok (.iload_n 1, 1) := by decide +kernel
theorem dX5_readNumber_20 : decode cX5_readNumber 20 = .ok (.bipush 10, 2) := by decide +kernel
theorem dX5_readNumber_22 : decode cX5_readNumber 22 = .ok (.imul, 1) := by decide +kernel
theorem dX5_readNumber_23 : decode cX5_readNumber 23 = .ok (.aload_n 0, 1) := by decide +kernel
theorem dX5_readNumber_24 : decode cX5_readNumber 24 = .ok (.invokevirtual 49, 3) := by decide +kernel
theorem dX5_readNumber_27 : decode cX5_readNumber 27 = .ok (.bipush 48, 2) := by decide +kernel
theorem dX5_readNumber_29 : decode cX5_readNumber 29 = .ok (.isub, 1) := by decide +kernel
theorem dX5_readNumber_30 : decode cX5_readNumber 30 = .ok (.iadd, 1) := by decide +kernel
theorem dX5_readNumber_31 : decode cX5_readNumber 31 = .ok (.istore_n 1, 1) := by decide +kernel
theorem dX5_readNumber_32 : decode cX5_readNumber 32 = .ok (.aload_n 0, 1) := by decide +kernel
theorem dX5_readNumber_33 : decode cX5_readNumber 33 = .ok (.dup, 1) := by decide +kernel
theorem dX5_readNumber_34 : decode cX5_readNumber 34 = .ok (.getfield 35, 3) := by decide +kernel
theorem dX5_readNumber_37 : decode cX5_readNumber 37 = .ok (.iconst 1, 1) := by decide +kernel
theorem dX5_readNumber_38 : decode cX5_readNumber 38 = .ok (.iadd, 1) := by decide +kernel
theorem dX5_readNumber_39 : decode cX5_readNumber 39 = .ok (.putfield 35, 3) := by decide +kernel
theorem dX5_readNumber_42 : decode cX5_readNumber 42 = .ok (.iinc 2 1, 3) := by decide +kernel
theorem dX5_readNumber_45 : decode cX5_readNumber 45 = .ok (.goto (-41), 3) := by decide +kernel
theorem dX5_readNumber_48 : decode cX5_readNumber 48 = .ok (.aload_n 0, 1) := by decide +kernel
theorem dX5_readNumber_49 : decode cX5_readNumber 49 = .ok (.iload_n 1, 1) := by decide +kernel
theorem dX5_readNumber_50 : decode cX5_readNumber 50 = .ok (.invokevirtual 57, 3) := by decide +kernel
theorem dX5_readNumber_53 : decode cX5_readNumber 53 = .ok (.return_, 1) := by decide +kernel
theorem dX5_isDigit_0 : decode cX5_isDigit 0 = .ok (.iload_n 0, 1) := by decide +kernel
theorem dX5_isDigit_1 : decode cX5_isDigit 1 = .ok (.bipush 48, 2) := by decide +kernel
theorem dX5_isDigit_3 : decode cX5_isDigit 3 = .ok (.if_icmp .lt 13, 3) := by decide +kernel
theorem dX5_isDigit_6 : decode cX5_isDigit 6 = .ok (.iload_n 0, 1) := by decide +kernel
theorem dX5_isDigit_7 : decode cX5_isDigit 7 = .ok (.bipush 57, 2) := by decide +kernel
theorem dX5_isDigit_9 : decode cX5_isDigit 9 = .ok (.if_icmp .gt 7, 3) := by decide +kernel
theorem dX5_isDigit_12 : decode cX5_isDigit 12 = .ok (.iconst 1, 1) := by decide +kernel
theorem dX5_isDigit_13 : decode cX5_isDigit 13 = .ok (.goto 4, 3) := by decide +kernel
theorem dX5_isDigit_16 : decode cX5_isDigit 16 = .ok (.iconst 0, 1) := by decide +kernel
theorem dX5_isDigit_17 : decode cX5_isDigit 17 = .ok (.ireturn, 1) := by decide +kernel
theorem dX5_sign_0 : decode cX5_sign 0 = .ok (.aload_n 0, 1) := by decide +kernel
theorem dX5_sign_1 : decode cX5_sign 1 = .ok (.getfield 35, 3) := by decide +kernel
theorem dX5_sign_4 : decode cX5_sign 4 = .ok (.aload_n 0, 1) := by decide +kernel
theorem dX5_sign_5 : decode cX5_sign 5 = .ok (.getfield 31, 3) := by decide +kernel
theorem dX5_sign_8 : decode cX5_sign 8 = .ok (.if_icmp .ge 20, 3) := by decide +kernel
theorem dX5_sign_11 : decode cX5_sign 11 = .ok (.aload_n 0, 1) := by decide +kernel
theorem dX5_sign_12 : decode cX5_sign 12 = .ok (.getfield 15, 3) := by decide +kernel
theorem dX5_sign_15 : decode cX5_sign 15 = .ok (.aload_n 0, 1) := by decide +kernel
theorem dX5_sign_16 : decode cX5_sign 16 = .ok (.getfield 35, 3) := by decide +kernel
theorem dX5_sign_19 : decode cX5_sign 19 = .ok (.baload, 1) := by decide +kernel
theorem dX5_sign_20 : decode cX5_sign 20 = .ok (.sipush 255, 3) := by decide +kernel
theorem dX5_sign_23 : decode cX5_sign 23 = .ok (.iand, 1) := by decide +kernel
theorem dX5_sign_24 : decode cX5_sign 24 = .ok (.i2c, 1) := by decide +kernel
theorem dX5_sign_25 : decode cX5_sign 25 = .ok (.goto 4, 3) := by decide +kernel
theorem dX5_sign_28 : decode cX5_sign 28 = .ok (.iconst 0, 1) := by decide +kernel
theorem dX5_sign_29 : decode cX5_sign 29 = .ok (.ireturn, 1) := by decide +kernel
theorem dX5_add_0 : decode cX5_add 0 = .ok (.aload_n 0, 1) := by decide +kernel
theorem dX5_add_1 : decode cX5_add 1 = .ok (.getfield 38, 3) := by decide +kernel
theorem dX5_add_4 : decode cX5_add 4 = .ok (.aload_n 0, 1) := by decide +kernel
theorem dX5_add_5 : decode cX5_add 5 = .ok (.getfield 9, 3) := by decide +kernel
theorem dX5_add_8 : decode cX5_add 8 = .ok (.arraylength, 1) := by decide +kernel
theorem dX5_add_9 : decode cX5_add 9 = .ok (.if_icmp .ge 23, 3) := by decide +kernel
theorem dX5_add_12 : decode cX5_add 12 = .ok (.aload_n 0, 1) := by decide +kernel
theorem dX5_add_13 : decode cX5_add 13 = .ok (.getfield 9, 3) := by decide +kernel
theorem dX5_add_16 : decode cX5_add 16 = .ok (.aload_n 0, 1) := by decide +kernel
theorem dX5_add_17 : decode cX5_add 17 = .ok (.getfield 38, 3) := by decide +kernel
theorem dX5_add_20 : decode cX5_add 20 = .ok (.iload_n 1, 1) := by decide +kernel
theorem dX5_add_21 : decode cX5_add 21 = .ok (.iastore, 1) := by decide +kernel
theorem dX5_add_22 : decode cX5_add 22 = .ok (.aload_n 0, 1) := by decide +kernel
theorem dX5_add_23 : decode cX5_add 23 = .ok (.dup, 1) := by decide +kernel
theorem dX5_add_24 : decode cX5_add 24 = .ok (.getfield 38, 3) := by decide +kernel
theorem dX5_add_27 : decode cX5_add 27 = .ok (.iconst 1, 1) := by decide +kernel
theorem dX5_add_28 : decode cX5_add 28 = .ok (.iadd, 1) := by decide +kernel
theorem dX5_add_29 : decode cX5_add 29 = .ok (.putfield 38, 3) := by decide +kernel
theorem dX5_add_32 : decode cX5_add 32 = .ok (.return_, 1) := by decide +kernel
theorem dX6_init_0 : decode cX6_init 0 = .ok (.aload_n 0, 1) := by decide +kernel
theorem dX6_init_1 : decode cX6_init 1 = .ok (.invokespecial 3, 3) := by decide +kernel
theorem dX6_init_4 : decode cX6_init 4 = .ok (.aload_n 0, 1) := by decide +kernel
theorem dX6_init_5 : decode cX6_init 5 = .ok (.bipush 30, 2) := by decide +kernel
theorem dX6_init_7 : decode cX6_init 7 = .ok (.newarray .int, 2) := by decide +kernel
theorem dX6_init_9 : decode cX6_init 9 = .ok (.putfield 11, 3) := by decide +kernel
theorem dX6_init_12 : decode cX6_init 12 = .ok (.return_, 1) := by decide +kernel
theorem dX6_answer_0 : decode cX6_answer 0 = .ok (.aload_n 0, 1) := by decide +kernel
theorem dX6_answer_1 : decode cX6_answer 1 = .ok (.iconst 0, 1) := by decide +kernel
theorem dX6_answer_2 : decode cX6_answer 2 = .ok (.putfield 15, 3) := by decide +kernel
theorem dX6_answer_5 : decode cX6_answer 5 = .ok (.aload_n 0, 1) := by decide +kernel
theorem dX6_answer_6 : decode cX6_answer 6 = .ok (.iconst 0, 1) := by decide +kernel
theorem dX6_answer_7 : decode cX6_answer 7 = .ok (.putfield 19, 3) := by decide +kernel
theorem dX6_answer_10 : decode cX6_answer 10 = .ok (.aload_n 0, 1) := by decide +kernel
theorem dX6_answer_11 : decode cX6_answer 11 = .ok (.iload_n 2, 1) := by decide +kernel
theorem dX6_answer_12 : decode cX6_answer 12 = .ok (.putfield 23, 3) := by decide +kernel
theorem dX6_answer_15 : decode cX6_answer 15 = .ok (.aload_n 0, 1) := by decide +kernel
theorem dX6_answer_16 : decode cX6_answer 16 = .ok (.iload_n 3, 1) := by decide +kernel
theorem dX6_answer_17 : decode cX6_answer 17 = .ok (.putfield 26, 3) := by decide +kernel
theorem dX6_answer_20 : decode cX6_answer 20 = .ok (.aload_n 0, 1) := by decide +kernel
theorem dX6_answer_21 : decode cX6_answer 21 = .ok (.iload 4, 2) := by decide +kernel
theorem dX6_answer_23 : decode cX6_answer 23 = .ok (.putfield 29, 3) := by decide +kernel
theorem dX6_answer_26 : decode cX6_answer 26 = .ok (.iload_n 1, 1) := by decide +kernel
theorem dX6_answer_27 : decode cX6_answer 27 = .ok (.tableswitch 58 0 2 #[25, 36, 47], 25) := by decide +kernel
theorem dX6_answer_52 : decode cX6_answer 52 = .ok (.aload_n 0, 1) := by decide +kernel
theorem dX6_answer_53 : decode cX6_answer 53 = .ok (.aload_n 0, 1) := by decide +kernel
theorem dX6_answer_54 : decode cX6_answer 54 = .ok (.getfield 23, 3) := by decide +kernel
theorem dX6_answer_57 : decode cX6_answer 57 = .ok (.iload 5, 2) := by decide +kernel
theorem dX6_answer_59 : decode cX6_answer 59 = .ok (.invokevirtual 32, 3) := by decide +kernel
theorem dX6_answer_62 : decode cX6_answer 62 = .ok (.ireturn, 1) := by decide +kernel
theorem dX6_answer_63 : decode cX6_answer 63 = .ok (.aload_n 0, 1) := by decide +kernel
theorem dX6_answer_64 : decode cX6_answer 64 = .ok (.aload_n 0, 1) := by decide +kernel
theorem dX6_answer_65 : decode cX6_answer 65 = .ok (.getfield 23, 3) := by decide +kernel
theorem dX6_answer_68 : decode cX6_answer 68 = .ok (.iload 5, 2) := by decide +kernel
theorem dX6_answer_70 : decode cX6_answer 70 = .ok (.invokevirtual 36, 3) := by decide +kernel
theorem dX6_answer_73 : decode cX6_answer 73 = .ok (.ireturn, 1) := by decide +kernel
theorem dX6_answer_74 : decode cX6_answer 74 = .ok (.aload_n 0, 1) := by decide +kernel
theorem dX6_answer_75 : decode cX6_answer 75 = .ok (.aload_n 0, 1) := by decide +kernel
theorem dX6_answer_76 : decode cX6_answer 76 = .ok (.getfield 23, 3) := by decide +kernel
theorem dX6_answer_79 : decode cX6_answer 79 = .ok (.iload 5, 2) := by decide +kernel
theorem dX6_answer_81 : decode cX6_answer 81 = .ok (.invokevirtual 39, 3) := by decide +kernel
theorem dX6_answer_84 : decode cX6_answer 84 = .ok (.ireturn, 1) := by decide +kernel
theorem dX6_answer_85 : decode cX6_answer 85 = .ok (.aload_n 0, 1) := by decide +kernel
theorem dX6_answer_86 : decode cX6_answer 86 = .ok (.aload_n 0, 1) := by decide +kernel
theorem dX6_answer_87 : decode cX6_answer 87 = .ok (.getfield 23, 3) := by decide +kernel
theorem dX6_answer_90 : decode cX6_answer 90 = .ok (.iload 5, 2) := by decide +kernel
theorem dX6_answer_92 : decode cX6_answer 92 = .ok (.invokevirtual 42, 3) := by decide +kernel
theorem dX6_answer_95 : decode cX6_answer 95 = .ok (.ireturn, 1) := by decide +kernel
theorem dX6_begins_0 : decode cX6_begins 0 = .ok (.aload_n 0, 1) := by decide +kernel
theorem dX6_begins_1 : decode cX6_begins 1 = .ok (.getfield 15, 3) := by decide +kernel
theorem dX6_begins_4 : decode cX6_begins 4 = .ok (.bipush 30, 2) := by decide +kernel
theorem dX6_begins_6 : decode cX6_begins 6 = .ok (.if_icmp .ge 23, 3) := by decide +kernel
theorem dX6_begins_9 : decode cX6_begins 9 = .ok (.aload_n 0, 1) := by decide +kernel
theorem dX6_begins_10 : decode cX6_begins 10 = .ok (.getfield 11, 3) := by decide +kernel
theorem dX6_begins_13 : decode cX6_begins 13 = .ok (.aload_n 0, 1) := by decide +kernel
theorem dX6_begins_14 : decode cX6_begins 14 = .ok (.getfield 15, 3) := by decide +kernel
theorem dX6_begins_17 : decode cX6_begins 17 = .ok (.iload_n 1, 1) := by decide +kernel
theorem dX6_begins_18 : decode cX6_begins 18 = .ok (.iastore, 1) := by decide +kernel
theorem dX6_begins_19 : decode cX6_begins 19 = .ok (.aload_n 0, 1) := by decide +kernel
theorem dX6_begins_20 : decode cX6_begins 20 = .ok (.dup, 1) := by decide +kernel
theorem dX6_begins_21 : decode cX6_begins 21 = .ok (.getfield 15, 3) := by decide +kernel
theorem dX6_begins_24 : decode cX6_begins 24 = .ok (.iconst 1, 1) := by decide +kernel
theorem dX6_begins_25 : decode cX6_begins 25 = .ok (.iadd, 1) := by decide +kernel
theorem dX6_begins_26 : decode cX6_begins 26 = .ok (.putfield 15, 3) := by decide +kernel
theorem dX6_begins_29 : decode cX6_begins 29 = .ok (.return_, 1) := by decide +kernel
theorem dX6_sings_0 : decode cX6_sings 0 = .ok (.iload_n 1, 1) := by decide +kernel
theorem dX6_sings_1 : decode cX6_sings 1 = .ok (.lookupswitch 74 #[(1, 35), (4, 50), (6, 65)], 35) := by decide +kernel
theorem dX6_sings_36 : decode cX6_sings 36 = .ok (.aload_n 0, 1) := by decide +kernel
theorem dX6_sings_37 : decode cX6_sings 37 = .ok (.bipush 20, 2) := by decide +kernel
theorem dX6_sings_39 : decode cX6_sings 39 = .ok (.invokevirtual 45, 3) := by decide +kernel
theorem dX6_sings_42 : decode cX6_sings 42 = .ok (.aload_n 0, 1) := by decide +kernel
theorem dX6_sings_43 : decode cX6_sings 43 = .ok (.iconst 0, 1) := by decide +kernel
theorem dX6_sings_44 : decode cX6_sings 44 = .ok (.iload_n 2, 1) := by decide +kernel
theorem dX6_sings_45 : decode cX6_sings 45 = .ok (.invokevirtual 32, 3) := by decide +kernel
theorem dX6_sings_48 : decode cX6_sings 48 = .ok (.iconst 4, 1) := by decide +kernel
theorem dX6_sings_49 : decode cX6_sings 49 = .ok (.isub, 1) := by decide +kernel
theorem dX6_sings_50 : decode cX6_sings 50 = .ok (.ireturn, 1) := by decide +kernel
theorem dX6_sings_51 : decode cX6_sings 51 = .ok (.aload_n 0, 1) := by decide +kernel
theorem dX6_sings_52 : decode cX6_sings 52 = .ok (.bipush 50, 2) := by decide +kernel
theorem dX6_sings_54 : decode cX6_sings 54 = .ok (.invokevirtual 45, 3) := by decide +kernel
theorem dX6_sings_57 : decode cX6_sings 57 = .ok (.aload_n 0, 1) := by decide +kernel
theorem dX6_sings_58 : decode cX6_sings 58 = .ok (.iconst 1, 1) := by decide +kernel
theorem dX6_sings_59 : decode cX6_sings 59 = .ok (.iload_n 2, 1) := by decide +kernel
theorem dX6_sings_60 : decode cX6_sings 60 = .ok (.invokevirtual 32, 3) := by decide +kernel
theorem dX6_sings_63 : decode cX6_sings 63 = .ok (.iconst 3, 1) := by decide +kernel
theorem dX6_sings_64 : decode cX6_sings 64 = .ok (.imul, 1) := by decide +kernel
theorem dX6_sings_65 : decode cX6_sings 65 = .ok (.ireturn, 1) := by decide +kernel
theorem dX6_sings_66 : decode cX6_sings 66 = .ok (.aload_n 0, 1) := by decide +kernel
theorem dX6_sings_67 : decode cX6_sings 67 = .ok (.bipush 70, 2) := by decide +kernel
theorem dX6_sings_69 : decode cX6_sings 69 = .ok (.invokevirtual 45, 3) := by decide +kernel
theorem dX6_sings_72 : decode cX6_sings 72 = .ok (.bipush 9, 2) := by decide +kernel
theorem dX6_sings_74 : decode cX6_sings 74 = .ok (.ireturn, 1) := by decide +kernel
theorem dX6_sings_75 : decode cX6_sings 75 = .ok (.aload_n 0, 1) := by decide +kernel
theorem dX6_sings_76 : decode cX6_sings 76 = .ok (.bipush 10, 2) := by decide +kernel
theorem dX6_sings_78 : decode cX6_sings 78 = .ok (.invokevirtual 45, 3) := by decide +kernel
theorem dX6_sings_81 : decode cX6_sings 81 = .ok (.iload_n 2, 1) := by decide +kernel
theorem dX6_sings_82 : decode cX6_sings 82 = .ok (.aload_n 0, 1) := by decide +kernel
theorem dX6_sings_83 : decode cX6_sings 83 = .ok (.getfield 29, 3) := by decide +kernel
theorem dX6_sings_86 : decode cX6_sings 86 = .ok (.iadd, 1) := by decide +kernel
theorem dX6_sings_87 : decode cX6_sings 87 = .ok (.ireturn, 1) := by decide +kernel
theorem dX6_leans_0 : decode cX6_leans 0 = .ok (.iload_n 1, 1) := by decide +kernel
theorem dX6_leans_1 : decode cX6_leans 1 = .ok (.tableswitch 83 2 6 #[35, 83, 83, 50, 65], 35) := by decide +kernel
theorem dX6_leans_36 : decode cX6_leans 36 = .ok (.aload_n 0, 1) := by decide +kernel
theorem dX6_leans_37 : decode cX6_leans 37 = .ok (.bipush 30, 2) := by decide +kernel
theorem dX6_leans_39 : decode cX6_leans 39 = .ok (.invokevirtual 45, 3) := by decide +kernel
theorem dX6_leans_42 : decode cX6_leans 42 = .ok (.iconst 0, 1) := by decide +kernel
theorem dX6_leans_43 : decode cX6_leans 43 = .ok (.aload_n 0, 1) := by decide +kernel
theorem dX6_leans_44 : decode cX6_leans 44 = .ok (.iconst 0, 1) := by decide +kernel
theorem dX6_leans_45 : decode cX6_leans 45 = .ok (.iload_n 2, 1) := by decide +kernel
theorem dX6_leans_46 : decode cX6_leans 46 = .ok (.invokevirtual 36, 3) := by decide +kernel
theorem dX6_leans_49 : decode cX6_leans 49 = .ok (.isub, 1) := by decide +kernel
theorem dX6_leans_50 : decode cX6_leans 50 = .ok (.ireturn, 1) := by decide +kernel
theorem dX6_leans_51 : decode cX6_leans 51 = .ok (.aload_n 0, 1) := by decide +kernel
theorem dX6_leans_52 : decode cX6_leans 52 = .ok (.bipush 60, 2) := by decide +kernel
theorem dX6_leans_54 : decode cX6_leans 54 = .ok (.invokevirtual 45, 3) := by decide +kernel
theorem dX6_leans_57 : decode cX6_leans 57 = .ok (.aload_n 0, 1) := by decide +kernel
theorem dX6_leans_58 : decode cX6_leans 58 = .ok (.iconst 2, 1) := by decide +kernel
theorem dX6_leans_59 : decode cX6_leans 59 = .ok (.iload_n 2, 1) := by decide +kernel
theorem dX6_leans_60 : decode cX6_leans 60 = .ok (.iconst 1, 1) := by decide +kernel
theorem dX6_leans_61 : decode cX6_leans 61 = .ok (.iadd, 1) := by decide +kernel
theorem dX6_leans_62 : decode cX6_leans 62 = .ok (.invokevirtual 36, 3) := by decide +kernel
theorem dX6_leans_65 : decode cX6_leans 65 = .ok (.ireturn, 1) := by decide +kernel
theorem dX6_leans_66 : decode cX6_leans 66 = .ok (.aload_n 0, 1) := by decide +kernel
theorem dX6_leans_67 : decode cX6_leans 67 = .ok (.bipush 71, 2) := by decide +kernel
theorem dX6_leans_69 : decode cX6_leans 69 = .ok (.invokevirtual 45, 3) := by decide +kernel
theorem dX6_leans_72 : decode cX6_leans 72 = .ok (.aload_n 0, 1) := by decide +kernel
theorem dX6_leans_73 : decode cX6_leans 73 = .ok (.iconst 0, 1) := by decide +kernel
theorem dX6_leans_74 : decode cX6_leans 74 = .ok (.iload_n 2, 1) := by decide +kernel
theorem dX6_leans_75 : decode cX6_leans 75 = .ok (.invokevirtual 36, 3) := by decide +kernel
theorem dX6_leans_78 : decode cX6_leans 78 = .ok (.aload_n 0, 1) := by decide +kernel
theorem dX6_leans_79 : decode cX6_leans 79 = .ok (.getfield 26, 3) := by decide +kernel
theorem dX6_leans_82 : decode cX6_leans 82 = .ok (.iadd, 1) := by decide +kernel
theorem dX6_leans_83 : decode cX6_leans 83 = .ok (.ireturn, 1) := by decide +kernel
theorem dX6_leans_84 : decode cX6_leans 84 = .ok (.aload_n 0, 1) := by decide +kernel
theorem dX6_leans_85 : decode cX6_leans 85 = .ok (.bipush 11, 2) := by decide +kernel
theorem dX6_leans_87 : decode cX6_leans 87 = .ok (.invokevirtual 45, 3) := by decide +kernel
theorem dX6_leans_90 : decode cX6_leans 90 = .ok (.aload_n 0, 1) := by decide +kernel
theorem dX6_leans_91 : decode cX6_leans 91 = .ok (.aload_n 0, 1) := by decide +kernel
theorem dX6_leans_92 : decode cX6_leans 92 = .ok (.getfield 23, 3) := by decide +kernel
theorem dX6_leans_95 : decode cX6_leans 95 = .ok (.iload_n 2, 1) := by decide +kernel
theorem dX6_leans_96 : decode cX6_leans 96 = .ok (.invokevirtual 32, 3) := by decide +kernel
theorem dX6_leans_99 : decode cX6_leans 99 = .ok (.iconst 2, 1) := by decide +kernel
theorem dX6_leans_100 : decode cX6_leans 100 = .ok (.imul, 1) := by decide +kernel
theorem dX6_leans_101 : decode cX6_leans 101 = .ok (.ireturn, 1) := by decide +kernel
theorem dX6_sprouts_0 : decode cX6_sprouts 0 = .ok (.iload_n 1, 1) := by decide +kernel
theorem dX6_sprouts_1 : decode cX6_sprouts 1 = .ok (.lookupswitch 60 #[(3, 27), (4, 42)], 27) := by decide +kernel
theorem dX6_sprouts_28 : decode cX6_sprouts 28 = .ok (.aload_n 0, 1) := by decide +kernel
theorem dX6_sprouts_29 : decode cX6_sprouts 29 = .ok (.bipush 40, 2) := by decide +kernel
theorem dX6_sprouts_31 : decode cX6_sprouts 31 = .ok (.invokevirtual 45, 3) := by decide +kernel
theorem dX6_sprouts_34 : decode cX6_sprouts 34 = .ok (.aload_n 0, 1) := by decide +kernel
theorem dX6_sprouts_35 : decode cX6_sprouts 35 = .ok (.iconst 0, 1) := by decide +kernel
theorem dX6_sprouts_36 : decode cX6_sprouts 36 = .ok (.iload_n 2, 1) := by decide +kernel
theorem dX6_sprouts_37 : decode cX6_sprouts 37 = .ok (.iconst 2, 1) := by decide +kernel
theorem dX6_sprouts_38 : decode cX6_sprouts 38 = .ok (.idiv, 1) := by decide +kernel
theorem dX6_sprouts_39 : decode cX6_sprouts 39 = .ok (.invokevirtual 39, 3) := by decide +kernel
theorem dX6_sprouts_42 : decode cX6_sprouts 42 = .ok (.ireturn, 1) := by decide +kernel
theorem dX6_sprouts_43 : decode cX6_sprouts 43 = .ok (.aload_n 0, 1) := by decide +kernel
theorem dX6_sprouts_44 : decode cX6_sprouts 44 = .ok (.bipush 51, 2) := by decide +kernel
theorem dX6_sprouts_46 : decode cX6_sprouts 46 = .ok (.invokevirtual 45, 3) := by decide +kernel
theorem dX6_sprouts_49 : decode cX6_sprouts 49 = .ok (.aload_n 0, 1) := by decide +kernel
theorem dX6_sprouts_50 : decode cX6_sprouts 50 = .ok (.iconst 1, 1) := by decide +kernel
theorem dX6_sprouts_51 : decode cX6_sprouts 51 = .ok (.iload_n 2, 1) := by decide +kernel
theorem dX6_sprouts_52 : decode cX6_sprouts 52 = .ok (.invokevirtual 39, 3) := by decide +kernel
theorem dX6_sprouts_55 : decode cX6_sprouts 55 = .ok (.aload_n 0, 1) := by decide +kernel
theorem dX6_sprouts_56 : decode cX6_sprouts 56 = .ok (.getfield 29, 3) := by decide +kernel
theorem dX6_sprouts_59 : decode cX6_sprouts 59 = .ok (.ixor, 1) := by decide +kernel
theorem dX6_sprouts_60 : decode cX6_sprouts 60 = .ok (.ireturn, 1) := by decide +kernel
theorem dX6_sprouts_61 : decode cX6_sprouts 61 = .ok (.aload_n 0, 1) := by decide +kernel
theorem dX6_sprouts_62 : decode cX6_sprouts 62 = .ok (.bipush 12, 2) := by decide +kernel
theorem dX6_sprouts_64 : decode cX6_sprouts 64 = .ok (.invokevirtual 45, 3) := by decide +kernel
theorem dX6_sprouts_67 : decode cX6_sprouts 67 = .ok (.aload_n 0, 1) := by decide +kernel
theorem dX6_sprouts_68 : decode cX6_sprouts 68 = .ok (.aload_n 0, 1) := by decide +kernel
theorem dX6_sprouts_69 : decode cX6_sprouts 69 = .ok (.getfield 23, 3) := by decide +kernel
theorem dX6_sprouts_72 : decode cX6_sprouts 72 = .ok (.iload_n 2, 1) := by decide +kernel
theorem dX6_sprouts_73 : decode cX6_sprouts 73 = .ok (.invokevirtual 36, 3) := by decide +kernel
theorem dX6_sprouts_76 : decode cX6_sprouts 76 = .ok (.aload_n 0, 1) := by decide +kernel
theorem dX6_sprouts_77 : decode cX6_sprouts 77 = .ok (.getfield 26, 3) := by decide +kernel
theorem dX6_sprouts_80 : decode cX6_sprouts 80 = .ok (.isub, 1) := by decide +kernel
theorem dX6_sprouts_81 : decode cX6_sprouts 81 = .ok (.ireturn, 1) := by decide +kernel
theorem dX6_parts_0 : decode cX6_parts 0 = .ok (.iload_n 1, 1) := by decide +kernel
theorem dX6_parts_1 : decode cX6_parts 1 = .ok (.lookupswitch 63 #[(1, 27), (4, 27)], 27) := by decide +kernel
theorem dX6_parts_28 : decode cX6_parts 28 = .ok (.aload_n 0, 1) := by decide +kernel
theorem dX6_parts_29 : decode cX6_parts 29 = .ok (.bipush 21, 2) := by decide +kernel
theorem dX6_parts_31 : decode cX6_parts 31 = .ok (.invokevirtual 45, 3) := by decide +kernel
theorem dX6_parts_34 : decode cX6_parts 34 = .ok (.aload_n 0, 1) := by decide +kernel
theorem dX6_parts_35 : decode cX6_parts 35 = .ok (.iconst 0, 1) := by decide +kernel
theorem dX6_parts_36 : decode cX6_parts 36 = .ok (.iload_n 2, 1) := by decide +kernel
theorem dX6_parts_37 : decode cX6_parts 37 = .ok (.invokevirtual 42, 3) := by decide +kernel
theorem dX6_parts_40 : decode cX6_parts 40 = .ok (.istore_n 3, 1) := by decide +kernel
theorem dX6_parts_41 : decode cX6_parts 41 = .ok (.aload_n 0, 1) := by decide +kernel
theorem dX6_parts_42 : decode cX6_parts 42 = .ok (.getfield 19, 3) := by decide +kernel
theorem dX6_parts_45 : decode cX6_parts 45 = .ok (.ifCond .eq 7, 3) := by decide +kernel
theorem dX6_parts_48 : decode cX6_parts 48 = .ok (.iconst 0, 1) := by decide +kernel
theorem dX6_parts_49 : decode cX6_parts 49 = .ok (.goto 14, 3) := by decide +kernel
theorem dX6_parts_52 : decode cX6_parts 52 = .ok (.iload_n 3, 1) := by decide +kernel
theorem dX6_parts_53 : decode cX6_parts 53 = .ok (.aload_n 0, 1) := by decide +kernel
theorem dX6_parts_54 : decode cX6_parts 54 = .ok (.aload_n 0, 1) := by decide +kernel
theorem dX6_parts_55 : decode cX6_parts 55 = .ok (.getfield 23, 3) := by decide +kernel
theorem dX6_parts_58 : decode cX6_parts 58 = .ok (.iconst 1, 1) := by decide +kernel
theorem dX6_parts_59 : decode cX6_parts 59 = .ok (.invokevirtual 36, 3) := by decide +kernel
theorem dX6_parts_62 : decode cX6_parts 62 = .ok (.iadd, 1) := by decide +kernel
theorem dX6_parts_63 : decode cX6_parts 63 = .ok (.ireturn, 1) := by decide +kernel
theorem dX6_parts_64 : decode cX6_parts 64 = .ok (.aload_n 0, 1) := by decide +kernel
theorem dX6_parts_65 : decode cX6_parts 65 = .ok (.bipush 13, 2) := by decide +kernel
theorem dX6_parts_67 : decode cX6_parts 67 = .ok (.invokevirtual 45, 3) := by decide +kernel
theorem dX6_parts_70 : decode cX6_parts 70 = .ok (.aload_n 0, 1) := by decide +kernel
theorem dX6_parts_71 : decode cX6_parts 71 = .ok (.getfield 26, 3) := by decide +kernel
theorem dX6_parts_74 : decode cX6_parts 74 = .ok (.aload_n 0, 1) := by decide +kernel
theorem dX6_parts_75 : decode cX6_parts 75 = .ok (.getfield 29, 3) := by decide +kernel
theorem dX6_parts_78 : decode cX6_parts 78 = .ok (.isub, 1) := by decide +kernel
theorem dX6_parts_79 : decode cX6_parts 79 = .ok (.istore 4, 2) := by decide +kernel
theorem dX6_parts_81 : decode cX6_parts 81 = .ok (.aload_n 0, 1) := by decide +kernel
theorem dX6_parts_82 : decode cX6_parts 82 = .ok (.iload 4, 2) := by decide +kernel
theorem dX6_parts_84 : decode cX6_parts 84 = .ok (.ifCond .ne 7, 3) := by decide +kernel
theorem dX6_parts_87 : decode cX6_parts 87 = .ok (.iconst 1, 1) := by decide +kernel
theorem dX6_parts_88 : decode cX6_parts 88 = .ok (.goto 4, 3) := by decide +kernel
theorem dX6_parts_91 : decode cX6_parts 91 = .ok (.iconst 0, 1) := by decide +kernel
theorem dX6_parts_92 : decode cX6_parts 92 = .ok (.putfield 19, 3) := by decide +kernel
theorem dX6_parts_95 : decode cX6_parts 95 = .ok (.iload 4, 2) := by decide +kernel
theorem dX6_parts_97 : decode cX6_parts 97 = .ok (.ifCond .ne 7, 3) := by decide +kernel
theorem dX6_parts_100 : decode cX6_parts 100 = .ok (.iconst 0, 1) := by decide +kernel
theorem dX6_parts_101 : decode cX6_parts 101 = .ok (.goto 7, 3) := by decide +kernel
theorem dX6_parts_104 : decode cX6_parts 104 = .ok (.iload_n 2, 1) := by decide +kernel
theorem dX6_parts_105 : decode cX6_parts 105 = .ok (.iload 4, 2) := by decide +kernel
theorem dX6_parts_107 : decode cX6_parts 107 = .ok (.idiv, 1) := by decide +kernel
theorem dX6_parts_108 : decode cX6_parts 108 = .ok (.ireturn, 1) := by decide +kernel
end
section
theorem dX7_init_0 : decode cX7_init 0 = .ok (.aload_n 0, 1) := by decide +kernel
theorem dX7_init_1 : decode cX7_init 1 = .ok (.invokespecial 1, 3) := by decide +kernel
theorem dX7_init_4 : decode cX7_init 4 = .ok (.aload_n 0, 1) := by decide +kernel
theorem dX7_init_5 : decode cX7_init 5 = .ok (.new 7, 3) := by decide +kernel
theorem dX7_init_8 : decode cX7_init 8 = .ok (.dup, 1) := by decide +kernel
theorem dX7_init_9 : decode cX7_init 9 = .ok (.invokespecial 9, 3) := by decide +kernel
theorem dX7_init_12 : decode cX7_init 12 = .ok (.putfield 10, 3) := by decide +kernel
theorem dX7_init_15 : decode cX7_init 15 = .ok (.aload_n 0, 1) := by decide +kernel
theorem dX7_init_16 : decode cX7_init 16 = .ok (.new 7, 3) := by decide +kernel
theorem dX7_init_19 : decode cX7_init 19 = .ok (.dup, 1) := by decide +kernel
theorem dX7_init_20 : decode cX7_init 20 = .ok (.invokespecial 9, 3) := by decide +kernel
theorem dX7_init_23 : decode cX7_init 23 = .ok (.putfield 16, 3) := by decide +kernel
theorem dX7_init_26 : decode cX7_init 26 = .ok (.aload_n 0, 1) := by decide +kernel
theorem dX7_init_27 : decode cX7_init 27 = .ok (.new 7, 3) := by decide +kernel
theorem dX7_init_30 : decode cX7_init 30 = .ok (.dup, 1) := by decide +kernel
theorem dX7_init_31 : decode cX7_init 31 = .ok (.invokespecial 9, 3) := by decide +kernel
theorem dX7_init_34 : decode cX7_init 34 = .ok (.putfield 19, 3) := by decide +kernel
theorem dX7_init_37 : decode cX7_init 37 = .ok (.aload_n 0, 1) := by decide +kernel
theorem dX7_init_38 : decode cX7_init 38 = .ok (.new 22, 3) := by decide +kernel
theorem dX7_init_41 : decode cX7_init 41 = .ok (.dup, 1) := by decide +kernel
theorem dX7_init_42 : decode cX7_init 42 = .ok (.invokespecial 24, 3) := by decide +kernel
theorem dX7_init_45 : decode cX7_init 45 = .ok (.putfield 25, 3) := by decide +kernel
theorem dX7_init_48 : decode cX7_init 48 = .ok (.aload_n 0, 1) := by decide +kernel
theorem dX7_init_49 : decode cX7_init 49 = .ok (.new 29, 3) := by decide +kernel
theorem dX7_init_52 : decode cX7_init 52 = .ok (.dup, 1) := by decide +kernel
theorem dX7_init_53 : decode cX7_init 53 = .ok (.invokespecial 31, 3) := by decide +kernel
theorem dX7_init_56 : decode cX7_init 56 = .ok (.putfield 32, 3) := by decide +kernel
theorem dX7_init_59 : decode cX7_init 59 = .ok (.aload_n 0, 1) := by decide +kernel
theorem dX7_init_60 : decode cX7_init 60 = .ok (.iconst 4, 1) := by decide +kernel
theorem dX7_init_61 : decode cX7_init 61 = .ok (.anewarray 36, 3) := by decide +kernel
theorem dX7_init_64 : decode cX7_init 64 = .ok (.putfield 38, 3) := by decide +kernel
theorem dX7_init_67 : decode cX7_init 67 = .ok (.aload_n 0, 1) := by decide +kernel
theorem dX7_init_68 : decode cX7_init 68 = .ok (.bipush 7, 2) := by decide +kernel
theorem dX7_init_70 : decode cX7_init 70 = .ok (.newarray .int, 2) := by decide +kernel
theorem dX7_init_72 : decode cX7_init 72 = .ok (.putfield 42, 3) := by decide +kernel
theorem dX7_init_75 : decode cX7_init 75 = .ok (.iconst 0, 1) := by decide +kernel
theorem dX7_init_76 : decode cX7_init 76 = .ok (.istore_n 1, 1) := by decide +kernel
theorem dX7_init_77 : decode cX7_init 77 = .ok (.iload_n 1, 1) := by decide +kernel
theorem dX7_init_78 : decode cX7_init 78 = .ok (.iconst 4, 1) := by decide +kernel
theorem dX7_init_79 : decode cX7_init 79 = .ok (.if_icmp .ge 22, 3) := by decide +kernel
theorem dX7_init_82 : decode cX7_init 82 = .ok (.aload_n 0, 1) := by decide +kernel
theorem dX7_init_83 : decode cX7_init 83 = .ok (.getfield 38, 3) := by decide +kernel
theorem dX7_init_86 : decode cX7_init 86 = .ok (.iload_n 1, 1) := by decide +kernel
theorem dX7_init_87 : decode cX7_init 87 = .ok (.new 36, 3) := by decide +kernel
theorem dX7_init_90 : decode cX7_init 90 = .ok (.dup, 1) := by decide +kernel
theorem dX7_init_91 : decode cX7_init 91 = .ok (.invokespecial 46, 3) := by decide +kernel
theorem dX7_init_94 : decode cX7_init 94 = .ok (.aastore, 1) := by decide +kernel
theorem dX7_init_95 : decode cX7_init 95 = .ok (.iinc 1 1, 3) := by decide +kernel
theorem dX7_init_98 : decode cX7_init 98 = .ok (.goto (-21), 3) := by decide +kernel
theorem dX7_init_101 : decode cX7_init 101 = .ok (.return_, 1) := by decide +kernel
theorem dX7_fence_0 : decode cX7_fence 0 = .ok (.iload_n 1, 1) := by decide +kernel
theorem dX7_fence_1 : decode cX7_fence 1 = .ok (.invokestatic 47, 3) := by decide +kernel
theorem dX7_fence_4 : decode cX7_fence 4 = .ok (.ifCond .eq 10, 3) := by decide +kernel
theorem dX7_fence_7 : decode cX7_fence 7 = .ok (.iload_n 2, 1) := by decide +kernel
theorem dX7_fence_8 : decode cX7_fence 8 = .ok (.invokestatic 51, 3) := by decide +kernel
theorem dX7_fence_11 : decode cX7_fence 11 = .ok (.ifCond .ne 9, 3) := by decide +kernel
theorem dX7_fence_14 : decode cX7_fence 14 = .ok (.aload_n 0, 1) := by decide +kernel
theorem dX7_fence_15 : decode cX7_fence 15 = .ok (.iconst 1, 1) := by decide +kernel
theorem dX7_fence_16 : decode cX7_fence 16 = .ok (.invokevirtual 54, 3) := by decide +kernel
theorem dX7_fence_19 : decode cX7_fence 19 = .ok (.ireturn, 1) := by decide +kernel
theorem dX7_fence_20 : decode cX7_fence 20 = .ok (.aload_n 0, 1) := by decide +kernel
theorem dX7_fence_21 : decode cX7_fence 21 = .ok (.getfield 10, 3) := by decide +kernel
theorem dX7_fence_24 : decode cX7_fence 24 = .ok (.getfield 58, 3) := by decide +kernel
theorem dX7_fence_27 : decode cX7_fence 27 = .ok (.iconst 4, 1) := by decide +kernel
theorem dX7_fence_28 : decode cX7_fence 28 = .ok (.if_icmp .lt 9, 3) := by decide +kernel
theorem dX7_fence_31 : decode cX7_fence 31 = .ok (.aload_n 0, 1) := by decide +kernel
theorem dX7_fence_32 : decode cX7_fence 32 = .ok (.iconst 4, 1) := by decide +kernel
theorem dX7_fence_33 : decode cX7_fence 33 = .ok (.invokevirtual 54, 3) := by decide +kernel
theorem dX7_fence_36 : decode cX7_fence 36 = .ok (.ireturn, 1) := by decide +kernel
theorem dX7_fence_37 : decode cX7_fence 37 = .ok (.aload_n 0, 1) := by decide +kernel
theorem dX7_fence_38 : decode cX7_fence 38 = .ok (.getfield 10, 3) := by decide +kernel
theorem dX7_fence_41 : decode cX7_fence 41 = .ok (.getfield 62, 3) := by decide +kernel
theorem dX7_fence_44 : decode cX7_fence 44 = .ok (.aload_n 0, 1) := by decide +kernel
theorem dX7_fence_45 : decode cX7_fence 45 = .ok (.getfield 10, 3) := by decide +kernel
theorem dX7_fence_48 : decode cX7_fence 48 = .ok (.getfield 58, 3) := by decide +kernel
theorem dX7_fence_51 : decode cX7_fence 51 = .ok (.aaload, 1) := by decide +kernel
theorem dX7_fence_52 : decode cX7_fence 52 = .ok (.iload_n 1, 1) := by decide +kernel
theorem dX7_fence_53 : decode cX7_fence 53 = .ok (.iload_n 2, 1) := by decide +kernel
theorem dX7_fence_54 : decode cX7_fence 54 = .ok (.invokevirtual 66, 3) := by decide +kernel
theorem dX7_fence_57 : decode cX7_fence 57 = .ok (.aload_n 0, 1) := by decide +kernel
theorem dX7_fence_58 : decode cX7_fence 58 = .ok (.getfield 10, 3) := by decide +kernel
theorem dX7_fence_61 : decode cX7_fence 61 = .ok (.dup, 1) := by decide +kernel
theorem dX7_fence_62 : decode cX7_fence 62 = .ok (.getfield 58, 3) := by decide +kernel
theorem dX7_fence_65 : decode cX7_fence 65 = .ok (.iconst 1, 1) := by decide +kernel
theorem dX7_fence_66 : decode cX7_fence 66 = .ok (.iadd, 1) := by decide +kernel
theorem dX7_fence_67 : decode cX7_fence 67 = .ok (.putfield 58, 3) := by decide +kernel
theorem dX7_fence_70 : decode cX7_fence 70 = .ok (.aload_n 0, 1) := by decide +kernel
theorem dX7_fence_71 : decode cX7_fence 71 = .ok (.getfield 10, 3) := by decide +kernel
theorem dX7_fence_74 : decode cX7_fence 74 = .ok (.getfield 58, 3) := by decide +kernel
theorem dX7_fence_77 : decode cX7_fence 77 = .ok (.iconst 1, 1) := by decide +kernel
theorem dX7_fence_78 : decode cX7_fence 78 = .ok (.isub, 1) := by decide +kernel
theorem dX7_fence_79 : decode cX7_fence 79 = .ok (.ireturn, 1) := by decide +kernel
theorem dX7_post_0 : decode cX7_post 0 = .ok (.aload_n 0, 1) := by decide +kernel
theorem dX7_post_1 : decode cX7_post 1 = .ok (.iload_n 1, 1) := by decide +kernel
theorem dX7_post_2 : decode cX7_post 2 = .ok (.invokevirtual 72, 3) := by decide +kernel
theorem dX7_post_5 : decode cX7_post 5 = .ok (.ifCond .eq 10, 3) := by decide +kernel
theorem dX7_post_8 : decode cX7_post 8 = .ok (.iload_n 2, 1) := by decide +kernel
theorem dX7_post_9 : decode cX7_post 9 = .ok (.invokestatic 75, 3) := by decide +kernel
theorem dX7_post_12 : decode cX7_post 12 = .ok (.ifCond .ne 9, 3) := by decide +kernel
theorem dX7_post_15 : decode cX7_post 15 = .ok (.aload_n 0, 1) := by decide +kernel
theorem dX7_post_16 : decode cX7_post 16 = .ok (.iconst 1, 1) := by decide +kernel
theorem dX7_post_17 : decode cX7_post 17 = .ok (.invokevirtual 54, 3) := by decide +kernel
theorem dX7_post_20 : decode cX7_post 20 = .ok (.ireturn, 1) := by decide +kernel
theorem dX7_post_21 : decode cX7_post 21 = .ok (.aload_n 0, 1) := by decide +kernel
theorem dX7_post_22 : decode cX7_post 22 = .ok (.getfield 10, 3) := by decide +kernel
theorem dX7_post_25 : decode cX7_post 25 = .ok (.getfield 62, 3) := by decide +kernel
theorem dX7_post_28 : decode cX7_post 28 = .ok (.iload_n 1, 1) := by decide +kernel
theorem dX7_post_29 : decode cX7_post 29 = .ok (.aaload, 1) := by decide +kernel
theorem dX7_post_30 : decode cX7_post 30 = .ok (.astore_n 3, 1) := by decide +kernel
theorem dX7_post_31 : decode cX7_post 31 = .ok (.aload_n 3, 1) := by decide +kernel
theorem dX7_post_32 : decode cX7_post 32 = .ok (.getfield 80, 3) := by decide +kernel
theorem dX7_post_35 : decode cX7_post 35 = .ok (.bipush 8, 2) := by decide +kernel
theorem dX7_post_37 : decode cX7_post 37 = .ok (.if_icmp .lt 9, 3) := by decide +kernel
theorem dX7_post_40 : decode cX7_post 40 = .ok (.aload_n 0, 1) := by decide +kernel
theorem dX7_post_41 : decode cX7_post 41 = .ok (.iconst 4, 1) := by decide +kernel
theorem dX7_post_42 : decode cX7_post 42 = .ok (.invokevirtual 54, 3) := by decide +kernel
theorem dX7_post_45 : decode cX7_post 45 = .ok (.ireturn, 1) := by decide +kernel
theorem dX7_post_46 : decode cX7_post 46 = .ok (.aload_n 3, 1) := by decide +kernel
theorem dX7_post_47 : decode cX7_post 47 = .ok (.getfield 83, 3) := by decide +kernel
theorem dX7_post_50 : decode cX7_post 50 = .ok (.aload_n 3, 1) := by decide +kernel
theorem dX7_post_51 : decode cX7_post 51 = .ok (.getfield 80, 3) := by decide +kernel
theorem dX7_post_54 : decode cX7_post 54 = .ok (.iload_n 2, 1) := by decide +kernel
theorem dX7_post_55 : decode cX7_post 55 = .ok (.iastore, 1) := by decide +kernel
theorem dX7_post_56 : decode cX7_post 56 = .ok (.aload_n 3, 1) := by decide +kernel
theorem dX7_post_57 : decode cX7_post 57 = .ok (.dup, 1) := by decide +kernel
theorem dX7_post_58 : decode cX7_post 58 = .ok (.getfield 80, 3) := by decide +kernel
theorem dX7_post_61 : decode cX7_post 61 = .ok (.iconst 1, 1) := by decide +kernel
theorem dX7_post_62 : decode cX7_post 62 = .ok (.iadd, 1) := by decide +kernel
theorem dX7_post_63 : decode cX7_post 63 = .ok (.putfield 80, 3) := by decide +kernel
theorem dX7_post_66 : decode cX7_post 66 = .ok (.aload_n 3, 1) := by decide +kernel
theorem dX7_post_67 : decode cX7_post 67 = .ok (.getfield 80, 3) := by decide +kernel
theorem dX7_post_70 : decode cX7_post 70 = .ok (.ireturn, 1) := by decide +kernel
theorem dX7_fenceIs_0 : decode cX7_fenceIs 0 = .ok (.aload_n 0, 1) := by decide +kernel
theorem dX7_fenceIs_1 : decode cX7_fenceIs 1 = .ok (.iload_n 1, 1) := by decide +kernel
theorem dX7_fenceIs_2 : decode cX7_fenceIs 2 = .ok (.invokevirtual 72, 3) := by decide +kernel
theorem dX7_fenceIs_5 : decode cX7_fenceIs 5 = .ok (.ifCond .ne 9, 3) := by decide +kernel
theorem dX7_fenceIs_8 : decode cX7_fenceIs 8 = .ok (.aload_n 0, 1) := by decide +kernel
theorem dX7_fenceIs_9 : decode cX7_fenceIs 9 = .ok (.iconst 1, 1) := by decide +kernel
theorem dX7_fenceIs_10 : decode cX7_fenceIs 10 = .ok (.invokevirtual 54, 3) := by decide +kernel
theorem dX7_fenceIs_13 : decode cX7_fenceIs 13 = .ok (.ireturn, 1) := by decide +kernel
theorem dX7_fenceIs_14 : decode cX7_fenceIs 14 = .ok (.aload_n 0, 1) := by decide +kernel
theorem dX7_fenceIs_15 : decode cX7_fenceIs 15 = .ok (.getfield 10, 3) := by decide +kernel
theorem dX7_fenceIs_18 : decode cX7_fenceIs 18 = .ok (.getfield 62, 3) := by decide +kernel
theorem dX7_fenceIs_21 : decode cX7_fenceIs 21 = .ok (.iload_n 1, 1) := by decide +kernel
theorem dX7_fenceIs_22 : decode cX7_fenceIs 22 = .ok (.aaload, 1) := by decide +kernel
theorem dX7_fenceIs_23 : decode cX7_fenceIs 23 = .ok (.astore_n 3, 1) := by decide +kernel
theorem dX7_fenceIs_24 : decode cX7_fenceIs 24 = .ok (.iload_n 2, 1) := by decide +kernel
theorem dX7_fenceIs_25 : decode cX7_fenceIs 25 = .ok (.tableswitch 89 0 6 #[43, 48, 53, 58, 63, 68, 76], 43) := by decide +kernel
theorem dX7_fenceIs_68 : decode cX7_fenceIs 68 = .ok (.aload_n 3, 1) := by decide +kernel
theorem dX7_fenceIs_69 : decode cX7_fenceIs 69 = .ok (.getfield 86, 3) := by decide +kernel
theorem dX7_fenceIs_72 : decode cX7_fenceIs 72 = .ok (.ireturn, 1) := by decide +kernel
theorem dX7_fenceIs_73 : decode cX7_fenceIs 73 = .ok (.aload_n 3, 1) := by decide +kernel
theorem dX7_fenceIs_74 : decode cX7_fenceIs 74 = .ok (.getfield 89, 3) := by decide +kernel
theorem dX7_fenceIs_77 : decode cX7_fenceIs 77 = .ok (.ireturn, 1) := by decide +kernel
theorem dX7_fenceIs_78 : decode cX7_fenceIs 78 = .ok (.aload_n 3, 1) := by decide +kernel
theorem dX7_fenceIs_79 : decode cX7_fenceIs 79 = .ok (.getfield 92, 3) := by decide +kernel
theorem dX7_fenceIs_82 : decode cX7_fenceIs 82 = .ok (.ireturn, 1) := by decide +kernel
theorem dX7_fenceIs_83 : decode cX7_fenceIs 83 = .ok (.aload_n 3, 1) := by decide +kernel
theorem dX7_fenceIs_84 : decode cX7_fenceIs 84 = .ok (.getfield 80, 3) := by decide +kernel
theorem dX7_fenceIs_87 : decode cX7_fenceIs 87 = .ok (.ireturn, 1) := by decide +kernel
theorem dX7_fenceIs_88 : decode cX7_fenceIs 88 = .ok (.aload_n 3, 1) := by decide +kernel
theorem dX7_fenceIs_89 : decode cX7_fenceIs 89 = .ok (.getfield 95, 3) := by decide +kernel
theorem dX7_fenceIs_92 : decode cX7_fenceIs 92 = .ok (.ireturn, 1) := by decide +kernel
theorem dX7_fenceIs_93 : decode cX7_fenceIs 93 = .ok (.aload_n 3, 1) := by decide +kernel
theorem dX7_fenceIs_94 : decode cX7_fenceIs 94 = .ok (.invokevirtual 98, 3) := by decide +kernel
theorem dX7_fenceIs_97 : decode cX7_fenceIs 97 = .ok (.invokestatic 102, 3) := by decide +kernel
theorem dX7_fenceIs_100 : decode cX7_fenceIs 100 = .ok (.ireturn, 1) := by decide +kernel
theorem dX7_fenceIs_101 : decode cX7_fenceIs 101 = .ok (.aload_n 0, 1) := by decide +kernel
theorem dX7_fenceIs_102 : decode cX7_fenceIs 102 = .ok (.getfield 10, 3) := by decide +kernel
theorem dX7_fenceIs_105 : decode cX7_fenceIs 105 = .ok (.aload_n 3, 1) := by decide +kernel
theorem dX7_fenceIs_106 : decode cX7_fenceIs 106 = .ok (.aload_n 3, 1) := by decide +kernel
theorem dX7_fenceIs_107 : decode cX7_fenceIs 107 = .ok (.invokevirtual 98, 3) := by decide +kernel
theorem dX7_fenceIs_110 : decode cX7_fenceIs 110 = .ok (.invokevirtual 108, 3) := by decide +kernel
theorem dX7_fenceIs_113 : decode cX7_fenceIs 113 = .ok (.ireturn, 1) := by decide +kernel
theorem dX7_fenceIs_114 : decode cX7_fenceIs 114 = .ok (.aload_n 0, 1) := by decide +kernel
theorem dX7_fenceIs_115 : decode cX7_fenceIs 115 = .ok (.iconst 1, 1) := by decide +kernel
theorem dX7_fenceIs_116 : decode cX7_fenceIs 116 = .ok (.invokevirtual 54, 3) := by decide +kernel
theorem dX7_fenceIs_119 : decode cX7_fenceIs 119 = .ok (.ireturn, 1) := by decide +kernel
theorem dX7_at_0 : decode cX7_at 0 = .ok (.aload_n 0, 1) := by decide +kernel
theorem dX7_at_1 : decode cX7_at 1 = .ok (.iload_n 1, 1) := by decide +kernel
theorem dX7_at_2 : decode cX7_at 2 = .ok (.iload_n 2, 1) := by decide +kernel
theorem dX7_at_3 : decode cX7_at 3 = .ok (.invokevirtual 112, 3) := by decide +kernel
theorem dX7_at_6 : decode cX7_at 6 = .ok (.ifCond .ne 9, 3) := by decide +kernel
theorem dX7_at_9 : decode cX7_at 9 = .ok (.aload_n 0, 1) := by decide +kernel
theorem dX7_at_10 : decode cX7_at 10 = .ok (.iconst 1, 1) := by decide +kernel
theorem dX7_at_11 : decode cX7_at 11 = .ok (.invokevirtual 54, 3) := by decide +kernel
theorem dX7_at_14 : decode cX7_at 14 = .ok (.ireturn, 1) := by decide +kernel
theorem dX7_at_15 : decode cX7_at 15 = .ok (.aload_n 0, 1) := by decide +kernel
theorem dX7_at_16 : decode cX7_at 16 = .ok (.getfield 10, 3) := by decide +kernel
theorem dX7_at_19 : decode cX7_at 19 = .ok (.getfield 62, 3) := by decide +kernel
theorem dX7_at_22 : decode cX7_at 22 = .ok (.iload_n 1, 1) := by decide +kernel
theorem dX7_at_23 : decode cX7_at 23 = .ok (.aaload, 1) := by decide +kernel
theorem dX7_at_24 : decode cX7_at 24 = .ok (.getfield 83, 3) := by decide +kernel
theorem dX7_at_27 : decode cX7_at 27 = .ok (.iload_n 2, 1) := by decide +kernel
theorem dX7_at_28 : decode cX7_at 28 = .ok (.iaload, 1) := by decide +kernel
theorem dX7_at_29 : decode cX7_at 29 = .ok (.ireturn, 1) := by decide +kernel
theorem dX7_heads_0 : decode cX7_heads 0 = .ok (.aload_n 0, 1) := by decide +kernel
theorem dX7_heads_1 : decode cX7_heads 1 = .ok (.iload_n 1, 1) := by decide +kernel
theorem dX7_heads_2 : decode cX7_heads 2 = .ok (.iload_n 2, 1) := by decide +kernel
theorem dX7_heads_3 : decode cX7_heads 3 = .ok (.invokevirtual 112, 3) := by decide +kernel
theorem dX7_heads_6 : decode cX7_heads 6 = .ok (.ifCond .ne 9, 3) := by decide +kernel
theorem dX7_heads_9 : decode cX7_heads 9 = .ok (.aload_n 0, 1) := by decide +kernel
theorem dX7_heads_10 : decode cX7_heads 10 = .ok (.iconst 1, 1) := by decide +kernel
theorem dX7_heads_11 : decode cX7_heads 11 = .ok (.invokevirtual 54, 3) := by decide +kernel
theorem dX7_heads_14 : decode cX7_heads 14 = .ok (.ireturn, 1) := by decide +kernel
theorem dX7_heads_15 : decode cX7_heads 15 = .ok (.aload_n 0, 1) := by decide +kernel
theorem dX7_heads_16 : decode cX7_heads 16 = .ok (.getfield 10, 3) := by decide +kernel
theorem dX7_heads_19 : decode cX7_heads 19 = .ok (.getfield 62, 3) := by decide +kernel
theorem dX7_heads_22 : decode cX7_heads 22 = .ok (.iload_n 1, 1) := by decide +kernel
theorem dX7_heads_23 : decode cX7_heads 23 = .ok (.aaload, 1) := by decide +kernel
theorem dX7_heads_24 : decode cX7_heads 24 = .ok (.iload_n 2, 1) := by decide +kernel
theorem dX7_heads_25 : decode cX7_heads 25 = .ok (.aload_n 0, 1) := by decide +kernel
theorem dX7_heads_26 : decode cX7_heads 26 = .ok (.getfield 10, 3) := by decide +kernel
theorem dX7_heads_29 : decode cX7_heads 29 = .ok (.getfield 116, 3) := by decide +kernel
theorem dX7_heads_32 : decode cX7_heads 32 = .ok (.invokevirtual 119, 3) := by decide +kernel
theorem dX7_heads_35 : decode cX7_heads 35 = .ok (.ireturn, 1) := by decide +kernel
theorem dX7_become_0 : decode cX7_become 0 = .ok (.aload_n 0, 1) := by decide +kernel
theorem dX7_become_1 : decode cX7_become 1 = .ok (.iload_n 1, 1) := by decide +kernel
theorem dX7_become_2 : decode cX7_become 2 = .ok (.invokevirtual 72, 3) := by decide +kernel
theorem dX7_become_5 : decode cX7_become 5 = .ok (.ifCond .eq 10, 3) := by decide +kernel
theorem dX7_become_8 : decode cX7_become 8 = .ok (.iload_n 2, 1) := by decide +kernel
theorem dX7_become_9 : decode cX7_become 9 = .ok (.invokestatic 47, 3) := by decide +kernel
theorem dX7_become_12 : decode cX7_become 12 = .ok (.ifCond .ne 9, 3) := by decide +kernel
theorem dX7_become_15 : decode cX7_become 15 = .ok (.aload_n 0, 1) := by decide +kernel
theorem dX7_become_16 : decode cX7_become 16 = .ok (.iconst 1, 1) := by decide +kernel
theorem dX7_become_17 : decode cX7_become 17 = .ok (.invokevirtual 54, 3) := by decide +kernel
theorem dX7_become_20 : decode cX7_become 20 = .ok (.ireturn, 1) := by decide +kernel
theorem dX7_become_21 : decode cX7_become 21 = .ok (.aload_n 0, 1) := by decide +kernel
theorem dX7_become_22 : decode cX7_become 22 = .ok (.getfield 10, 3) := by decide +kernel
theorem dX7_become_25 : decode cX7_become 25 = .ok (.getfield 62, 3) := by decide +kernel
theorem dX7_become_28 : decode cX7_become 28 = .ok (.iload_n 1, 1) := by decide +kernel
theorem dX7_become_29 : decode cX7_become 29 = .ok (.aaload, 1) := by decide +kernel
theorem dX7_become_30 : decode cX7_become 30 = .ok (.astore_n 3, 1) := by decide +kernel
theorem dX7_become_31 : decode cX7_become 31 = .ok (.aload_n 3, 1) := by decide +kernel
theorem dX7_become_32 : decode cX7_become 32 = .ok (.getfield 86, 3) := by decide +kernel
theorem dX7_become_35 : decode cX7_become 35 = .ok (.istore 4, 2) := by decide +kernel
theorem dX7_become_37 : decode cX7_become 37 = .ok (.aload_n 3, 1) := by decide +kernel
theorem dX7_become_38 : decode cX7_become 38 = .ok (.iload_n 2, 1) := by decide +kernel
theorem dX7_become_39 : decode cX7_become 39 = .ok (.bipush 10, 2) := by decide +kernel
theorem dX7_become_41 : decode cX7_become 41 = .ok (.idiv, 1) := by decide +kernel
theorem dX7_become_42 : decode cX7_become 42 = .ok (.putfield 86, 3) := by decide +kernel
theorem dX7_become_45 : decode cX7_become 45 = .ok (.aload_n 3, 1) := by decide +kernel
theorem dX7_become_46 : decode cX7_become 46 = .ok (.iload_n 2, 1) := by decide +kernel
theorem dX7_become_47 : decode cX7_become 47 = .ok (.bipush 10, 2) := by decide +kernel
theorem dX7_become_49 : decode cX7_become 49 = .ok (.irem, 1) := by decide +kernel
theorem dX7_become_50 : decode cX7_become 50 = .ok (.putfield 89, 3) := by decide +kernel
theorem dX7_become_53 : decode cX7_become 53 = .ok (.iload 4, 2) := by decide +kernel
theorem dX7_become_55 : decode cX7_become 55 = .ok (.ireturn, 1) := by decide +kernel
theorem dX7_as_0 : decode cX7_as 0 = .ok (.aload_n 0, 1) := by decide +kernel
theorem dX7_as_1 : decode cX7_as 1 = .ok (.iload_n 1, 1) := by decide +kernel
theorem dX7_as_2 : decode cX7_as 2 = .ok (.invokevirtual 72, 3) := by decide +kernel
theorem dX7_as_5 : decode cX7_as 5 = .ok (.ifCond .eq 13, 3) := by decide +kernel
theorem dX7_as_8 : decode cX7_as 8 = .ok (.iload_n 2, 1) := by decide +kernel
theorem dX7_as_9 : decode cX7_as 9 = .ok (.ifCond .lt 9, 3) := by decide +kernel
theorem dX7_as_12 : decode cX7_as 12 = .ok (.iload_n 2, 1) := by decide +kernel
theorem dX7_as_13 : decode cX7_as 13 = .ok (.bipush 6, 2) := by decide +kernel
theorem dX7_as_15 : decode cX7_as 15 = .ok (.if_icmp .le 9, 3) := by decide +kernel
theorem dX7_as_18 : decode cX7_as 18 = .ok (.aload_n 0, 1) := by decide +kernel
theorem dX7_as_19 : decode cX7_as 19 = .ok (.iconst 1, 1) := by decide +kernel
theorem dX7_as_20 : decode cX7_as 20 = .ok (.invokevirtual 54, 3) := by decide +kernel
theorem dX7_as_23 : decode cX7_as 23 = .ok (.ireturn, 1) := by decide +kernel
theorem dX7_as_24 : decode cX7_as 24 = .ok (.aload_n 0, 1) := by decide +kernel
theorem dX7_as_25 : decode cX7_as 25 = .ok (.getfield 10, 3) := by decide +kernel
theorem dX7_as_28 : decode cX7_as 28 = .ok (.getfield 62, 3) := by decide +kernel
theorem dX7_as_31 : decode cX7_as 31 = .ok (.iload_n 1, 1) := by decide +kernel
theorem dX7_as_32 : decode cX7_as 32 = .ok (.aaload, 1) := by decide +kernel
theorem dX7_as_33 : decode cX7_as 33 = .ok (.astore_n 3, 1) := by decide +kernel
theorem dX7_as_34 : decode cX7_as 34 = .ok (.aload_n 3, 1) := by decide +kernel
theorem dX7_as_35 : decode cX7_as 35 = .ok (.getfield 86, 3) := by decide +kernel
theorem dX7_as_38 : decode cX7_as 38 = .ok (.iload_n 2, 1) := by decide +kernel
theorem dX7_as_39 : decode cX7_as 39 = .ok (.invokestatic 123, 3) := by decide +kernel
theorem dX7_as_42 : decode cX7_as 42 = .ok (.ifCond .eq 10, 3) := by decide +kernel
theorem dX7_as_45 : decode cX7_as 45 = .ok (.aload_n 3, 1) := by decide +kernel
theorem dX7_as_46 : decode cX7_as 46 = .ok (.getfield 89, 3) := by decide +kernel
theorem dX7_as_49 : decode cX7_as 49 = .ok (.goto 8, 3) := by decide +kernel
theorem dX7_as_52 : decode cX7_as 52 = .ok (.aload_n 0, 1) := by decide +kernel
theorem dX7_as_53 : decode cX7_as 53 = .ok (.iconst 5, 1) := by decide +kernel
theorem dX7_as_54 : decode cX7_as 54 = .ok (.invokevirtual 54, 3) := by decide +kernel
theorem dX7_as_57 : decode cX7_as 57 = .ok (.ireturn, 1) := by decide +kernel
theorem dX7_turn_0 : decode cX7_turn 0 = .ok (.aload_n 0, 1) := by decide +kernel
theorem dX7_turn_1 : decode cX7_turn 1 = .ok (.iload_n 1, 1) := by decide +kernel
theorem dX7_turn_2 : decode cX7_turn 2 = .ok (.invokevirtual 72, 3) := by decide +kernel
theorem dX7_turn_5 : decode cX7_turn 5 = .ok (.ifCond .eq 10, 3) := by decide +kernel
theorem dX7_turn_8 : decode cX7_turn 8 = .ok (.iload_n 2, 1) := by decide +kernel
theorem dX7_turn_9 : decode cX7_turn 9 = .ok (.invokestatic 51, 3) := by decide +kernel
theorem dX7_turn_12 : decode cX7_turn 12 = .ok (.ifCond .ne 9, 3) := by decide +kernel
theorem dX7_turn_15 : decode cX7_turn 15 = .ok (.aload_n 0, 1) := by decide +kernel
theorem dX7_turn_16 : decode cX7_turn 16 = .ok (.iconst 1, 1) := by decide +kernel
theorem dX7_turn_17 : decode cX7_turn 17 = .ok (.invokevirtual 54, 3) := by decide +kernel
theorem dX7_turn_20 : decode cX7_turn 20 = .ok (.ireturn, 1) := by decide +kernel
theorem dX7_turn_21 : decode cX7_turn 21 = .ok (.aload_n 0, 1) := by decide +kernel
theorem dX7_turn_22 : decode cX7_turn 22 = .ok (.getfield 10, 3) := by decide +kernel
theorem dX7_turn_25 : decode cX7_turn 25 = .ok (.getfield 62, 3) := by decide +kernel
theorem dX7_turn_28 : decode cX7_turn 28 = .ok (.iload_n 1, 1) := by decide +kernel
theorem dX7_turn_29 : decode cX7_turn 29 = .ok (.aaload, 1) := by decide +kernel
theorem dX7_turn_30 : decode cX7_turn 30 = .ok (.getfield 92, 3) := by decide +kernel
theorem dX7_turn_33 : decode cX7_turn 33 = .ok (.istore_n 3, 1) := by decide +kernel
theorem dX7_turn_34 : decode cX7_turn 34 = .ok (.aload_n 0, 1) := by decide +kernel
theorem dX7_turn_35 : decode cX7_turn 35 = .ok (.getfield 10, 3) := by decide +kernel
theorem dX7_turn_38 : decode cX7_turn 38 = .ok (.getfield 62, 3) := by decide +kernel
theorem dX7_turn_41 : decode cX7_turn 41 = .ok (.iload_n 1, 1) := by decide +kernel
theorem dX7_turn_42 : decode cX7_turn 42 = .ok (.aaload, 1) := by decide +kernel
theorem dX7_turn_43 : decode cX7_turn 43 = .ok (.iload_n 2, 1) := by decide +kernel
theorem dX7_turn_44 : decode cX7_turn 44 = .ok (.putfield 92, 3) := by decide +kernel
theorem dX7_turn_47 : decode cX7_turn 47 = .ok (.iload_n 3, 1) := by decide +kernel
theorem dX7_turn_48 : decode cX7_turn 48 = .ok (.ireturn, 1) := by decide +kernel
theorem dX7_cut_0 : decode cX7_cut 0 = .ok (.aload_n 0, 1) := by decide +kernel
theorem dX7_cut_1 : decode cX7_cut 1 = .ok (.iload_n 1, 1) := by decide +kernel
theorem dX7_cut_2 : decode cX7_cut 2 = .ok (.invokevirtual 72, 3) := by decide +kernel
theorem dX7_cut_5 : decode cX7_cut 5 = .ok (.ifCond .ne 9, 3) := by decide +kernel
theorem dX7_cut_8 : decode cX7_cut 8 = .ok (.aload_n 0, 1) := by decide +kernel
theorem dX7_cut_9 : decode cX7_cut 9 = .ok (.iconst 1, 1) := by decide +kernel
theorem dX7_cut_10 : decode cX7_cut 10 = .ok (.invokevirtual 54, 3) := by decide +kernel
theorem dX7_cut_13 : decode cX7_cut 13 = .ok (.ireturn, 1) := by decide +kernel
theorem dX7_cut_14 : decode cX7_cut 14 = .ok (.aload_n 0, 1) := by decide +kernel
theorem dX7_cut_15 : decode cX7_cut 15 = .ok (.getfield 10, 3) := by decide +kernel
theorem dX7_cut_18 : decode cX7_cut 18 = .ok (.getfield 62, 3) := by decide +kernel
theorem dX7_cut_21 : decode cX7_cut 21 = .ok (.iload_n 1, 1) := by decide +kernel
theorem dX7_cut_22 : decode cX7_cut 22 = .ok (.aaload, 1) := by decide +kernel
theorem dX7_cut_23 : decode cX7_cut 23 = .ok (.astore_n 2, 1) := by decide +kernel
theorem dX7_cut_24 : decode cX7_cut 24 = .ok (.aload_n 2, 1) := by decide +kernel
theorem dX7_cut_25 : decode cX7_cut 25 = .ok (.getfield 80, 3) := by decide +kernel
theorem dX7_cut_28 : decode cX7_cut 28 = .ok (.ifCond .gt 9, 3) := by decide +kernel
theorem dX7_cut_31 : decode cX7_cut 31 = .ok (.aload_n 0, 1) := by decide +kernel
theorem dX7_cut_32 : decode cX7_cut 32 = .ok (.iconst 3, 1) := by decide +kernel
theorem dX7_cut_33 : decode cX7_cut 33 = .ok (.invokevirtual 54, 3) := by decide +kernel
theorem dX7_cut_36 : decode cX7_cut 36 = .ok (.ireturn, 1) := by decide +kernel
theorem dX7_cut_37 : decode cX7_cut 37 = .ok (.aload_n 2, 1) := by decide +kernel
theorem dX7_cut_38 : decode cX7_cut 38 = .ok (.dup, 1) := by decide +kernel
theorem dX7_cut_39 : decode cX7_cut 39 = .ok (.getfield 80, 3) := by decide +kernel
theorem dX7_cut_42 : decode cX7_cut 42 = .ok (.iconst 1, 1) := by decide +kernel
theorem dX7_cut_43 : decode cX7_cut 43 = .ok (.isub, 1) := by decide +kernel
theorem dX7_cut_44 : decode cX7_cut 44 = .ok (.putfield 80, 3) := by decide +kernel
theorem dX7_cut_47 : decode cX7_cut 47 = .ok (.aload_n 2, 1) := by decide +kernel
theorem dX7_cut_48 : decode cX7_cut 48 = .ok (.getfield 80, 3) := by decide +kernel
theorem dX7_cut_51 : decode cX7_cut 51 = .ok (.ireturn, 1) := by decide +kernel
theorem dX7_lay_0 : decode cX7_lay 0 = .ok (.iload_n 1, 1) := by decide +kernel
theorem dX7_lay_1 : decode cX7_lay 1 = .ok (.ifCond .lt 24, 3) := by decide +kernel
theorem dX7_lay_4 : decode cX7_lay 4 = .ok (.iload_n 1, 1) := by decide +kernel
theorem dX7_lay_5 : decode cX7_lay 5 = .ok (.iconst 1, 1) := by decide +kernel
theorem dX7_lay_6 : decode cX7_lay 6 = .ok (.if_icmp .gt 19, 3) := by decide +kernel
theorem dX7_lay_9 : decode cX7_lay 9 = .ok (.iload_n 2, 1) := by decide +kernel
theorem dX7_lay_10 : decode cX7_lay 10 = .ok (.invokestatic 75, 3) := by decide +kernel
theorem dX7_lay_13 : decode cX7_lay 13 = .ok (.ifCond .eq 12, 3) := by decide +kernel
theorem dX7_lay_16 : decode cX7_lay 16 = .ok (.iload_n 3, 1) := by decide +kernel
theorem dX7_lay_17 : decode cX7_lay 17 = .ok (.ifCond .lt 8, 3) := by decide +kernel
theorem dX7_lay_20 : decode cX7_lay 20 = .ok (.iload_n 3, 1) := by decide +kernel
theorem dX7_lay_21 : decode cX7_lay 21 = .ok (.iconst 1, 1) := by decide +kernel
theorem dX7_lay_22 : decode cX7_lay 22 = .ok (.if_icmp .le 9, 3) := by decide +kernel
theorem dX7_lay_25 : decode cX7_lay 25 = .ok (.aload_n 0, 1) := by decide +kernel
theorem dX7_lay_26 : decode cX7_lay 26 = .ok (.iconst 1, 1) := by decide +kernel
theorem dX7_lay_27 : decode cX7_lay 27 = .ok (.invokevirtual 54, 3) := by decide +kernel
theorem dX7_lay_30 : decode cX7_lay 30 = .ok (.ireturn, 1) := by decide +kernel
theorem dX7_lay_31 : decode cX7_lay 31 = .ok (.iload_n 1, 1) := by decide +kernel
theorem dX7_lay_32 : decode cX7_lay 32 = .ok (.ifCond .ne 13, 3) := by decide +kernel
theorem dX7_lay_35 : decode cX7_lay 35 = .ok (.aload_n 0, 1) := by decide +kernel
theorem dX7_lay_36 : decode cX7_lay 36 = .ok (.getfield 10, 3) := by decide +kernel
theorem dX7_lay_39 : decode cX7_lay 39 = .ok (.getfield 126, 3) := by decide +kernel
theorem dX7_lay_42 : decode cX7_lay 42 = .ok (.goto 10, 3) := by decide +kernel
theorem dX7_lay_45 : decode cX7_lay 45 = .ok (.aload_n 0, 1) := by decide +kernel
theorem dX7_lay_46 : decode cX7_lay 46 = .ok (.getfield 10, 3) := by decide +kernel
theorem dX7_lay_49 : decode cX7_lay 49 = .ok (.getfield 130, 3) := by decide +kernel
theorem dX7_lay_52 : decode cX7_lay 52 = .ok (.lstore 4, 2) := by decide +kernel
theorem dX7_lay_54 : decode cX7_lay 54 = .ok (.iload_n 3, 1) := by decide +kernel
theorem dX7_lay_55 : decode cX7_lay 55 = .ok (.iconst 1, 1) := by decide +kernel
theorem dX7_lay_56 : decode cX7_lay 56 = .ok (.if_icmp .ne 13, 3) := by decide +kernel
theorem dX7_lay_59 : decode cX7_lay 59 = .ok (.lload 4, 2) := by decide +kernel
theorem dX7_lay_61 : decode cX7_lay 61 = .ok (.iload_n 2, 1) := by decide +kernel
theorem dX7_lay_62 : decode cX7_lay 62 = .ok (.invokestatic 133, 3) := by decide +kernel
theorem dX7_lay_65 : decode cX7_lay 65 = .ok (.lor, 1) := by decide +kernel
theorem dX7_lay_66 : decode cX7_lay 66 = .ok (.goto 14, 3) := by decide +kernel
theorem dX7_lay_69 : decode cX7_lay 69 = .ok (.lload 4, 2) := by decide +kernel
theorem dX7_lay_71 : decode cX7_lay 71 = .ok (.iload_n 2, 1) := by decide +kernel
theorem dX7_lay_72 : decode cX7_lay 72 = .ok (.invokestatic 133, 3) := by decide +kernel
theorem dX7_lay_75 : decode cX7_lay 75 = .ok (.ldc2_w 137, 3) := by decide +kernel
theorem dX7_lay_78 : decode cX7_lay 78 = .ok (.lxor, 1) := by decide +kernel
theorem dX7_lay_79 : decode cX7_lay 79 = .ok (.land, 1) := by decide +kernel
theorem dX7_lay_80 : decode cX7_lay 80 = .ok (.lstore 6, 2) := by decide +kernel
theorem dX7_lay_82 : decode cX7_lay 82 = .ok (.iload_n 1, 1) := by decide +kernel
theorem dX7_lay_83 : decode cX7_lay 83 = .ok (.ifCond .ne 15, 3) := by decide +kernel
theorem dX7_lay_86 : decode cX7_lay 86 = .ok (.aload_n 0, 1) := by decide +kernel
theorem dX7_lay_87 : decode cX7_lay 87 = .ok (.getfield 10, 3) := by decide +kernel
theorem dX7_lay_90 : decode cX7_lay 90 = .ok (.lload 6, 2) := by decide +kernel
theorem dX7_lay_92 : decode cX7_lay 92 = .ok (.putfield 126, 3) := by decide +kernel
theorem dX7_lay_95 : decode cX7_lay 95 = .ok (.goto 12, 3) := by decide +kernel
theorem dX7_lay_98 : decode cX7_lay 98 = .ok (.aload_n 0, 1) := by decide +kernel
theorem dX7_lay_99 : decode cX7_lay 99 = .ok (.getfield 10, 3) := by decide +kernel
theorem dX7_lay_102 : decode cX7_lay 102 = .ok (.lload 6, 2) := by decide +kernel
theorem dX7_lay_104 : decode cX7_lay 104 = .ok (.putfield 130, 3) := by decide +kernel
theorem dX7_lay_107 : decode cX7_lay 107 = .ok (.lload 4, 2) := by decide +kernel
theorem dX7_lay_109 : decode cX7_lay 109 = .ok (.iload_n 2, 1) := by decide +kernel
theorem dX7_lay_110 : decode cX7_lay 110 = .ok (.invokestatic 139, 3) := by decide +kernel
theorem dX7_lay_113 : decode cX7_lay 113 = .ok (.ifCond .eq 7, 3) := by decide +kernel
theorem dX7_lay_116 : decode cX7_lay 116 = .ok (.iconst 1, 1) := by decide +kernel
theorem dX7_lay_117 : decode cX7_lay 117 = .ok (.goto 4, 3) := by decide +kernel
theorem dX7_lay_120 : decode cX7_lay 120 = .ok (.iconst 0, 1) := by decide +kernel
theorem dX7_lay_121 : decode cX7_lay 121 = .ok (.ireturn, 1) := by decide +kernel
theorem dX7_cow_0 : decode cX7_cow 0 = .ok (.iload_n 1, 1) := by decide +kernel
theorem dX7_cow_1 : decode cX7_cow 1 = .ok (.invokestatic 75, 3) := by decide +kernel
theorem dX7_cow_4 : decode cX7_cow 4 = .ok (.ifCond .ne 9, 3) := by decide +kernel
theorem dX7_cow_7 : decode cX7_cow 7 = .ok (.aload_n 0, 1) := by decide +kernel
theorem dX7_cow_8 : decode cX7_cow 8 = .ok (.iconst 1, 1) := by decide +kernel
theorem dX7_cow_9 : decode cX7_cow 9 = .ok (.invokevirtual 54, 3) := by decide +kernel
theorem dX7_cow_12 : decode cX7_cow 12 = .ok (.ireturn, 1) := by decide +kernel
theorem dX7_cow_13 : decode cX7_cow 13 = .ok (.aload_n 0, 1) := by decide +kernel
theorem dX7_cow_14 : decode cX7_cow 14 = .ok (.getfield 10, 3) := by decide +kernel
theorem dX7_cow_17 : decode cX7_cow 17 = .ok (.getfield 143, 3) := by decide +kernel
theorem dX7_cow_20 : decode cX7_cow 20 = .ok (.bipush 6, 2) := by decide +kernel
theorem dX7_cow_22 : decode cX7_cow 22 = .ok (.if_icmp .lt 9, 3) := by decide +kernel
theorem dX7_cow_25 : decode cX7_cow 25 = .ok (.aload_n 0, 1) := by decide +kernel
theorem dX7_cow_26 : decode cX7_cow 26 = .ok (.iconst 4, 1) := by decide +kernel
theorem dX7_cow_27 : decode cX7_cow 27 = .ok (.invokevirtual 54, 3) := by decide +kernel
theorem dX7_cow_30 : decode cX7_cow 30 = .ok (.ireturn, 1) := by decide +kernel
theorem dX7_cow_31 : decode cX7_cow 31 = .ok (.aload_n 0, 1) := by decide +kernel
theorem dX7_cow_32 : decode cX7_cow 32 = .ok (.getfield 10, 3) := by decide +kernel
theorem dX7_cow_35 : decode cX7_cow 35 = .ok (.getfield 146, 3) := by decide +kernel
theorem dX7_cow_38 : decode cX7_cow 38 = .ok (.aload_n 0, 1) := by decide +kernel
theorem dX7_cow_39 : decode cX7_cow 39 = .ok (.getfield 10, 3) := by decide +kernel
theorem dX7_cow_42 : decode cX7_cow 42 = .ok (.getfield 143, 3) := by decide +kernel
theorem dX7_cow_45 : decode cX7_cow 45 = .ok (.iload_n 1, 1) := by decide +kernel
theorem dX7_cow_46 : decode cX7_cow 46 = .ok (.iastore, 1) := by decide +kernel
theorem dX7_cow_47 : decode cX7_cow 47 = .ok (.aload_n 0, 1) := by decide +kernel
theorem dX7_cow_48 : decode cX7_cow 48 = .ok (.getfield 10, 3) := by decide +kernel
theorem dX7_cow_51 : decode cX7_cow 51 = .ok (.getfield 149, 3) := by decide +kernel
theorem dX7_cow_54 : decode cX7_cow 54 = .ok (.aload_n 0, 1) := by decide +kernel
theorem dX7_cow_55 : decode cX7_cow 55 = .ok (.getfield 10, 3) := by decide +kernel
theorem dX7_cow_58 : decode cX7_cow 58 = .ok (.getfield 143, 3) := by decide +kernel
theorem dX7_cow_61 : decode cX7_cow 61 = .ok (.iconst 0, 1) := by decide +kernel
theorem dX7_cow_62 : decode cX7_cow 62 = .ok (.iastore, 1) := by decide +kernel
theorem dX7_cow_63 : decode cX7_cow 63 = .ok (.aload_n 0, 1) := by decide +kernel
theorem dX7_cow_64 : decode cX7_cow 64 = .ok (.getfield 10, 3) := by decide +kernel
theorem dX7_cow_67 : decode cX7_cow 67 = .ok (.dup, 1) := by decide +kernel
theorem dX7_cow_68 : decode cX7_cow 68 = .ok (.getfield 143, 3) := by decide +kernel
theorem dX7_cow_71 : decode cX7_cow 71 = .ok (.iconst 1, 1) := by decide +kernel
theorem dX7_cow_72 : decode cX7_cow 72 = .ok (.iadd, 1) := by decide +kernel
theorem dX7_cow_73 : decode cX7_cow 73 = .ok (.putfield 143, 3) := by decide +kernel
theorem dX7_cow_76 : decode cX7_cow 76 = .ok (.aload_n 0, 1) := by decide +kernel
theorem dX7_cow_77 : decode cX7_cow 77 = .ok (.getfield 10, 3) := by decide +kernel
theorem dX7_cow_80 : decode cX7_cow 80 = .ok (.getfield 143, 3) := by decide +kernel
theorem dX7_cow_83 : decode cX7_cow 83 = .ok (.iconst 1, 1) := by decide +kernel
theorem dX7_cow_84 : decode cX7_cow 84 = .ok (.isub, 1) := by decide +kernel
theorem dX7_cow_85 : decode cX7_cow 85 = .ok (.ireturn, 1) := by decide +kernel
theorem dX7_cowIs_0 : decode cX7_cowIs 0 = .ok (.aload_n 0, 1) := by decide +kernel
theorem dX7_cowIs_1 : decode cX7_cowIs 1 = .ok (.iload_n 1, 1) := by decide +kernel
theorem dX7_cowIs_2 : decode cX7_cowIs 2 = .ok (.invokevirtual 152, 3) := by decide +kernel
theorem dX7_cowIs_5 : decode cX7_cowIs 5 = .ok (.ifCond .ne 9, 3) := by decide +kernel
theorem dX7_cowIs_8 : decode cX7_cowIs 8 = .ok (.aload_n 0, 1) := by decide +kernel
theorem dX7_cowIs_9 : decode cX7_cowIs 9 = .ok (.iconst 1, 1) := by decide +kernel
theorem dX7_cowIs_10 : decode cX7_cowIs 10 = .ok (.invokevirtual 54, 3) := by decide +kernel
theorem dX7_cowIs_13 : decode cX7_cowIs 13 = .ok (.ireturn, 1) := by decide +kernel
theorem dX7_cowIs_14 : decode cX7_cowIs 14 = .ok (.iload_n 2, 1) := by decide +kernel
theorem dX7_cowIs_15 : decode cX7_cowIs 15 = .ok (.tableswitch 69 0 2 #[25, 35, 45], 25) := by decide +kernel
theorem dX7_cowIs_40 : decode cX7_cowIs 40 = .ok (.aload_n 0, 1) := by decide +kernel
theorem dX7_cowIs_41 : decode cX7_cowIs 41 = .ok (.getfield 10, 3) := by decide +kernel
theorem dX7_cowIs_44 : decode cX7_cowIs 44 = .ok (.getfield 146, 3) := by decide +kernel
theorem dX7_cowIs_47 : decode cX7_cowIs 47 = .ok (.iload_n 1, 1) := by decide +kernel
theorem dX7_cowIs_48 : decode cX7_cowIs 48 = .ok (.iaload, 1) := by decide +kernel
theorem dX7_cowIs_49 : decode cX7_cowIs 49 = .ok (.ireturn, 1) := by decide +kernel
theorem dX7_cowIs_50 : decode cX7_cowIs 50 = .ok (.aload_n 0, 1) := by decide +kernel
theorem dX7_cowIs_51 : decode cX7_cowIs 51 = .ok (.getfield 10, 3) := by decide +kernel
theorem dX7_cowIs_54 : decode cX7_cowIs 54 = .ok (.getfield 149, 3) := by decide +kernel
theorem dX7_cowIs_57 : decode cX7_cowIs 57 = .ok (.iload_n 1, 1) := by decide +kernel
theorem dX7_cowIs_58 : decode cX7_cowIs 58 = .ok (.iaload, 1) := by decide +kernel
theorem dX7_cowIs_59 : decode cX7_cowIs 59 = .ok (.ireturn, 1) := by decide +kernel
theorem dX7_cowIs_60 : decode cX7_cowIs 60 = .ok (.aload_n 0, 1) := by decide +kernel
theorem dX7_cowIs_61 : decode cX7_cowIs 61 = .ok (.getfield 10, 3) := by decide +kernel
theorem dX7_cowIs_64 : decode cX7_cowIs 64 = .ok (.invokevirtual 155, 3) := by decide +kernel
theorem dX7_cowIs_67 : decode cX7_cowIs 67 = .ok (.aload_n 0, 1) := by decide +kernel
theorem dX7_cowIs_68 : decode cX7_cowIs 68 = .ok (.getfield 10, 3) := by decide +kernel
theorem dX7_cowIs_71 : decode cX7_cowIs 71 = .ok (.aload_n 0, 1) := by decide +kernel
theorem dX7_cowIs_72 : decode cX7_cowIs 72 = .ok (.getfield 10, 3) := by decide +kernel
theorem dX7_cowIs_75 : decode cX7_cowIs 75 = .ok (.getfield 146, 3) := by decide +kernel
theorem dX7_cowIs_78 : decode cX7_cowIs 78 = .ok (.iload_n 1, 1) := by decide +kernel
theorem dX7_cowIs_79 : decode cX7_cowIs 79 = .ok (.iaload, 1) := by decide +kernel
theorem dX7_cowIs_80 : decode cX7_cowIs 80 = .ok (.invokevirtual 158, 3) := by decide +kernel
theorem dX7_cowIs_83 : decode cX7_cowIs 83 = .ok (.ireturn, 1) := by decide +kernel
theorem dX7_cowIs_84 : decode cX7_cowIs 84 = .ok (.aload_n 0, 1) := by decide +kernel
theorem dX7_cowIs_85 : decode cX7_cowIs 85 = .ok (.iconst 1, 1) := by decide +kernel
theorem dX7_cowIs_86 : decode cX7_cowIs 86 = .ok (.invokevirtual 54, 3) := by decide +kernel
theorem dX7_cowIs_89 : decode cX7_cowIs 89 = .ok (.ireturn, 1) := by decide +kernel
theorem dX7_drive_0 : decode cX7_drive 0 = .ok (.aload_n 0, 1) := by decide +kernel
theorem dX7_drive_1 : decode cX7_drive 1 = .ok (.iload_n 1, 1) := by decide +kernel
theorem dX7_drive_2 : decode cX7_drive 2 = .ok (.invokevirtual 152, 3) := by decide +kernel
theorem dX7_drive_5 : decode cX7_drive 5 = .ok (.ifCond .eq 10, 3) := by decide +kernel
theorem dX7_drive_8 : decode cX7_drive 8 = .ok (.iload_n 2, 1) := by decide +kernel
theorem dX7_drive_9 : decode cX7_drive 9 = .ok (.invokestatic 75, 3) := by decide +kernel
theorem dX7_drive_12 : decode cX7_drive 12 = .ok (.ifCond .ne 9, 3) := by decide +kernel
theorem dX7_drive_15 : decode cX7_drive 15 = .ok (.aload_n 0, 1) := by decide +kernel
theorem dX7_drive_16 : decode cX7_drive 16 = .ok (.iconst 1, 1) := by decide +kernel
theorem dX7_drive_17 : decode cX7_drive 17 = .ok (.invokevirtual 54, 3) := by decide +kernel
theorem dX7_drive_20 : decode cX7_drive 20 = .ok (.ireturn, 1) := by decide +kernel
theorem dX7_drive_21 : decode cX7_drive 21 = .ok (.aload_n 0, 1) := by decide +kernel
theorem dX7_drive_22 : decode cX7_drive 22 = .ok (.getfield 10, 3) := by decide +kernel
theorem dX7_drive_25 : decode cX7_drive 25 = .ok (.getfield 146, 3) := by decide +kernel
theorem dX7_drive_28 : decode cX7_drive 28 = .ok (.iload_n 1, 1) := by decide +kernel
theorem dX7_drive_29 : decode cX7_drive 29 = .ok (.iaload, 1) := by decide +kernel
theorem dX7_drive_30 : decode cX7_drive 30 = .ok (.istore_n 3, 1) := by decide +kernel
theorem dX7_drive_31 : decode cX7_drive 31 = .ok (.aload_n 0, 1) := by decide +kernel
theorem dX7_drive_32 : decode cX7_drive 32 = .ok (.getfield 10, 3) := by decide +kernel
theorem dX7_drive_35 : decode cX7_drive 35 = .ok (.getfield 146, 3) := by decide +kernel
theorem dX7_drive_38 : decode cX7_drive 38 = .ok (.iload_n 1, 1) := by decide +kernel
theorem dX7_drive_39 : decode cX7_drive 39 = .ok (.iload_n 2, 1) := by decide +kernel
theorem dX7_drive_40 : decode cX7_drive 40 = .ok (.iastore, 1) := by decide +kernel
theorem dX7_drive_41 : decode cX7_drive 41 = .ok (.iload_n 3, 1) := by decide +kernel
theorem dX7_drive_42 : decode cX7_drive 42 = .ok (.ireturn, 1) := by decide +kernel
theorem dX7_feed_0 : decode cX7_feed 0 = .ok (.iload_n 3, 1) := by decide +kernel
theorem dX7_feed_1 : decode cX7_feed 1 = .ok (.iconst 1, 1) := by decide +kernel
theorem dX7_feed_2 : decode cX7_feed 2 = .ok (.if_icmp .lt 9, 3) := by decide +kernel
theorem dX7_feed_5 : decode cX7_feed 5 = .ok (.iload_n 3, 1) := by decide +kernel
theorem dX7_feed_6 : decode cX7_feed 6 = .ok (.bipush 8, 2) := by decide +kernel
theorem dX7_feed_8 : decode cX7_feed 8 = .ok (.if_icmp .le 9, 3) := by decide +kernel
theorem dX7_feed_11 : decode cX7_feed 11 = .ok (.aload_n 0, 1) := by decide +kernel
theorem dX7_feed_12 : decode cX7_feed 12 = .ok (.iconst 1, 1) := by decide +kernel
theorem dX7_feed_13 : decode cX7_feed 13 = .ok (.invokevirtual 54, 3) := by decide +kernel
theorem dX7_feed_16 : decode cX7_feed 16 = .ok (.ireturn, 1) := by decide +kernel
theorem dX7_feed_17 : decode cX7_feed 17 = .ok (.aload_n 0, 1) := by decide +kernel
theorem dX7_feed_18 : decode cX7_feed 18 = .ok (.getfield 10, 3) := by decide +kernel
theorem dX7_feed_21 : decode cX7_feed 21 = .ok (.getfield 161, 3) := by decide +kernel
theorem dX7_feed_24 : decode cX7_feed 24 = .ok (.iload_n 3, 1) := by decide +kernel
theorem dX7_feed_25 : decode cX7_feed 25 = .ok (.iadd, 1) := by decide +kernel
theorem dX7_feed_26 : decode cX7_feed 26 = .ok (.bipush 60, 2) := by decide +kernel
theorem dX7_feed_28 : decode cX7_feed 28 = .ok (.if_icmp .le 9, 3) := by decide +kernel
theorem dX7_feed_31 : decode cX7_feed 31 = .ok (.aload_n 0, 1) := by decide +kernel
theorem dX7_feed_32 : decode cX7_feed 32 = .ok (.iconst 4, 1) := by decide +kernel
theorem dX7_feed_33 : decode cX7_feed 33 = .ok (.invokevirtual 54, 3) := by decide +kernel
theorem dX7_feed_36 : decode cX7_feed 36 = .ok (.ireturn, 1) := by decide +kernel
theorem dX7_feed_37 : decode cX7_feed 37 = .ok (.iconst 0, 1) := by decide +kernel
theorem dX7_feed_38 : decode cX7_feed 38 = .ok (.istore 4, 2) := by decide +kernel
theorem dX7_feed_40 : decode cX7_feed 40 = .ok (.iload 4, 2) := by decide +kernel
theorem dX7_feed_42 : decode cX7_feed 42 = .ok (.iload_n 3, 1) := by decide +kernel
theorem dX7_feed_43 : decode cX7_feed 43 = .ok (.if_icmp .ge 46, 3) := by decide +kernel
theorem dX7_feed_46 : decode cX7_feed 46 = .ok (.aload_n 0, 1) := by decide +kernel
theorem dX7_feed_47 : decode cX7_feed 47 = .ok (.getfield 10, 3) := by decide +kernel
theorem dX7_feed_50 : decode cX7_feed 50 = .ok (.getfield 164, 3) := by decide +kernel
theorem dX7_feed_53 : decode cX7_feed 53 = .ok (.aload_n 0, 1) := by decide +kernel
theorem dX7_feed_54 : decode cX7_feed 54 = .ok (.getfield 10, 3) := by decide +kernel
theorem dX7_feed_57 : decode cX7_feed 57 = .ok (.getfield 161, 3) := by decide +kernel
theorem dX7_feed_60 : decode cX7_feed 60 = .ok (.lload_n 1, 1) := by decide +kernel
theorem dX7_feed_61 : decode cX7_feed 61 = .ok (.bipush 8, 2) := by decide +kernel
theorem dX7_feed_63 : decode cX7_feed 63 = .ok (.iload 4, 2) := by decide +kernel
theorem dX7_feed_65 : decode cX7_feed 65 = .ok (.imul, 1) := by decide +kernel
theorem dX7_feed_66 : decode cX7_feed 66 = .ok (.lushr, 1) := by decide +kernel
theorem dX7_feed_67 : decode cX7_feed 67 = .ok (.l2i, 1) := by decide +kernel
theorem dX7_feed_68 : decode cX7_feed 68 = .ok (.i2b, 1) := by decide +kernel
theorem dX7_feed_69 : decode cX7_feed 69 = .ok (.bastore, 1) := by decide +kernel
theorem dX7_feed_70 : decode cX7_feed 70 = .ok (.aload_n 0, 1) := by decide +kernel
theorem dX7_feed_71 : decode cX7_feed 71 = .ok (.getfield 10, 3) := by decide +kernel
theorem dX7_feed_74 : decode cX7_feed 74 = .ok (.dup, 1) := by decide +kernel
theorem dX7_feed_75 : decode cX7_feed 75 = .ok (.getfield 161, 3) := by decide +kernel
theorem dX7_feed_78 : decode cX7_feed 78 = .ok (.iconst 1, 1) := by decide +kernel
theorem dX7_feed_79 : decode cX7_feed 79 = .ok (.iadd, 1) := by decide +kernel
theorem dX7_feed_80 : decode cX7_feed 80 = .ok (.putfield 161, 3) := by decide +kernel
theorem dX7_feed_83 : decode cX7_feed 83 = .ok (.iinc 4 1, 3) := by decide +kernel
theorem dX7_feed_86 : decode cX7_feed 86 = .ok (.goto (-46), 3) := by decide +kernel
theorem dX7_feed_89 : decode cX7_feed 89 = .ok (.aload_n 0, 1) := by decide +kernel
theorem dX7_feed_90 : decode cX7_feed 90 = .ok (.getfield 10, 3) := by decide +kernel
theorem dX7_feed_93 : decode cX7_feed 93 = .ok (.getfield 161, 3) := by decide +kernel
theorem dX7_feed_96 : decode cX7_feed 96 = .ok (.ireturn, 1) := by decide +kernel
theorem dX7_text_0 : decode cX7_text 0 = .ok (.iload_n 1, 1) := by decide +kernel
theorem dX7_text_1 : decode cX7_text 1 = .ok (.invokestatic 168, 3) := by decide +kernel
theorem dX7_text_4 : decode cX7_text 4 = .ok (.ifCond .ne 9, 3) := by decide +kernel
theorem dX7_text_7 : decode cX7_text 7 = .ok (.aload_n 0, 1) := by decide +kernel
theorem dX7_text_8 : decode cX7_text 8 = .ok (.iconst 1, 1) := by decide +kernel
theorem dX7_text_9 : decode cX7_text 9 = .ok (.invokevirtual 54, 3) := by decide +kernel
theorem dX7_text_12 : decode cX7_text 12 = .ok (.ireturn, 1) := by decide +kernel
theorem dX7_text_13 : decode cX7_text 13 = .ok (.aload_n 0, 1) := by decide +kernel
theorem dX7_text_14 : decode cX7_text 14 = .ok (.getfield 25, 3) := by decide +kernel
theorem dX7_text_17 : decode cX7_text 17 = .ok (.aload_n 0, 1) := by decide +kernel
theorem dX7_text_18 : decode cX7_text 18 = .ok (.getfield 10, 3) := by decide +kernel
theorem dX7_text_21 : decode cX7_text 21 = .ok (.getfield 164, 3) := by decide +kernel
theorem dX7_text_24 : decode cX7_text 24 = .ok (.aload_n 0, 1) := by decide +kernel
theorem dX7_text_25 : decode cX7_text 25 = .ok (.getfield 10, 3) := by decide +kernel
theorem dX7_text_28 : decode cX7_text 28 = .ok (.getfield 161, 3) := by decide +kernel
theorem dX7_text_31 : decode cX7_text 31 = .ok (.iload_n 1, 1) := by decide +kernel
theorem dX7_text_32 : decode cX7_text 32 = .ok (.invokestatic 171, 3) := by decide +kernel
theorem dX7_text_35 : decode cX7_text 35 = .ok (.invokevirtual 177, 3) := by decide +kernel
theorem dX7_text_38 : decode cX7_text 38 = .ok (.istore_n 2, 1) := by decide +kernel
theorem dX7_text_39 : decode cX7_text 39 = .ok (.aload_n 0, 1) := by decide +kernel
theorem dX7_text_40 : decode cX7_text 40 = .ok (.getfield 10, 3) := by decide +kernel
theorem dX7_text_43 : decode cX7_text 43 = .ok (.iconst 0, 1) := by decide +kernel
theorem dX7_text_44 : decode cX7_text 44 = .ok (.putfield 161, 3) := by decide +kernel
theorem dX7_text_47 : decode cX7_text 47 = .ok (.iload_n 2, 1) := by decide +kernel
theorem dX7_text_48 : decode cX7_text 48 = .ok (.ifCond .lt 8, 3) := by decide +kernel
theorem dX7_text_51 : decode cX7_text 51 = .ok (.bipush (-10), 2) := by decide +kernel
theorem dX7_text_53 : decode cX7_text 53 = .ok (.iload_n 2, 1) := by decide +kernel
theorem dX7_text_54 : decode cX7_text 54 = .ok (.isub, 1) := by decide +kernel
theorem dX7_text_55 : decode cX7_text 55 = .ok (.ireturn, 1) := by decide +kernel
theorem dX7_text_56 : decode cX7_text 56 = .ok (.aload_n 0, 1) := by decide +kernel
theorem dX7_text_57 : decode cX7_text 57 = .ok (.getfield 10, 3) := by decide +kernel
theorem dX7_text_60 : decode cX7_text 60 = .ok (.getfield 181, 3) := by decide +kernel
theorem dX7_text_63 : decode cX7_text 63 = .ok (.iload_n 1, 1) := by decide +kernel
theorem dX7_text_64 : decode cX7_text 64 = .ok (.aaload, 1) := by decide +kernel
theorem dX7_text_65 : decode cX7_text 65 = .ok (.aload_n 0, 1) := by decide +kernel
theorem dX7_text_66 : decode cX7_text 66 = .ok (.getfield 25, 3) := by decide +kernel
theorem dX7_text_69 : decode cX7_text 69 = .ok (.getfield 185, 3) := by decide +kernel
theorem dX7_text_72 : decode cX7_text 72 = .ok (.aload_n 0, 1) := by decide +kernel
theorem dX7_text_73 : decode cX7_text 73 = .ok (.getfield 25, 3) := by decide +kernel
theorem dX7_text_76 : decode cX7_text 76 = .ok (.getfield 188, 3) := by decide +kernel
theorem dX7_text_79 : decode cX7_text 79 = .ok (.invokevirtual 191, 3) := by decide +kernel
theorem dX7_text_82 : decode cX7_text 82 = .ok (.iconst 1, 1) := by decide +kernel
theorem dX7_text_83 : decode cX7_text 83 = .ok (.ireturn, 1) := by decide +kernel
theorem dX7_untell_0 : decode cX7_untell 0 = .ok (.iload_n 1, 1) := by decide +kernel
theorem dX7_untell_1 : decode cX7_untell 1 = .ok (.invokestatic 168, 3) := by decide +kernel
theorem dX7_untell_4 : decode cX7_untell 4 = .ok (.ifCond .ne 9, 3) := by decide +kernel
theorem dX7_untell_7 : decode cX7_untell 7 = .ok (.aload_n 0, 1) := by decide +kernel
theorem dX7_untell_8 : decode cX7_untell 8 = .ok (.iconst 1, 1) := by decide +kernel
theorem dX7_untell_9 : decode cX7_untell 9 = .ok (.invokevirtual 54, 3) := by decide +kernel
theorem dX7_untell_12 : decode cX7_untell 12 = .ok (.ireturn, 1) := by decide +kernel
theorem dX7_untell_13 : decode cX7_untell 13 = .ok (.aload_n 0, 1) := by decide +kernel
theorem dX7_untell_14 : decode cX7_untell 14 = .ok (.getfield 10, 3) := by decide +kernel
theorem dX7_untell_17 : decode cX7_untell 17 = .ok (.getfield 181, 3) := by decide +kernel
theorem dX7_untell_20 : decode cX7_untell 20 = .ok (.iload_n 1, 1) := by decide +kernel
theorem dX7_untell_21 : decode cX7_untell 21 = .ok (.aaload, 1) := by decide +kernel
theorem dX7_untell_22 : decode cX7_untell 22 = .ok (.getfield 195, 3) := by decide +kernel
theorem dX7_untell_25 : decode cX7_untell 25 = .ok (.ifCond .le 7, 3) := by decide +kernel
theorem dX7_untell_28 : decode cX7_untell 28 = .ok (.iconst 1, 1) := by decide +kernel
theorem dX7_untell_29 : decode cX7_untell 29 = .ok (.goto 4, 3) := by decide +kernel
theorem dX7_untell_32 : decode cX7_untell 32 = .ok (.iconst 0, 1) := by decide +kernel
theorem dX7_untell_33 : decode cX7_untell 33 = .ok (.istore_n 2, 1) := by decide +kernel
theorem dX7_untell_34 : decode cX7_untell 34 = .ok (.aload_n 0, 1) := by decide +kernel
theorem dX7_untell_35 : decode cX7_untell 35 = .ok (.getfield 10, 3) := by decide +kernel
theorem dX7_untell_38 : decode cX7_untell 38 = .ok (.getfield 181, 3) := by decide +kernel
theorem dX7_untell_41 : decode cX7_untell 41 = .ok (.iload_n 1, 1) := by decide +kernel
theorem dX7_untell_42 : decode cX7_untell 42 = .ok (.aaload, 1) := by decide +kernel
theorem dX7_untell_43 : decode cX7_untell 43 = .ok (.iconst 0, 1) := by decide +kernel
theorem dX7_untell_44 : decode cX7_untell 44 = .ok (.putfield 195, 3) := by decide +kernel
theorem dX7_untell_47 : decode cX7_untell 47 = .ok (.iload_n 2, 1) := by decide +kernel
theorem dX7_untell_48 : decode cX7_untell 48 = .ok (.ireturn, 1) := by decide +kernel
theorem dX7_law_0 : decode cX7_law 0 = .ok (.iload_n 1, 1) := by decide +kernel
theorem dX7_law_1 : decode cX7_law 1 = .ok (.invokestatic 168, 3) := by decide +kernel
theorem dX7_law_4 : decode cX7_law 4 = .ok (.ifCond .ne 9, 3) := by decide +kernel
theorem dX7_law_7 : decode cX7_law 7 = .ok (.aload_n 0, 1) := by decide +kernel
theorem dX7_law_8 : decode cX7_law 8 = .ok (.iconst 1, 1) := by decide +kernel
theorem dX7_law_9 : decode cX7_law 9 = .ok (.invokevirtual 54, 3) := by decide +kernel
theorem dX7_law_12 : decode cX7_law 12 = .ok (.ireturn, 1) := by decide +kernel
theorem dX7_law_13 : decode cX7_law 13 = .ok (.aload_n 0, 1) := by decide +kernel
theorem dX7_law_14 : decode cX7_law 14 = .ok (.getfield 10, 3) := by decide +kernel
theorem dX7_law_17 : decode cX7_law 17 = .ok (.getfield 181, 3) := by decide +kernel
theorem dX7_law_20 : decode cX7_law 20 = .ok (.iload_n 1, 1) := by decide +kernel
theorem dX7_law_21 : decode cX7_law 21 = .ok (.aaload, 1) := by decide +kernel
theorem dX7_law_22 : decode cX7_law 22 = .ok (.iload_n 2, 1) := by decide +kernel
theorem dX7_law_23 : decode cX7_law 23 = .ok (.iload_n 3, 1) := by decide +kernel
theorem dX7_law_24 : decode cX7_law 24 = .ok (.iload 4, 2) := by decide +kernel
theorem dX7_law_26 : decode cX7_law 26 = .ok (.invokevirtual 196, 3) := by decide +kernel
theorem dX7_law_29 : decode cX7_law 29 = .ok (.ireturn, 1) := by decide +kernel
theorem dX7_dawns_0 : decode cX7_dawns 0 = .ok (.iload_n 1, 1) := by decide +kernel
theorem dX7_dawns_1 : decode cX7_dawns 1 = .ok (.iconst 1, 1) := by decide +kernel
theorem dX7_dawns_2 : decode cX7_dawns 2 = .ok (.if_icmp .lt 9, 3) := by decide +kernel
theorem dX7_dawns_5 : decode cX7_dawns 5 = .ok (.iload_n 1, 1) := by decide +kernel
theorem dX7_dawns_6 : decode cX7_dawns 6 = .ok (.bipush 60, 2) := by decide +kernel
theorem dX7_dawns_8 : decode cX7_dawns 8 = .ok (.if_icmp .le 9, 3) := by decide +kernel
theorem dX7_dawns_11 : decode cX7_dawns 11 = .ok (.aload_n 0, 1) := by decide +kernel
theorem dX7_dawns_12 : decode cX7_dawns 12 = .ok (.iconst 1, 1) := by decide +kernel
theorem dX7_dawns_13 : decode cX7_dawns 13 = .ok (.invokevirtual 54, 3) := by decide +kernel
theorem dX7_dawns_16 : decode cX7_dawns 16 = .ok (.ireturn, 1) := by decide +kernel
theorem dX7_dawns_17 : decode cX7_dawns 17 = .ok (.aload_n 0, 1) := by decide +kernel
theorem dX7_dawns_18 : decode cX7_dawns 18 = .ok (.getfield 10, 3) := by decide +kernel
theorem dX7_dawns_21 : decode cX7_dawns 21 = .ok (.getfield 116, 3) := by decide +kernel
theorem dX7_dawns_24 : decode cX7_dawns 24 = .ok (.iload_n 1, 1) := by decide +kernel
theorem dX7_dawns_25 : decode cX7_dawns 25 = .ok (.iadd, 1) := by decide +kernel
theorem dX7_dawns_26 : decode cX7_dawns 26 = .ok (.sipush 9999, 3) := by decide +kernel
theorem dX7_dawns_29 : decode cX7_dawns 29 = .ok (.if_icmp .le 9, 3) := by decide +kernel
theorem dX7_dawns_32 : decode cX7_dawns 32 = .ok (.aload_n 0, 1) := by decide +kernel
theorem dX7_dawns_33 : decode cX7_dawns 33 = .ok (.iconst 3, 1) := by decide +kernel
theorem dX7_dawns_34 : decode cX7_dawns 34 = .ok (.invokevirtual 54, 3) := by decide +kernel
theorem dX7_dawns_37 : decode cX7_dawns 37 = .ok (.ireturn, 1) := by decide +kernel
theorem dX7_dawns_38 : decode cX7_dawns 38 = .ok (.aload_n 0, 1) := by decide +kernel
theorem dX7_dawns_39 : decode cX7_dawns 39 = .ok (.getfield 10, 3) := by decide +kernel
theorem dX7_dawns_42 : decode cX7_dawns 42 = .ok (.iload_n 1, 1) := by decide +kernel
theorem dX7_dawns_43 : decode cX7_dawns 43 = .ok (.invokevirtual 200, 3) := by decide +kernel
theorem dX7_dawns_46 : decode cX7_dawns 46 = .ok (.aload_n 0, 1) := by decide +kernel
theorem dX7_dawns_47 : decode cX7_dawns 47 = .ok (.getfield 10, 3) := by decide +kernel
theorem dX7_dawns_50 : decode cX7_dawns 50 = .ok (.getfield 116, 3) := by decide +kernel
theorem dX7_dawns_53 : decode cX7_dawns 53 = .ok (.ireturn, 1) := by decide +kernel
theorem dX7_loose_0 : decode cX7_loose 0 = .ok (.iload_n 1, 1) := by decide +kernel
theorem dX7_loose_1 : decode cX7_loose 1 = .ok (.iconst 1, 1) := by decide +kernel
theorem dX7_loose_2 : decode cX7_loose 2 = .ok (.if_icmp .lt 9, 3) := by decide +kernel
theorem dX7_loose_5 : decode cX7_loose 5 = .ok (.iload_n 1, 1) := by decide +kernel
theorem dX7_loose_6 : decode cX7_loose 6 = .ok (.bipush 20, 2) := by decide +kernel
theorem dX7_loose_8 : decode cX7_loose 8 = .ok (.if_icmp .le 9, 3) := by decide +kernel
theorem dX7_loose_11 : decode cX7_loose 11 = .ok (.aload_n 0, 1) := by decide +kernel
theorem dX7_loose_12 : decode cX7_loose 12 = .ok (.iconst 1, 1) := by decide +kernel
theorem dX7_loose_13 : decode cX7_loose 13 = .ok (.invokevirtual 54, 3) := by decide +kernel
theorem dX7_loose_16 : decode cX7_loose 16 = .ok (.ireturn, 1) := by decide +kernel
theorem dX7_loose_17 : decode cX7_loose 17 = .ok (.aload_n 0, 1) := by decide +kernel
theorem dX7_loose_18 : decode cX7_loose 18 = .ok (.getfield 10, 3) := by decide +kernel
theorem dX7_loose_21 : decode cX7_loose 21 = .ok (.getfield 116, 3) := by decide +kernel
theorem dX7_loose_24 : decode cX7_loose 24 = .ok (.iload_n 1, 1) := by decide +kernel
theorem dX7_loose_25 : decode cX7_loose 25 = .ok (.iadd, 1) := by decide +kernel
theorem dX7_loose_26 : decode cX7_loose 26 = .ok (.sipush 9999, 3) := by decide +kernel
theorem dX7_loose_29 : decode cX7_loose 29 = .ok (.if_icmp .le 9, 3) := by decide +kernel
theorem dX7_loose_32 : decode cX7_loose 32 = .ok (.aload_n 0, 1) := by decide +kernel
theorem dX7_loose_33 : decode cX7_loose 33 = .ok (.iconst 3, 1) := by decide +kernel
theorem dX7_loose_34 : decode cX7_loose 34 = .ok (.invokevirtual 54, 3) := by decide +kernel
theorem dX7_loose_37 : decode cX7_loose 37 = .ok (.ireturn, 1) := by decide +kernel
theorem dX7_loose_38 : decode cX7_loose 38 = .ok (.iconst 0, 1) := by decide +kernel
theorem dX7_loose_39 : decode cX7_loose 39 = .ok (.istore_n 2, 1) := by decide +kernel
theorem dX7_loose_40 : decode cX7_loose 40 = .ok (.iload_n 2, 1) := by decide +kernel
theorem dX7_loose_41 : decode cX7_loose 41 = .ok (.iload_n 1, 1) := by decide +kernel
theorem dX7_loose_42 : decode cX7_loose 42 = .ok (.if_icmp .ge 24, 3) := by decide +kernel
theorem dX7_loose_45 : decode cX7_loose 45 = .ok (.aload_n 0, 1) := by decide +kernel
theorem dX7_loose_46 : decode cX7_loose 46 = .ok (.getfield 10, 3) := by decide +kernel
theorem dX7_loose_49 : decode cX7_loose 49 = .ok (.invokevirtual 204, 3) := by decide +kernel
theorem dX7_loose_52 : decode cX7_loose 52 = .ok (.aload_n 0, 1) := by decide +kernel
theorem dX7_loose_53 : decode cX7_loose 53 = .ok (.getfield 10, 3) := by decide +kernel
theorem dX7_loose_56 : decode cX7_loose 56 = .ok (.iconst 1, 1) := by decide +kernel
theorem dX7_loose_57 : decode cX7_loose 57 = .ok (.invokevirtual 200, 3) := by decide +kernel
theorem dX7_loose_60 : decode cX7_loose 60 = .ok (.iinc 2 1, 3) := by decide +kernel
theorem dX7_loose_63 : decode cX7_loose 63 = .ok (.goto (-23), 3) := by decide +kernel
theorem dX7_loose_66 : decode cX7_loose 66 = .ok (.aload_n 0, 1) := by decide +kernel
theorem dX7_loose_67 : decode cX7_loose 67 = .ok (.getfield 10, 3) := by decide +kernel
theorem dX7_loose_70 : decode cX7_loose 70 = .ok (.getfield 126, 3) := by decide +kernel
theorem dX7_loose_73 : decode cX7_loose 73 = .ok (.invokestatic 102, 3) := by decide +kernel
theorem dX7_loose_76 : decode cX7_loose 76 = .ok (.ireturn, 1) := by decide +kernel
theorem dX7_seed_0 : decode cX7_seed 0 = .ok (.aload_n 0, 1) := by decide +kernel
theorem dX7_seed_1 : decode cX7_seed 1 = .ok (.getfield 10, 3) := by decide +kernel
theorem dX7_seed_4 : decode cX7_seed 4 = .ok (.getfield 207, 3) := by decide +kernel
theorem dX7_seed_7 : decode cX7_seed 7 = .ok (.istore_n 2, 1) := by decide +kernel
theorem dX7_seed_8 : decode cX7_seed 8 = .ok (.aload_n 0, 1) := by decide +kernel
theorem dX7_seed_9 : decode cX7_seed 9 = .ok (.getfield 10, 3) := by decide +kernel
theorem dX7_seed_12 : decode cX7_seed 12 = .ok (.iload_n 1, 1) := by decide +kernel
theorem dX7_seed_13 : decode cX7_seed 13 = .ok (.putfield 207, 3) := by decide +kernel
theorem dX7_seed_16 : decode cX7_seed 16 = .ok (.iload_n 2, 1) := by decide +kernel
theorem dX7_seed_17 : decode cX7_seed 17 = .ok (.ireturn, 1) := by decide +kernel
theorem dX7_land_0 : decode cX7_land 0 = .ok (.aload_n 0, 1) := by decide +kernel
theorem dX7_land_1 : decode cX7_land 1 = .ok (.iload_n 1, 1) := by decide +kernel
theorem dX7_land_2 : decode cX7_land 2 = .ok (.invokevirtual 72, 3) := by decide +kernel
theorem dX7_land_5 : decode cX7_land 5 = .ok (.ifCond .eq 12, 3) := by decide +kernel
theorem dX7_land_8 : decode cX7_land 8 = .ok (.iload_n 2, 1) := by decide +kernel
theorem dX7_land_9 : decode cX7_land 9 = .ok (.ifCond .lt 8, 3) := by decide +kernel
theorem dX7_land_12 : decode cX7_land 12 = .ok (.iload_n 2, 1) := by decide +kernel
theorem dX7_land_13 : decode cX7_land 13 = .ok (.iconst 1, 1) := by decide +kernel
theorem dX7_land_14 : decode cX7_land 14 = .ok (.if_icmp .le 10, 3) := by decide +kernel
theorem dX7_land_17 : decode cX7_land 17 = .ok (.aload_n 0, 1) := by decide +kernel
theorem dX7_land_18 : decode cX7_land 18 = .ok (.iconst 1, 1) := by decide +kernel
theorem dX7_land_19 : decode cX7_land 19 = .ok (.invokevirtual 54, 3) := by decide +kernel
theorem dX7_land_22 : decode cX7_land 22 = .ok (.i2l, 1) := by decide +kernel
theorem dX7_land_23 : decode cX7_land 23 = .ok (.lreturn, 1) := by decide +kernel
theorem dX7_land_24 : decode cX7_land 24 = .ok (.iload_n 2, 1) := by decide +kernel
theorem dX7_land_25 : decode cX7_land 25 = .ok (.ifCond .ne 18, 3) := by decide +kernel
theorem dX7_land_28 : decode cX7_land 28 = .ok (.aload_n 0, 1) := by decide +kernel
theorem dX7_land_29 : decode cX7_land 29 = .ok (.getfield 10, 3) := by decide +kernel
theorem dX7_land_32 : decode cX7_land 32 = .ok (.getfield 62, 3) := by decide +kernel
theorem dX7_land_35 : decode cX7_land 35 = .ok (.iload_n 1, 1) := by decide +kernel
theorem dX7_land_36 : decode cX7_land 36 = .ok (.aaload, 1) := by decide +kernel
theorem dX7_land_37 : decode cX7_land 37 = .ok (.invokevirtual 210, 3) := by decide +kernel
theorem dX7_land_40 : decode cX7_land 40 = .ok (.goto 15, 3) := by decide +kernel
theorem dX7_land_43 : decode cX7_land 43 = .ok (.aload_n 0, 1) := by decide +kernel
theorem dX7_land_44 : decode cX7_land 44 = .ok (.getfield 10, 3) := by decide +kernel
theorem dX7_land_47 : decode cX7_land 47 = .ok (.getfield 62, 3) := by decide +kernel
theorem dX7_land_50 : decode cX7_land 50 = .ok (.iload_n 1, 1) := by decide +kernel
theorem dX7_land_51 : decode cX7_land 51 = .ok (.aaload, 1) := by decide +kernel
theorem dX7_land_52 : decode cX7_land 52 = .ok (.invokevirtual 98, 3) := by decide +kernel
theorem dX7_land_55 : decode cX7_land 55 = .ok (.lreturn, 1) := by decide +kernel
theorem dX7_then_0 : decode cX7_then 0 = .ok (.aload_n 0, 1) := by decide +kernel
theorem dX7_then_1 : decode cX7_then 1 = .ok (.iload_n 1, 1) := by decide +kernel
theorem dX7_then_2 : decode cX7_then 2 = .ok (.invokevirtual 72, 3) := by decide +kernel
theorem dX7_then_5 : decode cX7_then 5 = .ok (.ifCond .eq 22, 3) := by decide +kernel
theorem dX7_then_8 : decode cX7_then 8 = .ok (.iload_n 2, 1) := by decide +kernel
theorem dX7_then_9 : decode cX7_then 9 = .ok (.ifCond .lt 18, 3) := by decide +kernel
theorem dX7_then_12 : decode cX7_then 12 = .ok (.iload_n 2, 1) := by decide +kernel
theorem dX7_then_13 : decode cX7_then 13 = .ok (.bipush 60, 2) := by decide +kernel
theorem dX7_then_15 : decode cX7_then 15 = .ok (.if_icmp .gt 12, 3) := by decide +kernel
theorem dX7_then_18 : decode cX7_then 18 = .ok (.iload_n 3, 1) := by decide +kernel
theorem dX7_then_19 : decode cX7_then 19 = .ok (.ifCond .lt 8, 3) := by decide +kernel
theorem dX7_then_22 : decode cX7_then 22 = .ok (.iload_n 3, 1) := by decide +kernel
theorem dX7_then_23 : decode cX7_then 23 = .ok (.iconst 1, 1) := by decide +kernel
theorem dX7_then_24 : decode cX7_then 24 = .ok (.if_icmp .le 9, 3) := by decide +kernel
theorem dX7_then_27 : decode cX7_then 27 = .ok (.aload_n 0, 1) := by decide +kernel
theorem dX7_then_28 : decode cX7_then 28 = .ok (.iconst 1, 1) := by decide +kernel
theorem dX7_then_29 : decode cX7_then 29 = .ok (.invokevirtual 54, 3) := by decide +kernel
theorem dX7_then_32 : decode cX7_then 32 = .ok (.ireturn, 1) := by decide +kernel
theorem dX7_then_33 : decode cX7_then 33 = .ok (.aload_n 0, 1) := by decide +kernel
theorem dX7_then_34 : decode cX7_then 34 = .ok (.getfield 19, 3) := by decide +kernel
theorem dX7_then_37 : decode cX7_then 37 = .ok (.aload_n 0, 1) := by decide +kernel
theorem dX7_then_38 : decode cX7_then 38 = .ok (.getfield 10, 3) := by decide +kernel
theorem dX7_then_41 : decode cX7_then 41 = .ok (.invokevirtual 213, 3) := by decide +kernel
theorem dX7_then_44 : decode cX7_then 44 = .ok (.aload_n 0, 1) := by decide +kernel
theorem dX7_then_45 : decode cX7_then 45 = .ok (.getfield 19, 3) := by decide +kernel
theorem dX7_then_48 : decode cX7_then 48 = .ok (.iload_n 2, 1) := by decide +kernel
theorem dX7_then_49 : decode cX7_then 49 = .ok (.invokevirtual 200, 3) := by decide +kernel
theorem dX7_then_52 : decode cX7_then 52 = .ok (.aload_n 0, 1) := by decide +kernel
theorem dX7_then_53 : decode cX7_then 53 = .ok (.getfield 19, 3) := by decide +kernel
theorem dX7_then_56 : decode cX7_then 56 = .ok (.getfield 62, 3) := by decide +kernel
theorem dX7_then_59 : decode cX7_then 59 = .ok (.iload_n 1, 1) := by decide +kernel
theorem dX7_then_60 : decode cX7_then 60 = .ok (.aaload, 1) := by decide +kernel
theorem dX7_then_61 : decode cX7_then 61 = .ok (.astore 4, 2) := by decide +kernel
theorem dX7_then_63 : decode cX7_then 63 = .ok (.iload_n 3, 1) := by decide +kernel
theorem dX7_then_64 : decode cX7_then 64 = .ok (.ifCond .ne 14, 3) := by decide +kernel
theorem dX7_then_67 : decode cX7_then 67 = .ok (.aload 4, 2) := by decide +kernel
theorem dX7_then_69 : decode cX7_then 69 = .ok (.invokevirtual 98, 3) := by decide +kernel
theorem dX7_then_72 : decode cX7_then 72 = .ok (.invokestatic 102, 3) := by decide +kernel
theorem dX7_then_75 : decode cX7_then 75 = .ok (.goto 8, 3) := by decide +kernel
theorem dX7_then_78 : decode cX7_then 78 = .ok (.aload 4, 2) := by decide +kernel
theorem dX7_then_80 : decode cX7_then 80 = .ok (.getfield 95, 3) := by decide +kernel
theorem dX7_then_83 : decode cX7_then 83 = .ok (.ireturn, 1) := by decide +kernel
theorem dX7_first_0 : decode cX7_first 0 = .ok (.iload_n 1, 1) := by decide +kernel
theorem dX7_first_1 : decode cX7_first 1 = .ok (.invokestatic 75, 3) := by decide +kernel
theorem dX7_first_4 : decode cX7_first 4 = .ok (.ifCond .eq 12, 3) := by decide +kernel
theorem dX7_first_7 : decode cX7_first 7 = .ok (.iload_n 2, 1) := by decide +kernel
theorem dX7_first_8 : decode cX7_first 8 = .ok (.ifCond .lt 8, 3) := by decide +kernel
theorem dX7_first_11 : decode cX7_first 11 = .ok (.iload_n 2, 1) := by decide +kernel
theorem dX7_first_12 : decode cX7_first 12 = .ok (.iconst 1, 1) := by decide +kernel
theorem dX7_first_13 : decode cX7_first 13 = .ok (.if_icmp .le 9, 3) := by decide +kernel
theorem dX7_first_16 : decode cX7_first 16 = .ok (.aload_n 0, 1) := by decide +kernel
theorem dX7_first_17 : decode cX7_first 17 = .ok (.iconst 1, 1) := by decide +kernel
theorem dX7_first_18 : decode cX7_first 18 = .ok (.invokevirtual 54, 3) := by decide +kernel
theorem dX7_first_21 : decode cX7_first 21 = .ok (.ireturn, 1) := by decide +kernel
theorem dX7_first_22 : decode cX7_first 22 = .ok (.aload_n 0, 1) := by decide +kernel
theorem dX7_first_23 : decode cX7_first 23 = .ok (.getfield 19, 3) := by decide +kernel
theorem dX7_first_26 : decode cX7_first 26 = .ok (.aload_n 0, 1) := by decide +kernel
theorem dX7_first_27 : decode cX7_first 27 = .ok (.getfield 10, 3) := by decide +kernel
theorem dX7_first_30 : decode cX7_first 30 = .ok (.invokevirtual 213, 3) := by decide +kernel
theorem dX7_first_33 : decode cX7_first 33 = .ok (.iconst 0, 1) := by decide +kernel
theorem dX7_first_34 : decode cX7_first 34 = .ok (.istore_n 3, 1) := by decide +kernel
theorem dX7_first_35 : decode cX7_first 35 = .ok (.iload_n 3, 1) := by decide +kernel
theorem dX7_first_36 : decode cX7_first 36 = .ok (.bipush 60, 2) := by decide +kernel
theorem dX7_first_38 : decode cX7_first 38 = .ok (.if_icmp .gt 49, 3) := by decide +kernel
theorem dX7_first_41 : decode cX7_first 41 = .ok (.aload_n 0, 1) := by decide +kernel
theorem dX7_first_42 : decode cX7_first 42 = .ok (.getfield 19, 3) := by decide +kernel
theorem dX7_first_45 : decode cX7_first 45 = .ok (.invokevirtual 155, 3) := by decide +kernel
theorem dX7_first_48 : decode cX7_first 48 = .ok (.aload_n 0, 1) := by decide +kernel
theorem dX7_first_49 : decode cX7_first 49 = .ok (.getfield 19, 3) := by decide +kernel
theorem dX7_first_52 : decode cX7_first 52 = .ok (.iload_n 1, 1) := by decide +kernel
theorem dX7_first_53 : decode cX7_first 53 = .ok (.invokevirtual 158, 3) := by decide +kernel
theorem dX7_first_56 : decode cX7_first 56 = .ok (.istore 4, 2) := by decide +kernel
theorem dX7_first_58 : decode cX7_first 58 = .ok (.iload 4, 2) := by decide +kernel
theorem dX7_first_60 : decode cX7_first 60 = .ok (.ifCond .lt 14, 3) := by decide +kernel
theorem dX7_first_63 : decode cX7_first 63 = .ok (.iload_n 2, 1) := by decide +kernel
theorem dX7_first_64 : decode cX7_first 64 = .ok (.ifCond .ne 7, 3) := by decide +kernel
theorem dX7_first_67 : decode cX7_first 67 = .ok (.iload_n 3, 1) := by decide +kernel
theorem dX7_first_68 : decode cX7_first 68 = .ok (.goto 5, 3) := by decide +kernel
theorem dX7_first_71 : decode cX7_first 71 = .ok (.iload 4, 2) := by decide +kernel
theorem dX7_first_73 : decode cX7_first 73 = .ok (.ireturn, 1) := by decide +kernel
theorem dX7_first_74 : decode cX7_first 74 = .ok (.aload_n 0, 1) := by decide +kernel
theorem dX7_first_75 : decode cX7_first 75 = .ok (.getfield 19, 3) := by decide +kernel
theorem dX7_first_78 : decode cX7_first 78 = .ok (.invokevirtual 217, 3) := by decide +kernel
theorem dX7_first_81 : decode cX7_first 81 = .ok (.iinc 3 1, 3) := by decide +kernel
theorem dX7_first_84 : decode cX7_first 84 = .ok (.goto (-49), 3) := by decide +kernel
theorem dX7_first_87 : decode cX7_first 87 = .ok (.aload_n 0, 1) := by decide +kernel
theorem dX7_first_88 : decode cX7_first 88 = .ok (.iconst 2, 1) := by decide +kernel
theorem dX7_first_89 : decode cX7_first 89 = .ok (.invokevirtual 54, 3) := by decide +kernel
theorem dX7_first_92 : decode cX7_first 92 = .ok (.ireturn, 1) := by decide +kernel
theorem dX7_salts_0 : decode cX7_salts 0 = .ok (.aload_n 0, 1) := by decide +kernel
theorem dX7_salts_1 : decode cX7_salts 1 = .ok (.iload_n 1, 1) := by decide +kernel
theorem dX7_salts_2 : decode cX7_salts 2 = .ok (.invokevirtual 72, 3) := by decide +kernel
theorem dX7_salts_5 : decode cX7_salts 5 = .ok (.ifCond .eq 32, 3) := by decide +kernel
theorem dX7_salts_8 : decode cX7_salts 8 = .ok (.iload_n 2, 1) := by decide +kernel
theorem dX7_salts_9 : decode cX7_salts 9 = .ok (.invokestatic 75, 3) := by decide +kernel
theorem dX7_salts_12 : decode cX7_salts 12 = .ok (.ifCond .eq 25, 3) := by decide +kernel
theorem dX7_salts_15 : decode cX7_salts 15 = .ok (.iload_n 3, 1) := by decide +kernel
theorem dX7_salts_16 : decode cX7_salts 16 = .ok (.ifCond .lt 21, 3) := by decide +kernel
theorem dX7_salts_19 : decode cX7_salts 19 = .ok (.iload_n 3, 1) := by decide +kernel
theorem dX7_salts_20 : decode cX7_salts 20 = .ok (.bipush 6, 2) := by decide +kernel
theorem dX7_salts_22 : decode cX7_salts 22 = .ok (.if_icmp .gt 15, 3) := by decide +kernel
theorem dX7_salts_25 : decode cX7_salts 25 = .ok (.iload 4, 2) := by decide +kernel
theorem dX7_salts_27 : decode cX7_salts 27 = .ok (.iconst (-1), 1) := by decide +kernel
theorem dX7_salts_28 : decode cX7_salts 28 = .ok (.if_icmp .lt 9, 3) := by decide +kernel
theorem dX7_salts_31 : decode cX7_salts 31 = .ok (.iload 4, 2) := by decide +kernel
theorem dX7_salts_33 : decode cX7_salts 33 = .ok (.iconst 1, 1) := by decide +kernel
theorem dX7_salts_34 : decode cX7_salts 34 = .ok (.if_icmp .le 9, 3) := by decide +kernel
theorem dX7_salts_37 : decode cX7_salts 37 = .ok (.aload_n 0, 1) := by decide +kernel
theorem dX7_salts_38 : decode cX7_salts 38 = .ok (.iconst 1, 1) := by decide +kernel
theorem dX7_salts_39 : decode cX7_salts 39 = .ok (.invokevirtual 54, 3) := by decide +kernel
theorem dX7_salts_42 : decode cX7_salts 42 = .ok (.ireturn, 1) := by decide +kernel
theorem dX7_salts_43 : decode cX7_salts 43 = .ok (.aload_n 0, 1) := by decide +kernel
theorem dX7_salts_44 : decode cX7_salts 44 = .ok (.iload_n 1, 1) := by decide +kernel
theorem dX7_salts_45 : decode cX7_salts 45 = .ok (.iload_n 2, 1) := by decide +kernel
theorem dX7_salts_46 : decode cX7_salts 46 = .ok (.iload_n 3, 1) := by decide +kernel
theorem dX7_salts_47 : decode cX7_salts 47 = .ok (.invokevirtual 220, 3) := by decide +kernel
theorem dX7_salts_50 : decode cX7_salts 50 = .ok (.lstore 5, 2) := by decide +kernel
theorem dX7_salts_52 : decode cX7_salts 52 = .ok (.lload 5, 2) := by decide +kernel
theorem dX7_salts_54 : decode cX7_salts 54 = .ok (.ldc2_w 137, 3) := by decide +kernel
theorem dX7_salts_57 : decode cX7_salts 57 = .ok (.lcmp, 1) := by decide +kernel
theorem dX7_salts_58 : decode cX7_salts 58 = .ok (.ifCond .ne 9, 3) := by decide +kernel
theorem dX7_salts_61 : decode cX7_salts 61 = .ok (.aload_n 0, 1) := by decide +kernel
theorem dX7_salts_62 : decode cX7_salts 62 = .ok (.iconst 2, 1) := by decide +kernel
theorem dX7_salts_63 : decode cX7_salts 63 = .ok (.invokevirtual 54, 3) := by decide +kernel
theorem dX7_salts_66 : decode cX7_salts 66 = .ok (.ireturn, 1) := by decide +kernel
theorem dX7_salts_67 : decode cX7_salts 67 = .ok (.iload 4, 2) := by decide +kernel
theorem dX7_salts_69 : decode cX7_salts 69 = .ok (.ifCond .ge 9, 3) := by decide +kernel
theorem dX7_salts_72 : decode cX7_salts 72 = .ok (.lload 5, 2) := by decide +kernel
theorem dX7_salts_74 : decode cX7_salts 74 = .ok (.invokestatic 102, 3) := by decide +kernel
theorem dX7_salts_77 : decode cX7_salts 77 = .ok (.ireturn, 1) := by decide +kernel
theorem dX7_salts_78 : decode cX7_salts 78 = .ok (.iload 4, 2) := by decide +kernel
theorem dX7_salts_80 : decode cX7_salts 80 = .ok (.ifCond .ne 8, 3) := by decide +kernel
theorem dX7_salts_83 : decode cX7_salts 83 = .ok (.lload 5, 2) := by decide +kernel
theorem dX7_salts_85 : decode cX7_salts 85 = .ok (.goto 10, 3) := by decide +kernel
theorem dX7_salts_88 : decode cX7_salts 88 = .ok (.lload 5, 2) := by decide +kernel
theorem dX7_salts_90 : decode cX7_salts 90 = .ok (.lload 5, 2) := by decide +kernel
theorem dX7_salts_92 : decode cX7_salts 92 = .ok (.lconst 1, 1) := by decide +kernel
theorem dX7_salts_93 : decode cX7_salts 93 = .ok (.lsub, 1) := by decide +kernel
theorem dX7_salts_94 : decode cX7_salts 94 = .ok (.land, 1) := by decide +kernel
theorem dX7_salts_95 : decode cX7_salts 95 = .ok (.lstore 7, 2) := by decide +kernel
theorem dX7_salts_97 : decode cX7_salts 97 = .ok (.lload 7, 2) := by decide +kernel
theorem dX7_salts_99 : decode cX7_salts 99 = .ok (.lconst 0, 1) := by decide +kernel
theorem dX7_salts_100 : decode cX7_salts 100 = .ok (.lcmp, 1) := by decide +kernel
theorem dX7_salts_101 : decode cX7_salts 101 = .ok (.ifCond .ne 7, 3) := by decide +kernel
theorem dX7_salts_104 : decode cX7_salts 104 = .ok (.iconst (-1), 1) := by decide +kernel
theorem dX7_salts_105 : decode cX7_salts 105 = .ok (.goto 8, 3) := by decide +kernel
theorem dX7_salts_108 : decode cX7_salts 108 = .ok (.lload 7, 2) := by decide +kernel
theorem dX7_salts_110 : decode cX7_salts 110 = .ok (.invokestatic 224, 3) := by decide +kernel
theorem dX7_salts_113 : decode cX7_salts 113 = .ok (.ireturn, 1) := by decide +kernel
theorem dX7_way_0 : decode cX7_way 0 = .ok (.aload_n 0, 1) := by decide +kernel
theorem dX7_way_1 : decode cX7_way 1 = .ok (.iload_n 1, 1) := by decide +kernel
theorem dX7_way_2 : decode cX7_way 2 = .ok (.invokevirtual 152, 3) := by decide +kernel
theorem dX7_way_5 : decode cX7_way 5 = .ok (.ifCond .eq 10, 3) := by decide +kernel
theorem dX7_way_8 : decode cX7_way 8 = .ok (.iload_n 2, 1) := by decide +kernel
theorem dX7_way_9 : decode cX7_way 9 = .ok (.invokestatic 75, 3) := by decide +kernel
theorem dX7_way_12 : decode cX7_way 12 = .ok (.ifCond .ne 9, 3) := by decide +kernel
theorem dX7_way_15 : decode cX7_way 15 = .ok (.aload_n 0, 1) := by decide +kernel
theorem dX7_way_16 : decode cX7_way 16 = .ok (.iconst 1, 1) := by decide +kernel
theorem dX7_way_17 : decode cX7_way 17 = .ok (.invokevirtual 54, 3) := by decide +kernel
theorem dX7_way_20 : decode cX7_way 20 = .ok (.ireturn, 1) := by decide +kernel
theorem dX7_way_21 : decode cX7_way 21 = .ok (.aload_n 0, 1) := by decide +kernel
theorem dX7_way_22 : decode cX7_way 22 = .ok (.getfield 19, 3) := by decide +kernel
theorem dX7_way_25 : decode cX7_way 25 = .ok (.aload_n 0, 1) := by decide +kernel
theorem dX7_way_26 : decode cX7_way 26 = .ok (.getfield 10, 3) := by decide +kernel
theorem dX7_way_29 : decode cX7_way 29 = .ok (.invokevirtual 213, 3) := by decide +kernel
theorem dX7_way_32 : decode cX7_way 32 = .ok (.aload_n 0, 1) := by decide +kernel
theorem dX7_way_33 : decode cX7_way 33 = .ok (.getfield 10, 3) := by decide +kernel
theorem dX7_way_36 : decode cX7_way 36 = .ok (.getfield 146, 3) := by decide +kernel
theorem dX7_way_39 : decode cX7_way 39 = .ok (.iload_n 1, 1) := by decide +kernel
theorem dX7_way_40 : decode cX7_way 40 = .ok (.iaload, 1) := by decide +kernel
theorem dX7_way_41 : decode cX7_way 41 = .ok (.invokestatic 133, 3) := by decide +kernel
theorem dX7_way_44 : decode cX7_way 44 = .ok (.lstore_n 3, 1) := by decide +kernel
theorem dX7_way_45 : decode cX7_way 45 = .ok (.iconst 0, 1) := by decide +kernel
theorem dX7_way_46 : decode cX7_way 46 = .ok (.istore 5, 2) := by decide +kernel
theorem dX7_way_48 : decode cX7_way 48 = .ok (.iload 5, 2) := by decide +kernel
theorem dX7_way_50 : decode cX7_way 50 = .ok (.bipush 60, 2) := by decide +kernel
theorem dX7_way_52 : decode cX7_way 52 = .ok (.if_icmp .gt 46, 3) := by decide +kernel
theorem dX7_way_55 : decode cX7_way 55 = .ok (.lload_n 3, 1) := by decide +kernel
theorem dX7_way_56 : decode cX7_way 56 = .ok (.iload_n 2, 1) := by decide +kernel
theorem dX7_way_57 : decode cX7_way 57 = .ok (.invokestatic 139, 3) := by decide +kernel
theorem dX7_way_60 : decode cX7_way 60 = .ok (.ifCond .eq 6, 3) := by decide +kernel
theorem dX7_way_63 : decode cX7_way 63 = .ok (.iload 5, 2) := by decide +kernel
theorem dX7_way_65 : decode cX7_way 65 = .ok (.ireturn, 1) := by decide +kernel
theorem dX7_way_66 : decode cX7_way 66 = .ok (.aload_n 0, 1) := by decide +kernel
theorem dX7_way_67 : decode cX7_way 67 = .ok (.getfield 19, 3) := by decide +kernel
theorem dX7_way_70 : decode cX7_way 70 = .ok (.invokevirtual 217, 3) := by decide +kernel
theorem dX7_way_73 : decode cX7_way 73 = .ok (.lload_n 3, 1) := by decide +kernel
theorem dX7_way_74 : decode cX7_way 74 = .ok (.lload_n 3, 1) := by decide +kernel
theorem dX7_way_75 : decode cX7_way 75 = .ok (.invokestatic 227, 3) := by decide +kernel
theorem dX7_way_78 : decode cX7_way 78 = .ok (.aload_n 0, 1) := by decide +kernel
theorem dX7_way_79 : decode cX7_way 79 = .ok (.getfield 19, 3) := by decide +kernel
theorem dX7_way_82 : decode cX7_way 82 = .ok (.invokevirtual 231, 3) := by decide +kernel
theorem dX7_way_85 : decode cX7_way 85 = .ok (.ldc2_w 137, 3) := by decide +kernel
theorem dX7_way_88 : decode cX7_way 88 = .ok (.lxor, 1) := by decide +kernel
theorem dX7_way_89 : decode cX7_way 89 = .ok (.land, 1) := by decide +kernel
theorem dX7_way_90 : decode cX7_way 90 = .ok (.lor, 1) := by decide +kernel
theorem dX7_way_91 : decode cX7_way 91 = .ok (.lstore_n 3, 1) := by decide +kernel
theorem dX7_way_92 : decode cX7_way 92 = .ok (.iinc 5 1, 3) := by decide +kernel
theorem dX7_way_95 : decode cX7_way 95 = .ok (.goto (-47), 3) := by decide +kernel
theorem dX7_way_98 : decode cX7_way 98 = .ok (.aload_n 0, 1) := by decide +kernel
theorem dX7_way_99 : decode cX7_way 99 = .ok (.iconst 2, 1) := by decide +kernel
theorem dX7_way_100 : decode cX7_way 100 = .ok (.invokevirtual 54, 3) := by decide +kernel
theorem dX7_way_103 : decode cX7_way 103 = .ok (.ireturn, 1) := by decide +kernel
theorem dX7_odds_0 : decode cX7_odds 0 = .ok (.iload_n 1, 1) := by decide +kernel
theorem dX7_odds_1 : decode cX7_odds 1 = .ok (.ifCond .lt 8, 3) := by decide +kernel
theorem dX7_odds_4 : decode cX7_odds 4 = .ok (.iload_n 1, 1) := by decide +kernel
theorem dX7_odds_5 : decode cX7_odds 5 = .ok (.iconst 1, 1) := by decide +kernel
theorem dX7_odds_6 : decode cX7_odds 6 = .ok (.if_icmp .le 9, 3) := by decide +kernel
theorem dX7_odds_9 : decode cX7_odds 9 = .ok (.aload_n 0, 1) := by decide +kernel
theorem dX7_odds_10 : decode cX7_odds 10 = .ok (.iconst 1, 1) := by decide +kernel
theorem dX7_odds_11 : decode cX7_odds 11 = .ok (.invokevirtual 54, 3) := by decide +kernel
theorem dX7_odds_14 : decode cX7_odds 14 = .ok (.ireturn, 1) := by decide +kernel
theorem dX7_odds_15 : decode cX7_odds 15 = .ok (.aload_n 0, 1) := by decide +kernel
theorem dX7_odds_16 : decode cX7_odds 16 = .ok (.getfield 10, 3) := by decide +kernel
theorem dX7_odds_19 : decode cX7_odds 19 = .ok (.invokevirtual 155, 3) := by decide +kernel
theorem dX7_odds_22 : decode cX7_odds 22 = .ok (.aload_n 0, 1) := by decide +kernel
theorem dX7_odds_23 : decode cX7_odds 23 = .ok (.getfield 10, 3) := by decide +kernel
theorem dX7_odds_26 : decode cX7_odds 26 = .ok (.invokevirtual 232, 3) := by decide +kernel
theorem dX7_odds_29 : decode cX7_odds 29 = .ok (.invokestatic 102, 3) := by decide +kernel
theorem dX7_odds_32 : decode cX7_odds 32 = .ok (.istore_n 2, 1) := by decide +kernel
theorem dX7_odds_33 : decode cX7_odds 33 = .ok (.bipush 64, 2) := by decide +kernel
theorem dX7_odds_35 : decode cX7_odds 35 = .ok (.istore_n 3, 1) := by decide +kernel
theorem dX7_odds_36 : decode cX7_odds 36 = .ok (.iconst 0, 1) := by decide +kernel
theorem dX7_odds_37 : decode cX7_odds 37 = .ok (.istore 4, 2) := by decide +kernel
theorem dX7_odds_39 : decode cX7_odds 39 = .ok (.iload 4, 2) := by decide +kernel
theorem dX7_odds_41 : decode cX7_odds 41 = .ok (.bipush 64, 2) := by decide +kernel
theorem dX7_odds_43 : decode cX7_odds 43 = .ok (.if_icmp .ge 29, 3) := by decide +kernel
theorem dX7_odds_46 : decode cX7_odds 46 = .ok (.iload_n 2, 1) := by decide +kernel
theorem dX7_odds_47 : decode cX7_odds 47 = .ok (.iconst 2, 1) := by decide +kernel
theorem dX7_odds_48 : decode cX7_odds 48 = .ok (.irem, 1) := by decide +kernel
theorem dX7_odds_49 : decode cX7_odds 49 = .ok (.ifCond .ne 23, 3) := by decide +kernel
theorem dX7_odds_52 : decode cX7_odds 52 = .ok (.iload_n 3, 1) := by decide +kernel
theorem dX7_odds_53 : decode cX7_odds 53 = .ok (.iconst 2, 1) := by decide +kernel
theorem dX7_odds_54 : decode cX7_odds 54 = .ok (.irem, 1) := by decide +kernel
theorem dX7_odds_55 : decode cX7_odds 55 = .ok (.ifCond .ne 17, 3) := by decide +kernel
theorem dX7_odds_58 : decode cX7_odds 58 = .ok (.iload_n 2, 1) := by decide +kernel
theorem dX7_odds_59 : decode cX7_odds 59 = .ok (.iconst 2, 1) := by decide +kernel
theorem dX7_odds_60 : decode cX7_odds 60 = .ok (.idiv, 1) := by decide +kernel
theorem dX7_odds_61 : decode cX7_odds 61 = .ok (.istore_n 2, 1) := by decide +kernel
theorem dX7_odds_62 : decode cX7_odds 62 = .ok (.iload_n 3, 1) := by decide +kernel
theorem dX7_odds_63 : decode cX7_odds 63 = .ok (.iconst 2, 1) := by decide +kernel
theorem dX7_odds_64 : decode cX7_odds 64 = .ok (.idiv, 1) := by decide +kernel
theorem dX7_odds_65 : decode cX7_odds 65 = .ok (.istore_n 3, 1) := by decide +kernel
theorem dX7_odds_66 : decode cX7_odds 66 = .ok (.iinc 4 1, 3) := by decide +kernel
theorem dX7_odds_69 : decode cX7_odds 69 = .ok (.goto (-30), 3) := by decide +kernel
theorem dX7_odds_72 : decode cX7_odds 72 = .ok (.iload_n 1, 1) := by decide +kernel
theorem dX7_odds_73 : decode cX7_odds 73 = .ok (.ifCond .ne 7, 3) := by decide +kernel
theorem dX7_odds_76 : decode cX7_odds 76 = .ok (.iload_n 2, 1) := by decide +kernel
theorem dX7_odds_77 : decode cX7_odds 77 = .ok (.goto 4, 3) := by decide +kernel
theorem dX7_odds_80 : decode cX7_odds 80 = .ok (.iload_n 3, 1) := by decide +kernel
theorem dX7_odds_81 : decode cX7_odds 81 = .ok (.ireturn, 1) := by decide +kernel
theorem dX7_fits_0 : decode cX7_fits 0 = .ok (.iload_n 1, 1) := by decide +kernel
theorem dX7_fits_1 : decode cX7_fits 1 = .ok (.invokestatic 235, 3) := by decide +kernel
theorem dX7_fits_4 : decode cX7_fits 4 = .ok (.ifCond .eq 11, 3) := by decide +kernel
theorem dX7_fits_7 : decode cX7_fits 7 = .ok (.aload_n 0, 1) := by decide +kernel
theorem dX7_fits_8 : decode cX7_fits 8 = .ok (.iload_n 2, 1) := by decide +kernel
theorem dX7_fits_9 : decode cX7_fits 9 = .ok (.invokevirtual 72, 3) := by decide +kernel
theorem dX7_fits_12 : decode cX7_fits 12 = .ok (.ifCond .ne 9, 3) := by decide +kernel
theorem dX7_fits_15 : decode cX7_fits 15 = .ok (.aload_n 0, 1) := by decide +kernel
theorem dX7_fits_16 : decode cX7_fits 16 = .ok (.iconst 1, 1) := by decide +kernel
theorem dX7_fits_17 : decode cX7_fits 17 = .ok (.invokevirtual 54, 3) := by decide +kernel
theorem dX7_fits_20 : decode cX7_fits 20 = .ok (.ireturn, 1) := by decide +kernel
theorem dX7_fits_21 : decode cX7_fits 21 = .ok (.aload_n 0, 1) := by decide +kernel
theorem dX7_fits_22 : decode cX7_fits 22 = .ok (.getfield 38, 3) := by decide +kernel
theorem dX7_fits_25 : decode cX7_fits 25 = .ok (.iload_n 1, 1) := by decide +kernel
theorem dX7_fits_26 : decode cX7_fits 26 = .ok (.aaload, 1) := by decide +kernel
theorem dX7_fits_27 : decode cX7_fits 27 = .ok (.getfield 238, 3) := by decide +kernel
theorem dX7_fits_30 : decode cX7_fits 30 = .ok (.ifCond .ne 9, 3) := by decide +kernel
theorem dX7_fits_33 : decode cX7_fits 33 = .ok (.aload_n 0, 1) := by decide +kernel
theorem dX7_fits_34 : decode cX7_fits 34 = .ok (.iconst 2, 1) := by decide +kernel
theorem dX7_fits_35 : decode cX7_fits 35 = .ok (.invokevirtual 54, 3) := by decide +kernel
theorem dX7_fits_38 : decode cX7_fits 38 = .ok (.ireturn, 1) := by decide +kernel
theorem dX7_fits_39 : decode cX7_fits 39 = .ok (.aload_n 0, 1) := by decide +kernel
theorem dX7_fits_40 : decode cX7_fits 40 = .ok (.getfield 19, 3) := by decide +kernel
theorem dX7_fits_43 : decode cX7_fits 43 = .ok (.aload_n 0, 1) := by decide +kernel
theorem dX7_fits_44 : decode cX7_fits 44 = .ok (.getfield 10, 3) := by decide +kernel
theorem dX7_fits_47 : decode cX7_fits 47 = .ok (.invokevirtual 213, 3) := by decide +kernel
theorem dX7_fits_50 : decode cX7_fits 50 = .ok (.iconst 0, 1) := by decide +kernel
theorem dX7_fits_51 : decode cX7_fits 51 = .ok (.istore_n 3, 1) := by decide +kernel
theorem dX7_fits_52 : decode cX7_fits 52 = .ok (.iload_n 3, 1) := by decide +kernel
theorem dX7_fits_53 : decode cX7_fits 53 = .ok (.bipush 60, 2) := by decide +kernel
theorem dX7_fits_55 : decode cX7_fits 55 = .ok (.if_icmp .gt 39, 3) := by decide +kernel
theorem dX7_fits_58 : decode cX7_fits 58 = .ok (.aload_n 0, 1) := by decide +kernel
theorem dX7_fits_59 : decode cX7_fits 59 = .ok (.getfield 38, 3) := by decide +kernel
theorem dX7_fits_62 : decode cX7_fits 62 = .ok (.iload_n 1, 1) := by decide +kernel
theorem dX7_fits_63 : decode cX7_fits 63 = .ok (.aaload, 1) := by decide +kernel
theorem dX7_fits_64 : decode cX7_fits 64 = .ok (.aload_n 0, 1) := by decide +kernel
theorem dX7_fits_65 : decode cX7_fits 65 = .ok (.getfield 19, 3) := by decide +kernel
theorem dX7_fits_68 : decode cX7_fits 68 = .ok (.getfield 62, 3) := by decide +kernel
theorem dX7_fits_71 : decode cX7_fits 71 = .ok (.iload_n 2, 1) := by decide +kernel
theorem dX7_fits_72 : decode cX7_fits 72 = .ok (.aaload, 1) := by decide +kernel
theorem dX7_fits_73 : decode cX7_fits 73 = .ok (.invokevirtual 241, 3) := by decide +kernel
theorem dX7_fits_76 : decode cX7_fits 76 = .ok (.ifCond .eq 5, 3) := by decide +kernel
theorem dX7_fits_79 : decode cX7_fits 79 = .ok (.iload_n 3, 1) := by decide +kernel
theorem dX7_fits_80 : decode cX7_fits 80 = .ok (.ireturn, 1) := by decide +kernel
theorem dX7_fits_81 : decode cX7_fits 81 = .ok (.aload_n 0, 1) := by decide +kernel
theorem dX7_fits_82 : decode cX7_fits 82 = .ok (.getfield 19, 3) := by decide +kernel
theorem dX7_fits_85 : decode cX7_fits 85 = .ok (.invokevirtual 217, 3) := by decide +kernel
theorem dX7_fits_88 : decode cX7_fits 88 = .ok (.iinc 3 1, 3) := by decide +kernel
theorem dX7_fits_91 : decode cX7_fits 91 = .ok (.goto (-39), 3) := by decide +kernel
theorem dX7_fits_94 : decode cX7_fits 94 = .ok (.aload_n 0, 1) := by decide +kernel
theorem dX7_fits_95 : decode cX7_fits 95 = .ok (.iconst 2, 1) := by decide +kernel
theorem dX7_fits_96 : decode cX7_fits 96 = .ok (.invokevirtual 54, 3) := by decide +kernel
theorem dX7_fits_99 : decode cX7_fits 99 = .ok (.ireturn, 1) := by decide +kernel
theorem dX7_voice_0 : decode cX7_voice 0 = .ok (.aload_n 0, 1) := by decide +kernel
theorem dX7_voice_1 : decode cX7_voice 1 = .ok (.iload_n 1, 1) := by decide +kernel
theorem dX7_voice_2 : decode cX7_voice 2 = .ok (.invokevirtual 72, 3) := by decide +kernel
theorem dX7_voice_5 : decode cX7_voice 5 = .ok (.ifCond .eq 12, 3) := by decide +kernel
theorem dX7_voice_8 : decode cX7_voice 8 = .ok (.iload_n 2, 1) := by decide +kernel
theorem dX7_voice_9 : decode cX7_voice 9 = .ok (.ifCond .lt 8, 3) := by decide +kernel
theorem dX7_voice_12 : decode cX7_voice 12 = .ok (.iload_n 2, 1) := by decide +kernel
theorem dX7_voice_13 : decode cX7_voice 13 = .ok (.iconst 3, 1) := by decide +kernel
theorem dX7_voice_14 : decode cX7_voice 14 = .ok (.if_icmp .le 9, 3) := by decide +kernel
theorem dX7_voice_17 : decode cX7_voice 17 = .ok (.aload_n 0, 1) := by decide +kernel
theorem dX7_voice_18 : decode cX7_voice 18 = .ok (.iconst 1, 1) := by decide +kernel
theorem dX7_voice_19 : decode cX7_voice 19 = .ok (.invokevirtual 54, 3) := by decide +kernel
theorem dX7_voice_22 : decode cX7_voice 22 = .ok (.ireturn, 1) := by decide +kernel
theorem dX7_voice_23 : decode cX7_voice 23 = .ok (.aload_n 0, 1) := by decide +kernel
theorem dX7_voice_24 : decode cX7_voice 24 = .ok (.getfield 10, 3) := by decide +kernel
theorem dX7_voice_27 : decode cX7_voice 27 = .ok (.getfield 62, 3) := by decide +kernel
theorem dX7_voice_30 : decode cX7_voice 30 = .ok (.iload_n 1, 1) := by decide +kernel
theorem dX7_voice_31 : decode cX7_voice 31 = .ok (.aaload, 1) := by decide +kernel
theorem dX7_voice_32 : decode cX7_voice 32 = .ok (.astore 4, 2) := by decide +kernel
theorem dX7_voice_34 : decode cX7_voice 34 = .ok (.aload_n 0, 1) := by decide +kernel
theorem dX7_voice_35 : decode cX7_voice 35 = .ok (.getfield 32, 3) := by decide +kernel
theorem dX7_voice_38 : decode cX7_voice 38 = .ok (.iload_n 2, 1) := by decide +kernel
theorem dX7_voice_39 : decode cX7_voice 39 = .ok (.aload 4, 2) := by decide +kernel
theorem dX7_voice_41 : decode cX7_voice 41 = .ok (.getfield 86, 3) := by decide +kernel
theorem dX7_voice_44 : decode cX7_voice 44 = .ok (.aload 4, 2) := by decide +kernel
theorem dX7_voice_46 : decode cX7_voice 46 = .ok (.getfield 89, 3) := by decide +kernel
theorem dX7_voice_49 : decode cX7_voice 49 = .ok (.iload_n 1, 1) := by decide +kernel
theorem dX7_voice_50 : decode cX7_voice 50 = .ok (.iload_n 3, 1) := by decide +kernel
theorem dX7_voice_51 : decode cX7_voice 51 = .ok (.invokevirtual 245, 3) := by decide +kernel
theorem dX7_voice_54 : decode cX7_voice 54 = .ok (.istore 5, 2) := by decide +kernel
theorem dX7_voice_56 : decode cX7_voice 56 = .ok (.aload_n 0, 1) := by decide +kernel
theorem dX7_voice_57 : decode cX7_voice 57 = .ok (.getfield 32, 3) := by decide +kernel
theorem dX7_voice_60 : decode cX7_voice 60 = .ok (.getfield 249, 3) := by decide +kernel
theorem dX7_voice_63 : decode cX7_voice 63 = .ok (.ifCond .eq 12, 3) := by decide +kernel
theorem dX7_voice_66 : decode cX7_voice 66 = .ok (.aload_n 0, 1) := by decide +kernel
theorem dX7_voice_67 : decode cX7_voice 67 = .ok (.bipush 6, 2) := by decide +kernel
theorem dX7_voice_69 : decode cX7_voice 69 = .ok (.invokevirtual 54, 3) := by decide +kernel
theorem dX7_voice_72 : decode cX7_voice 72 = .ok (.goto 5, 3) := by decide +kernel
theorem dX7_voice_75 : decode cX7_voice 75 = .ok (.iload 5, 2) := by decide +kernel
theorem dX7_voice_77 : decode cX7_voice 77 = .ok (.ireturn, 1) := by decide +kernel
theorem dX7_body_0 : decode cX7_body 0 = .ok (.iload_n 1, 1) := by decide +kernel
theorem dX7_body_1 : decode cX7_body 1 = .ok (.ifCond .lt 14, 3) := by decide +kernel
theorem dX7_body_4 : decode cX7_body 4 = .ok (.iload_n 1, 1) := by decide +kernel
theorem dX7_body_5 : decode cX7_body 5 = .ok (.aload_n 0, 1) := by decide +kernel
theorem dX7_body_6 : decode cX7_body 6 = .ok (.getfield 32, 3) := by decide +kernel
theorem dX7_body_9 : decode cX7_body 9 = .ok (.getfield 253, 3) := by decide +kernel
theorem dX7_body_12 : decode cX7_body 12 = .ok (.if_icmp .lt 9, 3) := by decide +kernel
theorem dX7_body_15 : decode cX7_body 15 = .ok (.aload_n 0, 1) := by decide +kernel
theorem dX7_body_16 : decode cX7_body 16 = .ok (.iconst 2, 1) := by decide +kernel
theorem dX7_body_17 : decode cX7_body 17 = .ok (.invokevirtual 54, 3) := by decide +kernel
theorem dX7_body_20 : decode cX7_body 20 = .ok (.ireturn, 1) := by decide +kernel
theorem dX7_body_21 : decode cX7_body 21 = .ok (.aload_n 0, 1) := by decide +kernel
theorem dX7_body_22 : decode cX7_body 22 = .ok (.getfield 32, 3) := by decide +kernel
theorem dX7_body_25 : decode cX7_body 25 = .ok (.getfield 256, 3) := by decide +kernel
theorem dX7_body_28 : decode cX7_body 28 = .ok (.iload_n 1, 1) := by decide +kernel
theorem dX7_body_29 : decode cX7_body 29 = .ok (.iaload, 1) := by decide +kernel
theorem dX7_body_30 : decode cX7_body 30 = .ok (.ireturn, 1) := by decide +kernel
theorem dX7_sheet_0 : decode cX7_sheet 0 = .ok (.iload_n 1, 1) := by decide +kernel
theorem dX7_sheet_1 : decode cX7_sheet 1 = .ok (.invokestatic 235, 3) := by decide +kernel
theorem dX7_sheet_4 : decode cX7_sheet 4 = .ok (.ifCond .eq 10, 3) := by decide +kernel
theorem dX7_sheet_7 : decode cX7_sheet 7 = .ok (.iload_n 2, 1) := by decide +kernel
theorem dX7_sheet_8 : decode cX7_sheet 8 = .ok (.invokestatic 259, 3) := by decide +kernel
theorem dX7_sheet_11 : decode cX7_sheet 11 = .ok (.ifCond .ne 9, 3) := by decide +kernel
theorem dX7_sheet_14 : decode cX7_sheet 14 = .ok (.aload_n 0, 1) := by decide +kernel
theorem dX7_sheet_15 : decode cX7_sheet 15 = .ok (.iconst 1, 1) := by decide +kernel
theorem dX7_sheet_16 : decode cX7_sheet 16 = .ok (.invokevirtual 54, 3) := by decide +kernel
theorem dX7_sheet_19 : decode cX7_sheet 19 = .ok (.ireturn, 1) := by decide +kernel
theorem dX7_sheet_20 : decode cX7_sheet 20 = .ok (.iload_n 2, 1) := by decide +kernel
theorem dX7_sheet_21 : decode cX7_sheet 21 = .ok (.ifCond .eq 13, 3) := by decide +kernel
theorem dX7_sheet_24 : decode cX7_sheet 24 = .ok (.iload_n 3, 1) := by decide +kernel
theorem dX7_sheet_25 : decode cX7_sheet 25 = .ok (.ifCond .ge 9, 3) := by decide +kernel
theorem dX7_sheet_28 : decode cX7_sheet 28 = .ok (.aload_n 0, 1) := by decide +kernel
theorem dX7_sheet_29 : decode cX7_sheet 29 = .ok (.iconst 3, 1) := by decide +kernel
theorem dX7_sheet_30 : decode cX7_sheet 30 = .ok (.invokevirtual 54, 3) := by decide +kernel
theorem dX7_sheet_33 : decode cX7_sheet 33 = .ok (.ireturn, 1) := by decide +kernel
theorem dX7_sheet_34 : decode cX7_sheet 34 = .ok (.iload_n 2, 1) := by decide +kernel
theorem dX7_sheet_35 : decode cX7_sheet 35 = .ok (.ifCond .eq 15, 3) := by decide +kernel
theorem dX7_sheet_38 : decode cX7_sheet 38 = .ok (.iload_n 3, 1) := by decide +kernel
theorem dX7_sheet_39 : decode cX7_sheet 39 = .ok (.bipush 24, 2) := by decide +kernel
theorem dX7_sheet_41 : decode cX7_sheet 41 = .ok (.if_icmp .le 9, 3) := by decide +kernel
theorem dX7_sheet_44 : decode cX7_sheet 44 = .ok (.aload_n 0, 1) := by decide +kernel
theorem dX7_sheet_45 : decode cX7_sheet 45 = .ok (.iconst 1, 1) := by decide +kernel
theorem dX7_sheet_46 : decode cX7_sheet 46 = .ok (.invokevirtual 54, 3) := by decide +kernel
theorem dX7_sheet_49 : decode cX7_sheet 49 = .ok (.ireturn, 1) := by decide +kernel
theorem dX7_sheet_50 : decode cX7_sheet 50 = .ok (.aload_n 0, 1) := by decide +kernel
theorem dX7_sheet_51 : decode cX7_sheet 51 = .ok (.getfield 38, 3) := by decide +kernel
theorem dX7_sheet_54 : decode cX7_sheet 54 = .ok (.iload_n 1, 1) := by decide +kernel
theorem dX7_sheet_55 : decode cX7_sheet 55 = .ok (.aaload, 1) := by decide +kernel
theorem dX7_sheet_56 : decode cX7_sheet 56 = .ok (.iload_n 2, 1) := by decide +kernel
theorem dX7_sheet_57 : decode cX7_sheet 57 = .ok (.iload_n 2, 1) := by decide +kernel
theorem dX7_sheet_58 : decode cX7_sheet 58 = .ok (.ifCond .ne 7, 3) := by decide +kernel
theorem dX7_sheet_61 : decode cX7_sheet 61 = .ok (.iconst 0, 1) := by decide +kernel
theorem dX7_sheet_62 : decode cX7_sheet 62 = .ok (.goto 4, 3) := by decide +kernel
theorem dX7_sheet_65 : decode cX7_sheet 65 = .ok (.iload_n 3, 1) := by decide +kernel
theorem dX7_sheet_66 : decode cX7_sheet 66 = .ok (.invokevirtual 262, 3) := by decide +kernel
theorem dX7_sheet_69 : decode cX7_sheet 69 = .ok (.iconst 1, 1) := by decide +kernel
theorem dX7_sheet_70 : decode cX7_sheet 70 = .ok (.ireturn, 1) := by decide +kernel
theorem dX7_put_0 : decode cX7_put 0 = .ok (.iload_n 1, 1) := by decide +kernel
theorem dX7_put_1 : decode cX7_put 1 = .ok (.invokestatic 235, 3) := by decide +kernel
theorem dX7_put_4 : decode cX7_put 4 = .ok (.ifCond .ne 9, 3) := by decide +kernel
theorem dX7_put_7 : decode cX7_put 7 = .ok (.aload_n 0, 1) := by decide +kernel
theorem dX7_put_8 : decode cX7_put 8 = .ok (.iconst 1, 1) := by decide +kernel
theorem dX7_put_9 : decode cX7_put 9 = .ok (.invokevirtual 54, 3) := by decide +kernel
theorem dX7_put_12 : decode cX7_put 12 = .ok (.ireturn, 1) := by decide +kernel
theorem dX7_put_13 : decode cX7_put 13 = .ok (.aload_n 0, 1) := by decide +kernel
theorem dX7_put_14 : decode cX7_put 14 = .ok (.getfield 38, 3) := by decide +kernel
theorem dX7_put_17 : decode cX7_put 17 = .ok (.iload_n 1, 1) := by decide +kernel
theorem dX7_put_18 : decode cX7_put 18 = .ok (.aaload, 1) := by decide +kernel
theorem dX7_put_19 : decode cX7_put 19 = .ok (.astore 4, 2) := by decide +kernel
theorem dX7_put_21 : decode cX7_put 21 = .ok (.aload 4, 2) := by decide +kernel
theorem dX7_put_23 : decode cX7_put 23 = .ok (.getfield 238, 3) := by decide +kernel
theorem dX7_put_26 : decode cX7_put 26 = .ok (.ifCond .ne 9, 3) := by decide +kernel
theorem dX7_put_29 : decode cX7_put 29 = .ok (.aload_n 0, 1) := by decide +kernel
theorem dX7_put_30 : decode cX7_put 30 = .ok (.iconst 2, 1) := by decide +kernel
theorem dX7_put_31 : decode cX7_put 31 = .ok (.invokevirtual 54, 3) := by decide +kernel
theorem dX7_put_34 : decode cX7_put 34 = .ok (.ireturn, 1) := by decide +kernel
theorem dX7_put_35 : decode cX7_put 35 = .ok (.iload_n 2, 1) := by decide +kernel
theorem dX7_put_36 : decode cX7_put 36 = .ok (.ifCond .lt 12, 3) := by decide +kernel
theorem dX7_put_39 : decode cX7_put 39 = .ok (.iload_n 2, 1) := by decide +kernel
theorem dX7_put_40 : decode cX7_put 40 = .ok (.aload 4, 2) := by decide +kernel
theorem dX7_put_42 : decode cX7_put 42 = .ok (.getfield 263, 3) := by decide +kernel
theorem dX7_put_45 : decode cX7_put 45 = .ok (.if_icmp .lt 9, 3) := by decide +kernel
theorem dX7_put_48 : decode cX7_put 48 = .ok (.aload_n 0, 1) := by decide +kernel
theorem dX7_put_49 : decode cX7_put 49 = .ok (.iconst 1, 1) := by decide +kernel
theorem dX7_put_50 : decode cX7_put 50 = .ok (.invokevirtual 54, 3) := by decide +kernel
theorem dX7_put_53 : decode cX7_put 53 = .ok (.ireturn, 1) := by decide +kernel
theorem dX7_put_54 : decode cX7_put 54 = .ok (.aload 4, 2) := by decide +kernel
theorem dX7_put_56 : decode cX7_put 56 = .ok (.getfield 266, 3) := by decide +kernel
theorem dX7_put_59 : decode cX7_put 59 = .ok (.iload_n 2, 1) := by decide +kernel
theorem dX7_put_60 : decode cX7_put 60 = .ok (.aload 4, 2) := by decide +kernel
theorem dX7_put_62 : decode cX7_put 62 = .ok (.iload_n 3, 1) := by decide +kernel
theorem dX7_put_63 : decode cX7_put 63 = .ok (.invokevirtual 269, 3) := by decide +kernel
theorem dX7_put_66 : decode cX7_put 66 = .ok (.iastore, 1) := by decide +kernel
theorem dX7_put_67 : decode cX7_put 67 = .ok (.iconst 1, 1) := by decide +kernel
theorem dX7_put_68 : decode cX7_put 68 = .ok (.ireturn, 1) := by decide +kernel
theorem dX7_move_0 : decode cX7_move 0 = .ok (.iload_n 1, 1) := by decide +kernel
theorem dX7_move_1 : decode cX7_move 1 = .ok (.invokestatic 235, 3) := by decide +kernel
theorem dX7_move_4 : decode cX7_move 4 = .ok (.ifCond .eq 10, 3) := by decide +kernel
theorem dX7_move_7 : decode cX7_move 7 = .ok (.iload_n 3, 1) := by decide +kernel
theorem dX7_move_8 : decode cX7_move 8 = .ok (.invokestatic 235, 3) := by decide +kernel
theorem dX7_move_11 : decode cX7_move 11 = .ok (.ifCond .ne 9, 3) := by decide +kernel
theorem dX7_move_14 : decode cX7_move 14 = .ok (.aload_n 0, 1) := by decide +kernel
theorem dX7_move_15 : decode cX7_move 15 = .ok (.iconst 1, 1) := by decide +kernel
theorem dX7_move_16 : decode cX7_move 16 = .ok (.invokevirtual 54, 3) := by decide +kernel
theorem dX7_move_19 : decode cX7_move 19 = .ok (.ireturn, 1) := by decide +kernel
theorem dX7_move_20 : decode cX7_move 20 = .ok (.aload_n 0, 1) := by decide +kernel
theorem dX7_move_21 : decode cX7_move 21 = .ok (.getfield 38, 3) := by decide +kernel
theorem dX7_move_24 : decode cX7_move 24 = .ok (.iload_n 1, 1) := by decide +kernel
theorem dX7_move_25 : decode cX7_move 25 = .ok (.aaload, 1) := by decide +kernel
theorem dX7_move_26 : decode cX7_move 26 = .ok (.astore 6, 2) := by decide +kernel
theorem dX7_move_28 : decode cX7_move 28 = .ok (.aload_n 0, 1) := by decide +kernel
theorem dX7_move_29 : decode cX7_move 29 = .ok (.getfield 38, 3) := by decide +kernel
theorem dX7_move_32 : decode cX7_move 32 = .ok (.iload_n 3, 1) := by decide +kernel
theorem dX7_move_33 : decode cX7_move 33 = .ok (.aaload, 1) := by decide +kernel
theorem dX7_move_34 : decode cX7_move 34 = .ok (.astore 7, 2) := by decide +kernel
theorem dX7_move_36 : decode cX7_move 36 = .ok (.aload 6, 2) := by decide +kernel
theorem dX7_move_38 : decode cX7_move 38 = .ok (.getfield 238, 3) := by decide +kernel
theorem dX7_move_41 : decode cX7_move 41 = .ok (.ifCond .eq 11, 3) := by decide +kernel
theorem dX7_move_44 : decode cX7_move 44 = .ok (.aload 7, 2) := by decide +kernel
theorem dX7_move_46 : decode cX7_move 46 = .ok (.getfield 238, 3) := by decide +kernel
theorem dX7_move_49 : decode cX7_move 49 = .ok (.ifCond .ne 9, 3) := by decide +kernel
theorem dX7_move_52 : decode cX7_move 52 = .ok (.aload_n 0, 1) := by decide +kernel
theorem dX7_move_53 : decode cX7_move 53 = .ok (.iconst 2, 1) := by decide +kernel
theorem dX7_move_54 : decode cX7_move 54 = .ok (.invokevirtual 54, 3) := by decide +kernel
theorem dX7_move_57 : decode cX7_move 57 = .ok (.ireturn, 1) := by decide +kernel
theorem dX7_move_58 : decode cX7_move 58 = .ok (.aload 6, 2) := by decide +kernel
theorem dX7_move_60 : decode cX7_move 60 = .ok (.getfield 238, 3) := by decide +kernel
theorem dX7_move_63 : decode cX7_move 63 = .ok (.aload 7, 2) := by decide +kernel
theorem dX7_move_65 : decode cX7_move 65 = .ok (.getfield 238, 3) := by decide +kernel
theorem dX7_move_68 : decode cX7_move 68 = .ok (.if_icmp .eq 9, 3) := by decide +kernel
theorem dX7_move_71 : decode cX7_move 71 = .ok (.aload_n 0, 1) := by decide +kernel
theorem dX7_move_72 : decode cX7_move 72 = .ok (.iconst 5, 1) := by decide +kernel
theorem dX7_move_73 : decode cX7_move 73 = .ok (.invokevirtual 54, 3) := by decide +kernel
theorem dX7_move_76 : decode cX7_move 76 = .ok (.ireturn, 1) := by decide +kernel
theorem dX7_move_77 : decode cX7_move 77 = .ok (.aload 6, 2) := by decide +kernel
theorem dX7_move_79 : decode cX7_move 79 = .ok (.iload_n 2, 1) := by decide +kernel
theorem dX7_move_80 : decode cX7_move 80 = .ok (.iload 5, 2) := by decide +kernel
theorem dX7_move_82 : decode cX7_move 82 = .ok (.invokevirtual 272, 3) := by decide +kernel
theorem dX7_move_85 : decode cX7_move 85 = .ok (.ifCond .eq 15, 3) := by decide +kernel
theorem dX7_move_88 : decode cX7_move 88 = .ok (.aload 7, 2) := by decide +kernel
theorem dX7_move_90 : decode cX7_move 90 = .ok (.iload 4, 2) := by decide +kernel
theorem dX7_move_92 : decode cX7_move 92 = .ok (.iload 5, 2) := by decide +kernel
theorem dX7_move_94 : decode cX7_move 94 = .ok (.invokevirtual 272, 3) := by decide +kernel
theorem dX7_move_97 : decode cX7_move 97 = .ok (.ifCond .ne 9, 3) := by decide +kernel
theorem dX7_move_100 : decode cX7_move 100 = .ok (.aload_n 0, 1) := by decide +kernel
theorem dX7_move_101 : decode cX7_move 101 = .ok (.iconst 1, 1) := by decide +kernel
theorem dX7_move_102 : decode cX7_move 102 = .ok (.invokevirtual 54, 3) := by decide +kernel
theorem dX7_move_105 : decode cX7_move 105 = .ok (.ireturn, 1) := by decide +kernel
theorem dX7_move_106 : decode cX7_move 106 = .ok (.aload 6, 2) := by decide +kernel
theorem dX7_move_108 : decode cX7_move 108 = .ok (.getfield 266, 3) := by decide +kernel
theorem dX7_move_111 : decode cX7_move 111 = .ok (.iload_n 2, 1) := by decide +kernel
theorem dX7_move_112 : decode cX7_move 112 = .ok (.aload 7, 2) := by decide +kernel
theorem dX7_move_114 : decode cX7_move 114 = .ok (.getfield 266, 3) := by decide +kernel
theorem dX7_move_117 : decode cX7_move 117 = .ok (.iload 4, 2) := by decide +kernel
theorem dX7_move_119 : decode cX7_move 119 = .ok (.iload 5, 2) := by decide +kernel
theorem dX7_move_121 : decode cX7_move 121 = .ok (.invokestatic 275, 3) := by decide +kernel
theorem dX7_move_124 : decode cX7_move 124 = .ok (.iload 5, 2) := by decide +kernel
theorem dX7_move_126 : decode cX7_move 126 = .ok (.ireturn, 1) := by decide +kernel
theorem dX7_sets_0 : decode cX7_sets 0 = .ok (.aload_n 0, 1) := by decide +kernel
theorem dX7_sets_1 : decode cX7_sets 1 = .ok (.iload_n 1, 1) := by decide +kernel
theorem dX7_sets_2 : decode cX7_sets 2 = .ok (.invokevirtual 72, 3) := by decide +kernel
theorem dX7_sets_5 : decode cX7_sets 5 = .ok (.ifCond .eq 10, 3) := by decide +kernel
theorem dX7_sets_8 : decode cX7_sets 8 = .ok (.iload_n 2, 1) := by decide +kernel
theorem dX7_sets_9 : decode cX7_sets 9 = .ok (.invokestatic 235, 3) := by decide +kernel
theorem dX7_sets_12 : decode cX7_sets 12 = .ok (.ifCond .ne 9, 3) := by decide +kernel
theorem dX7_sets_15 : decode cX7_sets 15 = .ok (.aload_n 0, 1) := by decide +kernel
theorem dX7_sets_16 : decode cX7_sets 16 = .ok (.iconst 1, 1) := by decide +kernel
theorem dX7_sets_17 : decode cX7_sets 17 = .ok (.invokevirtual 54, 3) := by decide +kernel
theorem dX7_sets_20 : decode cX7_sets 20 = .ok (.ireturn, 1) := by decide +kernel
theorem dX7_sets_21 : decode cX7_sets 21 = .ok (.aload_n 0, 1) := by decide +kernel
theorem dX7_sets_22 : decode cX7_sets 22 = .ok (.getfield 38, 3) := by decide +kernel
theorem dX7_sets_25 : decode cX7_sets 25 = .ok (.iload_n 2, 1) := by decide +kernel
theorem dX7_sets_26 : decode cX7_sets 26 = .ok (.aaload, 1) := by decide +kernel
theorem dX7_sets_27 : decode cX7_sets 27 = .ok (.astore_n 3, 1) := by decide +kernel
theorem dX7_sets_28 : decode cX7_sets 28 = .ok (.aload_n 3, 1) := by decide +kernel
theorem dX7_sets_29 : decode cX7_sets 29 = .ok (.getfield 238, 3) := by decide +kernel
theorem dX7_sets_32 : decode cX7_sets 32 = .ok (.ifCond .ne 9, 3) := by decide +kernel
theorem dX7_sets_35 : decode cX7_sets 35 = .ok (.aload_n 0, 1) := by decide +kernel
theorem dX7_sets_36 : decode cX7_sets 36 = .ok (.iconst 2, 1) := by decide +kernel
theorem dX7_sets_37 : decode cX7_sets 37 = .ok (.invokevirtual 54, 3) := by decide +kernel
theorem dX7_sets_40 : decode cX7_sets 40 = .ok (.ireturn, 1) := by decide +kernel
theorem dX7_sets_41 : decode cX7_sets 41 = .ok (.aload_n 0, 1) := by decide +kernel
theorem dX7_sets_42 : decode cX7_sets 42 = .ok (.getfield 10, 3) := by decide +kernel
theorem dX7_sets_45 : decode cX7_sets 45 = .ok (.getfield 62, 3) := by decide +kernel
theorem dX7_sets_48 : decode cX7_sets 48 = .ok (.iload_n 1, 1) := by decide +kernel
theorem dX7_sets_49 : decode cX7_sets 49 = .ok (.aaload, 1) := by decide +kernel
theorem dX7_sets_50 : decode cX7_sets 50 = .ok (.aload_n 3, 1) := by decide +kernel
theorem dX7_sets_51 : decode cX7_sets 51 = .ok (.getfield 266, 3) := by decide +kernel
theorem dX7_sets_54 : decode cX7_sets 54 = .ok (.aload_n 3, 1) := by decide +kernel
theorem dX7_sets_55 : decode cX7_sets 55 = .ok (.getfield 263, 3) := by decide +kernel
theorem dX7_sets_58 : decode cX7_sets 58 = .ok (.invokevirtual 281, 3) := by decide +kernel
theorem dX7_sets_61 : decode cX7_sets 61 = .ok (.aload_n 0, 1) := by decide +kernel
theorem dX7_sets_62 : decode cX7_sets 62 = .ok (.getfield 10, 3) := by decide +kernel
theorem dX7_sets_65 : decode cX7_sets 65 = .ok (.getfield 62, 3) := by decide +kernel
theorem dX7_sets_68 : decode cX7_sets 68 = .ok (.iload_n 1, 1) := by decide +kernel
theorem dX7_sets_69 : decode cX7_sets 69 = .ok (.aaload, 1) := by decide +kernel
theorem dX7_sets_70 : decode cX7_sets 70 = .ok (.getfield 80, 3) := by decide +kernel
theorem dX7_sets_73 : decode cX7_sets 73 = .ok (.ireturn, 1) := by decide +kernel
theorem dX7_judge_0 : decode cX7_judge 0 = .ok (.iload_n 1, 1) := by decide +kernel
theorem dX7_judge_1 : decode cX7_judge 1 = .ok (.invokestatic 235, 3) := by decide +kernel
theorem dX7_judge_4 : decode cX7_judge 4 = .ok (.ifCond .ne 9, 3) := by decide +kernel
theorem dX7_judge_7 : decode cX7_judge 7 = .ok (.aload_n 0, 1) := by decide +kernel
theorem dX7_judge_8 : decode cX7_judge 8 = .ok (.iconst 1, 1) := by decide +kernel
theorem dX7_judge_9 : decode cX7_judge 9 = .ok (.invokevirtual 54, 3) := by decide +kernel
theorem dX7_judge_12 : decode cX7_judge 12 = .ok (.ireturn, 1) := by decide +kernel
theorem dX7_judge_13 : decode cX7_judge 13 = .ok (.aload_n 0, 1) := by decide +kernel
theorem dX7_judge_14 : decode cX7_judge 14 = .ok (.getfield 38, 3) := by decide +kernel
theorem dX7_judge_17 : decode cX7_judge 17 = .ok (.iload_n 1, 1) := by decide +kernel
theorem dX7_judge_18 : decode cX7_judge 18 = .ok (.aaload, 1) := by decide +kernel
theorem dX7_judge_19 : decode cX7_judge 19 = .ok (.astore_n 2, 1) := by decide +kernel
theorem dX7_judge_20 : decode cX7_judge 20 = .ok (.aload_n 2, 1) := by decide +kernel
theorem dX7_judge_21 : decode cX7_judge 21 = .ok (.getfield 238, 3) := by decide +kernel
theorem dX7_judge_24 : decode cX7_judge 24 = .ok (.ifCond .ne 9, 3) := by decide +kernel
theorem dX7_judge_27 : decode cX7_judge 27 = .ok (.aload_n 0, 1) := by decide +kernel
theorem dX7_judge_28 : decode cX7_judge 28 = .ok (.iconst 2, 1) := by decide +kernel
theorem dX7_judge_29 : decode cX7_judge 29 = .ok (.invokevirtual 54, 3) := by decide +kernel
theorem dX7_judge_32 : decode cX7_judge 32 = .ok (.ireturn, 1) := by decide +kernel
theorem dX7_judge_33 : decode cX7_judge 33 = .ok (.aload_n 0, 1) := by decide +kernel
theorem dX7_judge_34 : decode cX7_judge 34 = .ok (.getfield 10, 3) := by decide +kernel
theorem dX7_judge_37 : decode cX7_judge 37 = .ok (.invokevirtual 155, 3) := by decide +kernel
theorem dX7_judge_40 : decode cX7_judge 40 = .ok (.iconst 0, 1) := by decide +kernel
theorem dX7_judge_41 : decode cX7_judge 41 = .ok (.istore_n 3, 1) := by decide +kernel
theorem dX7_judge_42 : decode cX7_judge 42 = .ok (.iload_n 3, 1) := by decide +kernel
theorem dX7_judge_43 : decode cX7_judge 43 = .ok (.aload_n 2, 1) := by decide +kernel
theorem dX7_judge_44 : decode cX7_judge 44 = .ok (.getfield 263, 3) := by decide +kernel
theorem dX7_judge_47 : decode cX7_judge 47 = .ok (.if_icmp .ge 45, 3) := by decide +kernel
theorem dX7_judge_50 : decode cX7_judge 50 = .ok (.iload_n 3, 1) := by decide +kernel
theorem dX7_judge_51 : decode cX7_judge 51 = .ok (.aload_n 0, 1) := by decide +kernel
theorem dX7_judge_52 : decode cX7_judge 52 = .ok (.getfield 10, 3) := by decide +kernel
theorem dX7_judge_55 : decode cX7_judge 55 = .ok (.getfield 143, 3) := by decide +kernel
theorem dX7_judge_58 : decode cX7_judge 58 = .ok (.if_icmp .ge 34, 3) := by decide +kernel
theorem dX7_judge_61 : decode cX7_judge 61 = .ok (.aload_n 2, 1) := by decide +kernel
theorem dX7_judge_62 : decode cX7_judge 62 = .ok (.getfield 266, 3) := by decide +kernel
theorem dX7_judge_65 : decode cX7_judge 65 = .ok (.iload_n 3, 1) := by decide +kernel
theorem dX7_judge_66 : decode cX7_judge 66 = .ok (.iaload, 1) := by decide +kernel
theorem dX7_judge_67 : decode cX7_judge 67 = .ok (.aload_n 0, 1) := by decide +kernel
theorem dX7_judge_68 : decode cX7_judge 68 = .ok (.getfield 10, 3) := by decide +kernel
theorem dX7_judge_71 : decode cX7_judge 71 = .ok (.aload_n 0, 1) := by decide +kernel
theorem dX7_judge_72 : decode cX7_judge 72 = .ok (.getfield 10, 3) := by decide +kernel
theorem dX7_judge_75 : decode cX7_judge 75 = .ok (.getfield 146, 3) := by decide +kernel
theorem dX7_judge_78 : decode cX7_judge 78 = .ok (.iload_n 3, 1) := by decide +kernel
theorem dX7_judge_79 : decode cX7_judge 79 = .ok (.iaload, 1) := by decide +kernel
theorem dX7_judge_80 : decode cX7_judge 80 = .ok (.invokevirtual 158, 3) := by decide +kernel
theorem dX7_judge_83 : decode cX7_judge 83 = .ok (.if_icmp .ne 9, 3) := by decide +kernel
theorem dX7_judge_86 : decode cX7_judge 86 = .ok (.iinc 3 1, 3) := by decide +kernel
theorem dX7_judge_89 : decode cX7_judge 89 = .ok (.goto (-47), 3) := by decide +kernel
theorem dX7_judge_92 : decode cX7_judge 92 = .ok (.iload_n 3, 1) := by decide +kernel
theorem dX7_judge_93 : decode cX7_judge 93 = .ok (.ireturn, 1) := by decide +kernel
theorem dX7_image_0 : decode cX7_image 0 = .ok (.aload_n 0, 1) := by decide +kernel
theorem dX7_image_1 : decode cX7_image 1 = .ok (.getfield 16, 3) := by decide +kernel
theorem dX7_image_4 : decode cX7_image 4 = .ok (.aload_n 0, 1) := by decide +kernel
theorem dX7_image_5 : decode cX7_image 5 = .ok (.getfield 10, 3) := by decide +kernel
theorem dX7_image_8 : decode cX7_image 8 = .ok (.invokevirtual 213, 3) := by decide +kernel
theorem dX7_image_11 : decode cX7_image 11 = .ok (.aload_n 0, 1) := by decide +kernel
theorem dX7_image_12 : decode cX7_image 12 = .ok (.dup, 1) := by decide +kernel
theorem dX7_image_13 : decode cX7_image 13 = .ok (.getfield 284, 3) := by decide +kernel
theorem dX7_image_16 : decode cX7_image 16 = .ok (.iconst 1, 1) := by decide +kernel
theorem dX7_image_17 : decode cX7_image 17 = .ok (.iadd, 1) := by decide +kernel
theorem dX7_image_18 : decode cX7_image 18 = .ok (.putfield 284, 3) := by decide +kernel
theorem dX7_image_21 : decode cX7_image 21 = .ok (.aload_n 0, 1) := by decide +kernel
theorem dX7_image_22 : decode cX7_image 22 = .ok (.getfield 284, 3) := by decide +kernel
theorem dX7_image_25 : decode cX7_image 25 = .ok (.ireturn, 1) := by decide +kernel
theorem dX7_restore_0 : decode cX7_restore 0 = .ok (.aload_n 0, 1) := by decide +kernel
theorem dX7_restore_1 : decode cX7_restore 1 = .ok (.getfield 284, 3) := by decide +kernel
theorem dX7_restore_4 : decode cX7_restore 4 = .ok (.ifCond .ne 9, 3) := by decide +kernel
theorem dX7_restore_7 : decode cX7_restore 7 = .ok (.aload_n 0, 1) := by decide +kernel
theorem dX7_restore_8 : decode cX7_restore 8 = .ok (.iconst 2, 1) := by decide +kernel
theorem dX7_restore_9 : decode cX7_restore 9 = .ok (.invokevirtual 54, 3) := by decide +kernel
theorem dX7_restore_12 : decode cX7_restore 12 = .ok (.ireturn, 1) := by decide +kernel
theorem dX7_restore_13 : decode cX7_restore 13 = .ok (.aload_n 0, 1) := by decide +kernel
theorem dX7_restore_14 : decode cX7_restore 14 = .ok (.getfield 10, 3) := by decide +kernel
theorem dX7_restore_17 : decode cX7_restore 17 = .ok (.aload_n 0, 1) := by decide +kernel
theorem dX7_restore_18 : decode cX7_restore 18 = .ok (.getfield 16, 3) := by decide +kernel
theorem dX7_restore_21 : decode cX7_restore 21 = .ok (.invokevirtual 213, 3) := by decide +kernel
theorem dX7_restore_24 : decode cX7_restore 24 = .ok (.aload_n 0, 1) := by decide +kernel
theorem dX7_restore_25 : decode cX7_restore 25 = .ok (.getfield 10, 3) := by decide +kernel
theorem dX7_restore_28 : decode cX7_restore 28 = .ok (.getfield 116, 3) := by decide +kernel
theorem dX7_restore_31 : decode cX7_restore 31 = .ok (.ireturn, 1) := by decide +kernel
theorem dX7_tell_0 : decode cX7_tell 0 = .ok (.aload_n 0, 1) := by decide +kernel
theorem dX7_tell_1 : decode cX7_tell 1 = .ok (.getfield 10, 3) := by decide +kernel
theorem dX7_tell_4 : decode cX7_tell 4 = .ok (.getfield 287, 3) := by decide +kernel
theorem dX7_tell_7 : decode cX7_tell 7 = .ok (.bipush 24, 2) := by decide +kernel
theorem dX7_tell_9 : decode cX7_tell 9 = .ok (.if_icmp .lt 9, 3) := by decide +kernel
theorem dX7_tell_12 : decode cX7_tell 12 = .ok (.aload_n 0, 1) := by decide +kernel
theorem dX7_tell_13 : decode cX7_tell 13 = .ok (.iconst 4, 1) := by decide +kernel
theorem dX7_tell_14 : decode cX7_tell 14 = .ok (.invokevirtual 54, 3) := by decide +kernel
theorem dX7_tell_17 : decode cX7_tell 17 = .ok (.ireturn, 1) := by decide +kernel
theorem dX7_tell_18 : decode cX7_tell 18 = .ok (.aload_n 0, 1) := by decide +kernel
theorem dX7_tell_19 : decode cX7_tell 19 = .ok (.getfield 10, 3) := by decide +kernel
theorem dX7_tell_22 : decode cX7_tell 22 = .ok (.getfield 290, 3) := by decide +kernel
theorem dX7_tell_25 : decode cX7_tell 25 = .ok (.aload_n 0, 1) := by decide +kernel
theorem dX7_tell_26 : decode cX7_tell 26 = .ok (.getfield 10, 3) := by decide +kernel
theorem dX7_tell_29 : decode cX7_tell 29 = .ok (.getfield 287, 3) := by decide +kernel
theorem dX7_tell_32 : decode cX7_tell 32 = .ok (.iload_n 1, 1) := by decide +kernel
theorem dX7_tell_33 : decode cX7_tell 33 = .ok (.iastore, 1) := by decide +kernel
theorem dX7_tell_34 : decode cX7_tell 34 = .ok (.aload_n 0, 1) := by decide +kernel
theorem dX7_tell_35 : decode cX7_tell 35 = .ok (.getfield 10, 3) := by decide +kernel
theorem dX7_tell_38 : decode cX7_tell 38 = .ok (.dup, 1) := by decide +kernel
theorem dX7_tell_39 : decode cX7_tell 39 = .ok (.getfield 287, 3) := by decide +kernel
theorem dX7_tell_42 : decode cX7_tell 42 = .ok (.iconst 1, 1) := by decide +kernel
theorem dX7_tell_43 : decode cX7_tell 43 = .ok (.iadd, 1) := by decide +kernel
theorem dX7_tell_44 : decode cX7_tell 44 = .ok (.putfield 287, 3) := by decide +kernel
theorem dX7_tell_47 : decode cX7_tell 47 = .ok (.aload_n 0, 1) := by decide +kernel
theorem dX7_tell_48 : decode cX7_tell 48 = .ok (.getfield 10, 3) := by decide +kernel
theorem dX7_tell_51 : decode cX7_tell 51 = .ok (.getfield 287, 3) := by decide +kernel
theorem dX7_tell_54 : decode cX7_tell 54 = .ok (.ireturn, 1) := by decide +kernel
theorem dX7_check_0 : decode cX7_check 0 = .ok (.iconst 0, 1) := by decide +kernel
theorem dX7_check_1 : decode cX7_check 1 = .ok (.istore_n 1, 1) := by decide +kernel
theorem dX7_check_2 : decode cX7_check 2 = .ok (.iload_n 1, 1) := by decide +kernel
theorem dX7_check_3 : decode cX7_check 3 = .ok (.aload_n 0, 1) := by decide +kernel
theorem dX7_check_4 : decode cX7_check 4 = .ok (.getfield 10, 3) := by decide +kernel
theorem dX7_check_7 : decode cX7_check 7 = .ok (.getfield 287, 3) := by decide +kernel
theorem dX7_check_10 : decode cX7_check 10 = .ok (.if_icmp .ge 44, 3) := by decide +kernel
theorem dX7_check_13 : decode cX7_check 13 = .ok (.iload_n 1, 1) := by decide +kernel
theorem dX7_check_14 : decode cX7_check 14 = .ok (.aload_n 0, 1) := by decide +kernel
theorem dX7_check_15 : decode cX7_check 15 = .ok (.getfield 10, 3) := by decide +kernel
theorem dX7_check_18 : decode cX7_check 18 = .ok (.getfield 58, 3) := by decide +kernel
theorem dX7_check_21 : decode cX7_check 21 = .ok (.if_icmp .ge 33, 3) := by decide +kernel
theorem dX7_check_24 : decode cX7_check 24 = .ok (.aload_n 0, 1) := by decide +kernel
theorem dX7_check_25 : decode cX7_check 25 = .ok (.getfield 10, 3) := by decide +kernel
theorem dX7_check_28 : decode cX7_check 28 = .ok (.getfield 290, 3) := by decide +kernel
theorem dX7_check_31 : decode cX7_check 31 = .ok (.iload_n 1, 1) := by decide +kernel
theorem dX7_check_32 : decode cX7_check 32 = .ok (.iaload, 1) := by decide +kernel
theorem dX7_check_33 : decode cX7_check 33 = .ok (.aload_n 0, 1) := by decide +kernel
theorem dX7_check_34 : decode cX7_check 34 = .ok (.getfield 10, 3) := by decide +kernel
theorem dX7_check_37 : decode cX7_check 37 = .ok (.getfield 62, 3) := by decide +kernel
theorem dX7_check_40 : decode cX7_check 40 = .ok (.iload_n 1, 1) := by decide +kernel
theorem dX7_check_41 : decode cX7_check 41 = .ok (.aaload, 1) := by decide +kernel
theorem dX7_check_42 : decode cX7_check 42 = .ok (.getfield 95, 3) := by decide +kernel
theorem dX7_check_45 : decode cX7_check 45 = .ok (.if_icmp .ne 9, 3) := by decide +kernel
theorem dX7_check_48 : decode cX7_check 48 = .ok (.iinc 1 1, 3) := by decide +kernel
theorem dX7_check_51 : decode cX7_check 51 = .ok (.goto (-49), 3) := by decide +kernel
theorem dX7_check_54 : decode cX7_check 54 = .ok (.iload_n 1, 1) := by decide +kernel
theorem dX7_check_55 : decode cX7_check 55 = .ok (.aload_n 0, 1) := by decide +kernel
theorem dX7_check_56 : decode cX7_check 56 = .ok (.getfield 10, 3) := by decide +kernel
theorem dX7_check_59 : decode cX7_check 59 = .ok (.getfield 287, 3) := by decide +kernel
theorem dX7_check_62 : decode cX7_check 62 = .ok (.if_icmp .ne 7, 3) := by decide +kernel
theorem dX7_check_65 : decode cX7_check 65 = .ok (.iconst 1, 1) := by decide +kernel
theorem dX7_check_66 : decode cX7_check 66 = .ok (.goto 4, 3) := by decide +kernel
theorem dX7_check_69 : decode cX7_check 69 = .ok (.iconst 0, 1) := by decide +kernel
theorem dX7_check_70 : decode cX7_check 70 = .ok (.istore_n 2, 1) := by decide +kernel
theorem dX7_check_71 : decode cX7_check 71 = .ok (.aload_n 0, 1) := by decide +kernel
theorem dX7_check_72 : decode cX7_check 72 = .ok (.getfield 10, 3) := by decide +kernel
theorem dX7_check_75 : decode cX7_check 75 = .ok (.iconst 0, 1) := by decide +kernel
theorem dX7_check_76 : decode cX7_check 76 = .ok (.putfield 287, 3) := by decide +kernel
theorem dX7_check_79 : decode cX7_check 79 = .ok (.iload_n 2, 1) := by decide +kernel
theorem dX7_check_80 : decode cX7_check 80 = .ok (.ifCond .eq 7, 3) := by decide +kernel
theorem dX7_check_83 : decode cX7_check 83 = .ok (.iconst 0, 1) := by decide +kernel
theorem dX7_check_84 : decode cX7_check 84 = .ok (.goto 6, 3) := by decide +kernel
theorem dX7_check_87 : decode cX7_check 87 = .ok (.iload_n 1, 1) := by decide +kernel
theorem dX7_check_88 : decode cX7_check 88 = .ok (.iconst 1, 1) := by decide +kernel
theorem dX7_check_89 : decode cX7_check 89 = .ok (.iadd, 1) := by decide +kernel
theorem dX7_check_90 : decode cX7_check 90 = .ok (.ireturn, 1) := by decide +kernel
theorem dX7_count_0 : decode cX7_count 0 = .ok (.iload_n 1, 1) := by decide +kernel
theorem dX7_count_1 : decode cX7_count 1 = .ok (.tableswitch 129 0 8 #[51, 59, 67, 75, 86, 97, 105, 113, 121], 51) := by decide +kernel
theorem dX7_count_52 : decode cX7_count 52 = .ok (.aload_n 0, 1) := by decide +kernel
theorem dX7_count_53 : decode cX7_count 53 = .ok (.getfield 10, 3) := by decide +kernel
theorem dX7_count_56 : decode cX7_count 56 = .ok (.getfield 58, 3) := by decide +kernel
theorem dX7_count_59 : decode cX7_count 59 = .ok (.ireturn, 1) := by decide +kernel
theorem dX7_count_60 : decode cX7_count 60 = .ok (.aload_n 0, 1) := by decide +kernel
theorem dX7_count_61 : decode cX7_count 61 = .ok (.getfield 10, 3) := by decide +kernel
theorem dX7_count_64 : decode cX7_count 64 = .ok (.getfield 143, 3) := by decide +kernel
theorem dX7_count_67 : decode cX7_count 67 = .ok (.ireturn, 1) := by decide +kernel
theorem dX7_count_68 : decode cX7_count 68 = .ok (.aload_n 0, 1) := by decide +kernel
theorem dX7_count_69 : decode cX7_count 69 = .ok (.getfield 10, 3) := by decide +kernel
theorem dX7_count_72 : decode cX7_count 72 = .ok (.getfield 116, 3) := by decide +kernel
theorem dX7_count_75 : decode cX7_count 75 = .ok (.ireturn, 1) := by decide +kernel
theorem dX7_count_76 : decode cX7_count 76 = .ok (.aload_n 0, 1) := by decide +kernel
theorem dX7_count_77 : decode cX7_count 77 = .ok (.getfield 10, 3) := by decide +kernel
theorem dX7_count_80 : decode cX7_count 80 = .ok (.getfield 126, 3) := by decide +kernel
theorem dX7_count_83 : decode cX7_count 83 = .ok (.invokestatic 102, 3) := by decide +kernel
theorem dX7_count_86 : decode cX7_count 86 = .ok (.ireturn, 1) := by decide +kernel
theorem dX7_count_87 : decode cX7_count 87 = .ok (.aload_n 0, 1) := by decide +kernel
theorem dX7_count_88 : decode cX7_count 88 = .ok (.getfield 10, 3) := by decide +kernel
theorem dX7_count_91 : decode cX7_count 91 = .ok (.getfield 130, 3) := by decide +kernel
theorem dX7_count_94 : decode cX7_count 94 = .ok (.invokestatic 102, 3) := by decide +kernel
theorem dX7_count_97 : decode cX7_count 97 = .ok (.ireturn, 1) := by decide +kernel
theorem dX7_count_98 : decode cX7_count 98 = .ok (.aload_n 0, 1) := by decide +kernel
theorem dX7_count_99 : decode cX7_count 99 = .ok (.getfield 10, 3) := by decide +kernel
theorem dX7_count_102 : decode cX7_count 102 = .ok (.getfield 161, 3) := by decide +kernel
theorem dX7_count_105 : decode cX7_count 105 = .ok (.ireturn, 1) := by decide +kernel
theorem dX7_count_106 : decode cX7_count 106 = .ok (.aload_n 0, 1) := by decide +kernel
theorem dX7_count_107 : decode cX7_count 107 = .ok (.getfield 10, 3) := by decide +kernel
theorem dX7_count_110 : decode cX7_count 110 = .ok (.getfield 287, 3) := by decide +kernel
theorem dX7_count_113 : decode cX7_count 113 = .ok (.ireturn, 1) := by decide +kernel
theorem dX7_count_114 : decode cX7_count 114 = .ok (.aload_n 0, 1) := by decide +kernel
theorem dX7_count_115 : decode cX7_count 115 = .ok (.getfield 32, 3) := by decide +kernel
theorem dX7_count_118 : decode cX7_count 118 = .ok (.getfield 253, 3) := by decide +kernel
theorem dX7_count_121 : decode cX7_count 121 = .ok (.ireturn, 1) := by decide +kernel
theorem dX7_count_122 : decode cX7_count 122 = .ok (.aload_n 0, 1) := by decide +kernel
theorem dX7_count_123 : decode cX7_count 123 = .ok (.getfield 10, 3) := by decide +kernel
theorem dX7_count_126 : decode cX7_count 126 = .ok (.getfield 207, 3) := by decide +kernel
theorem dX7_count_129 : decode cX7_count 129 = .ok (.ireturn, 1) := by decide +kernel
theorem dX7_count_130 : decode cX7_count 130 = .ok (.aload_n 0, 1) := by decide +kernel
theorem dX7_count_131 : decode cX7_count 131 = .ok (.iconst 1, 1) := by decide +kernel
theorem dX7_count_132 : decode cX7_count 132 = .ok (.invokevirtual 54, 3) := by decide +kernel
theorem dX7_count_135 : decode cX7_count 135 = .ok (.ireturn, 1) := by decide +kernel
theorem dX7_told_0 : decode cX7_told 0 = .ok (.iload_n 1, 1) := by decide +kernel
theorem dX7_told_1 : decode cX7_told 1 = .ok (.iconst 1, 1) := by decide +kernel
theorem dX7_told_2 : decode cX7_told 2 = .ok (.if_icmp .lt 9, 3) := by decide +kernel
theorem dX7_told_5 : decode cX7_told 5 = .ok (.iload_n 1, 1) := by decide +kernel
theorem dX7_told_6 : decode cX7_told 6 = .ok (.bipush 6, 2) := by decide +kernel
theorem dX7_told_8 : decode cX7_told 8 = .ok (.if_icmp .le 9, 3) := by decide +kernel
theorem dX7_told_11 : decode cX7_told 11 = .ok (.aload_n 0, 1) := by decide +kernel
theorem dX7_told_12 : decode cX7_told 12 = .ok (.iconst 1, 1) := by decide +kernel
theorem dX7_told_13 : decode cX7_told 13 = .ok (.invokevirtual 54, 3) := by decide +kernel
theorem dX7_told_16 : decode cX7_told 16 = .ok (.ireturn, 1) := by decide +kernel
theorem dX7_told_17 : decode cX7_told 17 = .ok (.aload_n 0, 1) := by decide +kernel
theorem dX7_told_18 : decode cX7_told 18 = .ok (.getfield 42, 3) := by decide +kernel
theorem dX7_told_21 : decode cX7_told 21 = .ok (.iload_n 1, 1) := by decide +kernel
theorem dX7_told_22 : decode cX7_told 22 = .ok (.iaload, 1) := by decide +kernel
theorem dX7_told_23 : decode cX7_told 23 = .ok (.ireturn, 1) := by decide +kernel
theorem dX7_error_0 : decode cX7_error 0 = .ok (.iload_n 1, 1) := by decide +kernel
theorem dX7_error_1 : decode cX7_error 1 = .ok (.ifCond .lt 22, 3) := by decide +kernel
theorem dX7_error_4 : decode cX7_error 4 = .ok (.iload_n 1, 1) := by decide +kernel
theorem dX7_error_5 : decode cX7_error 5 = .ok (.aload_n 0, 1) := by decide +kernel
theorem dX7_error_6 : decode cX7_error 6 = .ok (.getfield 42, 3) := by decide +kernel
theorem dX7_error_9 : decode cX7_error 9 = .ok (.arraylength, 1) := by decide +kernel
theorem dX7_error_10 : decode cX7_error 10 = .ok (.if_icmp .ge 13, 3) := by decide +kernel
theorem dX7_error_13 : decode cX7_error 13 = .ok (.aload_n 0, 1) := by decide +kernel
theorem dX7_error_14 : decode cX7_error 14 = .ok (.getfield 42, 3) := by decide +kernel
theorem dX7_error_17 : decode cX7_error 17 = .ok (.iload_n 1, 1) := by decide +kernel
theorem dX7_error_18 : decode cX7_error 18 = .ok (.dup2, 1) := by decide +kernel
theorem dX7_error_19 : decode cX7_error 19 = .ok (.iaload, 1) := by decide +kernel
theorem dX7_error_20 : decode cX7_error 20 = .ok (.iconst 1, 1) := by decide +kernel
theorem dX7_error_21 : decode cX7_error 21 = .ok (.iadd, 1) := by decide +kernel
theorem dX7_error_22 : decode cX7_error 22 = .ok (.iastore, 1) := by decide +kernel
theorem dX7_error_23 : decode cX7_error 23 = .ok (.ldc_w 293, 3) := by decide +kernel
theorem dX7_error_26 : decode cX7_error 26 = .ok (.iload_n 1, 1) := by decide +kernel
theorem dX7_error_27 : decode cX7_error 27 = .ok (.isub, 1) := by decide +kernel
theorem dX7_error_28 : decode cX7_error 28 = .ok (.ireturn, 1) := by decide +kernel
theorem dX7_isFence_0 : decode cX7_isFence 0 = .ok (.iload_n 1, 1) := by decide +kernel
theorem dX7_isFence_1 : decode cX7_isFence 1 = .ok (.ifCond .lt 18, 3) := by decide +kernel
theorem dX7_isFence_4 : decode cX7_isFence 4 = .ok (.iload_n 1, 1) := by decide +kernel
theorem dX7_isFence_5 : decode cX7_isFence 5 = .ok (.aload_n 0, 1) := by decide +kernel
theorem dX7_isFence_6 : decode cX7_isFence 6 = .ok (.getfield 10, 3) := by decide +kernel
theorem dX7_isFence_9 : decode cX7_isFence 9 = .ok (.getfield 58, 3) := by decide +kernel
theorem dX7_isFence_12 : decode cX7_isFence 12 = .ok (.if_icmp .ge 7, 3) := by decide +kernel
theorem dX7_isFence_15 : decode cX7_isFence 15 = .ok (.iconst 1, 1) := by decide +kernel
theorem dX7_isFence_16 : decode cX7_isFence 16 = .ok (.goto 4, 3) := by decide +kernel
theorem dX7_isFence_19 : decode cX7_isFence 19 = .ok (.iconst 0, 1) := by decide +kernel
theorem dX7_isFence_20 : decode cX7_isFence 20 = .ok (.ireturn, 1) := by decide +kernel
theorem dX7_isPost_0 : decode cX7_isPost 0 = .ok (.aload_n 0, 1) := by decide +kernel
theorem dX7_isPost_1 : decode cX7_isPost 1 = .ok (.iload_n 1, 1) := by decide +kernel
theorem dX7_isPost_2 : decode cX7_isPost 2 = .ok (.invokevirtual 72, 3) := by decide +kernel
theorem dX7_isPost_5 : decode cX7_isPost 5 = .ok (.ifCond .eq 27, 3) := by decide +kernel
theorem dX7_isPost_8 : decode cX7_isPost 8 = .ok (.iload_n 2, 1) := by decide +kernel
theorem dX7_isPost_9 : decode cX7_isPost 9 = .ok (.ifCond .lt 23, 3) := by decide +kernel
theorem dX7_isPost_12 : decode cX7_isPost 12 = .ok (.iload_n 2, 1) := by decide +kernel
theorem dX7_isPost_13 : decode cX7_isPost 13 = .ok (.aload_n 0, 1) := by decide +kernel
theorem dX7_isPost_14 : decode cX7_isPost 14 = .ok (.getfield 10, 3) := by decide +kernel
theorem dX7_isPost_17 : decode cX7_isPost 17 = .ok (.getfield 62, 3) := by decide +kernel
theorem dX7_isPost_20 : decode cX7_isPost 20 = .ok (.iload_n 1, 1) := by decide +kernel
theorem dX7_isPost_21 : decode cX7_isPost 21 = .ok (.aaload, 1) := by decide +kernel
theorem dX7_isPost_22 : decode cX7_isPost 22 = .ok (.getfield 80, 3) := by decide +kernel
theorem dX7_isPost_25 : decode cX7_isPost 25 = .ok (.if_icmp .ge 7, 3) := by decide +kernel
theorem dX7_isPost_28 : decode cX7_isPost 28 = .ok (.iconst 1, 1) := by decide +kernel
theorem dX7_isPost_29 : decode cX7_isPost 29 = .ok (.goto 4, 3) := by decide +kernel
theorem dX7_isPost_32 : decode cX7_isPost 32 = .ok (.iconst 0, 1) := by decide +kernel
theorem dX7_isPost_33 : decode cX7_isPost 33 = .ok (.ireturn, 1) := by decide +kernel
theorem dX7_isCow_0 : decode cX7_isCow 0 = .ok (.iload_n 1, 1) := by decide +kernel
theorem dX7_isCow_1 : decode cX7_isCow 1 = .ok (.ifCond .lt 18, 3) := by decide +kernel
theorem dX7_isCow_4 : decode cX7_isCow 4 = .ok (.iload_n 1, 1) := by decide +kernel
theorem dX7_isCow_5 : decode cX7_isCow 5 = .ok (.aload_n 0, 1) := by decide +kernel
theorem dX7_isCow_6 : decode cX7_isCow 6 = .ok (.getfield 10, 3) := by decide +kernel
theorem dX7_isCow_9 : decode cX7_isCow 9 = .ok (.getfield 143, 3) := by decide +kernel
theorem dX7_isCow_12 : decode cX7_isCow 12 = .ok (.if_icmp .ge 7, 3) := by decide +kernel
theorem dX7_isCow_15 : decode cX7_isCow 15 = .ok (.iconst 1, 1) := by decide +kernel
theorem dX7_isCow_16 : decode cX7_isCow 16 = .ok (.goto 4, 3) := by decide +kernel
theorem dX7_isCow_19 : decode cX7_isCow 19 = .ok (.iconst 0, 1) := by decide +kernel
theorem dX7_isCow_20 : decode cX7_isCow 20 = .ok (.ireturn, 1) := by decide +kernel
theorem dX7_isKm_0 : decode cX7_isKm 0 = .ok (.iload_n 0, 1) := by decide +kernel
theorem dX7_isKm_1 : decode cX7_isKm 1 = .ok (.ifCond .lt 13, 3) := by decide +kernel
theorem dX7_isKm_4 : decode cX7_isKm 4 = .ok (.iload_n 0, 1) := by decide +kernel
theorem dX7_isKm_5 : decode cX7_isKm 5 = .ok (.bipush 69, 2) := by decide +kernel
theorem dX7_isKm_7 : decode cX7_isKm 7 = .ok (.if_icmp .gt 7, 3) := by decide +kernel
theorem dX7_isKm_10 : decode cX7_isKm 10 = .ok (.iconst 1, 1) := by decide +kernel
theorem dX7_isKm_11 : decode cX7_isKm 11 = .ok (.goto 4, 3) := by decide +kernel
theorem dX7_isKm_14 : decode cX7_isKm 14 = .ok (.iconst 0, 1) := by decide +kernel
theorem dX7_isKm_15 : decode cX7_isKm 15 = .ok (.ireturn, 1) := by decide +kernel
theorem dX7_isWay_0 : decode cX7_isWay 0 = .ok (.iload_n 0, 1) := by decide +kernel
theorem dX7_isWay_1 : decode cX7_isWay 1 = .ok (.ifCond .lt 12, 3) := by decide +kernel
theorem dX7_isWay_4 : decode cX7_isWay 4 = .ok (.iload_n 0, 1) := by decide +kernel
theorem dX7_isWay_5 : decode cX7_isWay 5 = .ok (.iconst 4, 1) := by decide +kernel
theorem dX7_isWay_6 : decode cX7_isWay 6 = .ok (.if_icmp .ge 7, 3) := by decide +kernel
theorem dX7_isWay_9 : decode cX7_isWay 9 = .ok (.iconst 1, 1) := by decide +kernel
theorem dX7_isWay_10 : decode cX7_isWay 10 = .ok (.goto 4, 3) := by decide +kernel
theorem dX7_isWay_13 : decode cX7_isWay 13 = .ok (.iconst 0, 1) := by decide +kernel
theorem dX7_isWay_14 : decode cX7_isWay 14 = .ok (.ireturn, 1) := by decide +kernel
theorem dX7_isUse_0 : decode cX7_isUse 0 = .ok (.iload_n 0, 1) := by decide +kernel
theorem dX7_isUse_1 : decode cX7_isUse 1 = .ok (.ifCond .eq 8, 3) := by decide +kernel
theorem dX7_isUse_4 : decode cX7_isUse 4 = .ok (.iload_n 0, 1) := by decide +kernel
theorem dX7_isUse_5 : decode cX7_isUse 5 = .ok (.iconst 1, 1) := by decide +kernel
theorem dX7_isUse_6 : decode cX7_isUse 6 = .ok (.if_icmp .ne 7, 3) := by decide +kernel
theorem dX7_isUse_9 : decode cX7_isUse 9 = .ok (.iconst 1, 1) := by decide +kernel
theorem dX7_isUse_10 : decode cX7_isUse 10 = .ok (.goto 4, 3) := by decide +kernel
theorem dX7_isUse_13 : decode cX7_isUse 13 = .ok (.iconst 0, 1) := by decide +kernel
theorem dX7_isUse_14 : decode cX7_isUse 14 = .ok (.ireturn, 1) := by decide +kernel
theorem dX7_isSheet_0 : decode cX7_isSheet 0 = .ok (.iload_n 0, 1) := by decide +kernel
theorem dX7_isSheet_1 : decode cX7_isSheet 1 = .ok (.ifCond .lt 12, 3) := by decide +kernel
theorem dX7_isSheet_4 : decode cX7_isSheet 4 = .ok (.iload_n 0, 1) := by decide +kernel
theorem dX7_isSheet_5 : decode cX7_isSheet 5 = .ok (.iconst 4, 1) := by decide +kernel
theorem dX7_isSheet_6 : decode cX7_isSheet 6 = .ok (.if_icmp .ge 7, 3) := by decide +kernel
theorem dX7_isSheet_9 : decode cX7_isSheet 9 = .ok (.iconst 1, 1) := by decide +kernel
theorem dX7_isSheet_10 : decode cX7_isSheet 10 = .ok (.goto 4, 3) := by decide +kernel
theorem dX7_isSheet_13 : decode cX7_isSheet 13 = .ok (.iconst 0, 1) := by decide +kernel
theorem dX7_isSheet_14 : decode cX7_isSheet 14 = .ok (.ireturn, 1) := by decide +kernel
theorem dX7_isOfKind_0 : decode cX7_isOfKind 0 = .ok (.iload_n 0, 1) := by decide +kernel
theorem dX7_isOfKind_1 : decode cX7_isOfKind 1 = .ok (.istore_n 2, 1) := by decide +kernel
theorem dX7_isOfKind_2 : decode cX7_isOfKind 2 = .ok (.iconst 0, 1) := by decide +kernel
theorem dX7_isOfKind_3 : decode cX7_isOfKind 3 = .ok (.istore_n 3, 1) := by decide +kernel
theorem dX7_isOfKind_4 : decode cX7_isOfKind 4 = .ok (.iload_n 3, 1) := by decide +kernel
theorem dX7_isOfKind_5 : decode cX7_isOfKind 5 = .ok (.getstatic 294, 3) := by decide +kernel
theorem dX7_isOfKind_8 : decode cX7_isOfKind 8 = .ok (.arraylength, 1) := by decide +kernel
theorem dX7_isOfKind_9 : decode cX7_isOfKind 9 = .ok (.if_icmp .ge 34, 3) := by decide +kernel
theorem dX7_isOfKind_12 : decode cX7_isOfKind 12 = .ok (.iload_n 2, 1) := by decide +kernel
theorem dX7_isOfKind_13 : decode cX7_isOfKind 13 = .ok (.ifCond .lt 30, 3) := by decide +kernel
theorem dX7_isOfKind_16 : decode cX7_isOfKind 16 = .ok (.iload_n 2, 1) := by decide +kernel
theorem dX7_isOfKind_17 : decode cX7_isOfKind 17 = .ok (.getstatic 294, 3) := by decide +kernel
theorem dX7_isOfKind_20 : decode cX7_isOfKind 20 = .ok (.arraylength, 1) := by decide +kernel
theorem dX7_isOfKind_21 : decode cX7_isOfKind 21 = .ok (.if_icmp .ge 22, 3) := by decide +kernel
theorem dX7_isOfKind_24 : decode cX7_isOfKind 24 = .ok (.iload_n 2, 1) := by decide +kernel
theorem dX7_isOfKind_25 : decode cX7_isOfKind 25 = .ok (.iload_n 1, 1) := by decide +kernel
theorem dX7_isOfKind_26 : decode cX7_isOfKind 26 = .ok (.if_icmp .ne 5, 3) := by decide +kernel
theorem dX7_isOfKind_29 : decode cX7_isOfKind 29 = .ok (.iconst 1, 1) := by decide +kernel
theorem dX7_isOfKind_30 : decode cX7_isOfKind 30 = .ok (.ireturn, 1) := by decide +kernel
theorem dX7_isOfKind_31 : decode cX7_isOfKind 31 = .ok (.getstatic 294, 3) := by decide +kernel
theorem dX7_isOfKind_34 : decode cX7_isOfKind 34 = .ok (.iload_n 2, 1) := by decide +kernel
theorem dX7_isOfKind_35 : decode cX7_isOfKind 35 = .ok (.iaload, 1) := by decide +kernel
theorem dX7_isOfKind_36 : decode cX7_isOfKind 36 = .ok (.istore_n 2, 1) := by decide +kernel
theorem dX7_isOfKind_37 : decode cX7_isOfKind 37 = .ok (.iinc 3 1, 3) := by decide +kernel
theorem dX7_isOfKind_40 : decode cX7_isOfKind 40 = .ok (.goto (-36), 3) := by decide +kernel
theorem dX7_isOfKind_43 : decode cX7_isOfKind 43 = .ok (.iconst 0, 1) := by decide +kernel
theorem dX7_isOfKind_44 : decode cX7_isOfKind 44 = .ok (.ireturn, 1) := by decide +kernel
theorem dX7_fewestSalts_0 : decode cX7_fewestSalts 0 = .ok (.aload_n 0, 1) := by decide +kernel
theorem dX7_fewestSalts_1 : decode cX7_fewestSalts 1 = .ok (.iload_n 1, 1) := by decide +kernel
theorem dX7_fewestSalts_2 : decode cX7_fewestSalts 2 = .ok (.iload_n 2, 1) := by decide +kernel
theorem dX7_fewestSalts_3 : decode cX7_fewestSalts 3 = .ok (.iload_n 3, 1) := by decide +kernel
theorem dX7_fewestSalts_4 : decode cX7_fewestSalts 4 = .ok (.lconst 0, 1) := by decide +kernel
theorem dX7_fewestSalts_5 : decode cX7_fewestSalts 5 = .ok (.invokevirtual 297, 3) := by decide +kernel
theorem dX7_fewestSalts_8 : decode cX7_fewestSalts 8 = .ok (.ifCond .eq 5, 3) := by decide +kernel
theorem dX7_fewestSalts_11 : decode cX7_fewestSalts 11 = .ok (.lconst 0, 1) := by decide +kernel
theorem dX7_fewestSalts_12 : decode cX7_fewestSalts 12 = .ok (.lreturn, 1) := by decide +kernel
theorem dX7_fewestSalts_13 : decode cX7_fewestSalts 13 = .ok (.aload_n 0, 1) := by decide +kernel
theorem dX7_fewestSalts_14 : decode cX7_fewestSalts 14 = .ok (.getfield 10, 3) := by decide +kernel
theorem dX7_fewestSalts_17 : decode cX7_fewestSalts 17 = .ok (.getfield 62, 3) := by decide +kernel
theorem dX7_fewestSalts_20 : decode cX7_fewestSalts 20 = .ok (.iload_n 1, 1) := by decide +kernel
theorem dX7_fewestSalts_21 : decode cX7_fewestSalts 21 = .ok (.aaload, 1) := by decide +kernel
theorem dX7_fewestSalts_22 : decode cX7_fewestSalts 22 = .ok (.aload_n 0, 1) := by decide +kernel
theorem dX7_fewestSalts_23 : decode cX7_fewestSalts 23 = .ok (.getfield 10, 3) := by decide +kernel
theorem dX7_fewestSalts_26 : decode cX7_fewestSalts 26 = .ok (.getfield 116, 3) := by decide +kernel
theorem dX7_fewestSalts_29 : decode cX7_fewestSalts 29 = .ok (.iload_n 3, 1) := by decide +kernel
theorem dX7_fewestSalts_30 : decode cX7_fewestSalts 30 = .ok (.invokevirtual 301, 3) := by decide +kernel
theorem dX7_fewestSalts_33 : decode cX7_fewestSalts 33 = .ok (.aload_n 0, 1) := by decide +kernel
theorem dX7_fewestSalts_34 : decode cX7_fewestSalts 34 = .ok (.getfield 10, 3) := by decide +kernel
theorem dX7_fewestSalts_37 : decode cX7_fewestSalts 37 = .ok (.getfield 126, 3) := by decide +kernel
theorem dX7_fewestSalts_40 : decode cX7_fewestSalts 40 = .ok (.ldc2_w 137, 3) := by decide +kernel
theorem dX7_fewestSalts_43 : decode cX7_fewestSalts 43 = .ok (.lxor, 1) := by decide +kernel
theorem dX7_fewestSalts_44 : decode cX7_fewestSalts 44 = .ok (.land, 1) := by decide +kernel
theorem dX7_fewestSalts_45 : decode cX7_fewestSalts 45 = .ok (.lstore 4, 2) := by decide +kernel
theorem dX7_fewestSalts_47 : decode cX7_fewestSalts 47 = .ok (.iconst 0, 1) := by decide +kernel
theorem dX7_fewestSalts_48 : decode cX7_fewestSalts 48 = .ok (.istore 6, 2) := by decide +kernel
theorem dX7_fewestSalts_50 : decode cX7_fewestSalts 50 = .ok (.iload 6, 2) := by decide +kernel
theorem dX7_fewestSalts_52 : decode cX7_fewestSalts 52 = .ok (.bipush 64, 2) := by decide +kernel
theorem dX7_fewestSalts_54 : decode cX7_fewestSalts 54 = .ok (.if_icmp .ge 40, 3) := by decide +kernel
theorem dX7_fewestSalts_57 : decode cX7_fewestSalts 57 = .ok (.lload 4, 2) := by decide +kernel
theorem dX7_fewestSalts_59 : decode cX7_fewestSalts 59 = .ok (.iload 6, 2) := by decide +kernel
theorem dX7_fewestSalts_61 : decode cX7_fewestSalts 61 = .ok (.invokestatic 139, 3) := by decide +kernel
theorem dX7_fewestSalts_64 : decode cX7_fewestSalts 64 = .ok (.ifCond .eq 24, 3) := by decide +kernel
theorem dX7_fewestSalts_67 : decode cX7_fewestSalts 67 = .ok (.aload_n 0, 1) := by decide +kernel
theorem dX7_fewestSalts_68 : decode cX7_fewestSalts 68 = .ok (.iload_n 1, 1) := by decide +kernel
theorem dX7_fewestSalts_69 : decode cX7_fewestSalts 69 = .ok (.iload_n 2, 1) := by decide +kernel
theorem dX7_fewestSalts_70 : decode cX7_fewestSalts 70 = .ok (.iload_n 3, 1) := by decide +kernel
theorem dX7_fewestSalts_71 : decode cX7_fewestSalts 71 = .ok (.iload 6, 2) := by decide +kernel
theorem dX7_fewestSalts_73 : decode cX7_fewestSalts 73 = .ok (.invokestatic 133, 3) := by decide +kernel
theorem dX7_fewestSalts_76 : decode cX7_fewestSalts 76 = .ok (.invokevirtual 297, 3) := by decide +kernel
theorem dX7_fewestSalts_79 : decode cX7_fewestSalts 79 = .ok (.ifCond .eq 9, 3) := by decide +kernel
theorem dX7_fewestSalts_82 : decode cX7_fewestSalts 82 = .ok (.iload 6, 2) := by decide +kernel
theorem dX7_fewestSalts_84 : decode cX7_fewestSalts 84 = .ok (.invokestatic 133, 3) := by decide +kernel
theorem dX7_fewestSalts_87 : decode cX7_fewestSalts 87 = .ok (.lreturn, 1) := by decide +kernel
theorem dX7_fewestSalts_88 : decode cX7_fewestSalts 88 = .ok (.iinc 6 1, 3) := by decide +kernel
theorem dX7_fewestSalts_91 : decode cX7_fewestSalts 91 = .ok (.goto (-41), 3) := by decide +kernel
theorem dX7_fewestSalts_94 : decode cX7_fewestSalts 94 = .ok (.iconst 0, 1) := by decide +kernel
theorem dX7_fewestSalts_95 : decode cX7_fewestSalts 95 = .ok (.istore 6, 2) := by decide +kernel
theorem dX7_fewestSalts_97 : decode cX7_fewestSalts 97 = .ok (.iload 6, 2) := by decide +kernel
theorem dX7_fewestSalts_99 : decode cX7_fewestSalts 99 = .ok (.bipush 64, 2) := by decide +kernel
theorem dX7_fewestSalts_101 : decode cX7_fewestSalts 101 = .ok (.if_icmp .ge 76, 3) := by decide +kernel
theorem dX7_fewestSalts_104 : decode cX7_fewestSalts 104 = .ok (.iload 6, 2) := by decide +kernel
theorem dX7_fewestSalts_106 : decode cX7_fewestSalts 106 = .ok (.iconst 1, 1) := by decide +kernel
theorem dX7_fewestSalts_107 : decode cX7_fewestSalts 107 = .ok (.iadd, 1) := by decide +kernel
theorem dX7_fewestSalts_108 : decode cX7_fewestSalts 108 = .ok (.istore 7, 2) := by decide +kernel
theorem dX7_fewestSalts_110 : decode cX7_fewestSalts 110 = .ok (.iload 7, 2) := by decide +kernel
theorem dX7_fewestSalts_112 : decode cX7_fewestSalts 112 = .ok (.bipush 64, 2) := by decide +kernel
theorem dX7_fewestSalts_114 : decode cX7_fewestSalts 114 = .ok (.if_icmp .ge 57, 3) := by decide +kernel
theorem dX7_fewestSalts_117 : decode cX7_fewestSalts 117 = .ok (.lload 4, 2) := by decide +kernel
theorem dX7_fewestSalts_119 : decode cX7_fewestSalts 119 = .ok (.iload 6, 2) := by decide +kernel
theorem dX7_fewestSalts_121 : decode cX7_fewestSalts 121 = .ok (.invokestatic 139, 3) := by decide +kernel
theorem dX7_fewestSalts_124 : decode cX7_fewestSalts 124 = .ok (.ifCond .eq 47, 3) := by decide +kernel
theorem dX7_fewestSalts_127 : decode cX7_fewestSalts 127 = .ok (.iload 6, 2) := by decide +kernel
theorem dX7_fewestSalts_129 : decode cX7_fewestSalts 129 = .ok (.invokestatic 133, 3) := by decide +kernel
theorem dX7_fewestSalts_132 : decode cX7_fewestSalts 132 = .ok (.iload 7, 2) := by decide +kernel
theorem dX7_fewestSalts_134 : decode cX7_fewestSalts 134 = .ok (.invokestatic 133, 3) := by decide +kernel
theorem dX7_fewestSalts_137 : decode cX7_fewestSalts 137 = .ok (.lor, 1) := by decide +kernel
theorem dX7_fewestSalts_138 : decode cX7_fewestSalts 138 = .ok (.lstore 8, 2) := by decide +kernel
theorem dX7_fewestSalts_140 : decode cX7_fewestSalts 140 = .ok (.lload 4, 2) := by decide +kernel
theorem dX7_fewestSalts_142 : decode cX7_fewestSalts 142 = .ok (.iload 7, 2) := by decide +kernel
theorem dX7_fewestSalts_144 : decode cX7_fewestSalts 144 = .ok (.invokestatic 139, 3) := by decide +kernel
theorem dX7_fewestSalts_147 : decode cX7_fewestSalts 147 = .ok (.ifCond .eq 18, 3) := by decide +kernel
theorem dX7_fewestSalts_150 : decode cX7_fewestSalts 150 = .ok (.aload_n 0, 1) := by decide +kernel
theorem dX7_fewestSalts_151 : decode cX7_fewestSalts 151 = .ok (.iload_n 1, 1) := by decide +kernel
theorem dX7_fewestSalts_152 : decode cX7_fewestSalts 152 = .ok (.iload_n 2, 1) := by decide +kernel
theorem dX7_fewestSalts_153 : decode cX7_fewestSalts 153 = .ok (.iload_n 3, 1) := by decide +kernel
theorem dX7_fewestSalts_154 : decode cX7_fewestSalts 154 = .ok (.lload 8, 2) := by decide +kernel
theorem dX7_fewestSalts_156 : decode cX7_fewestSalts 156 = .ok (.invokevirtual 297, 3) := by decide +kernel
theorem dX7_fewestSalts_159 : decode cX7_fewestSalts 159 = .ok (.ifCond .eq 6, 3) := by decide +kernel
theorem dX7_fewestSalts_162 : decode cX7_fewestSalts 162 = .ok (.lload 8, 2) := by decide +kernel
theorem dX7_fewestSalts_164 : decode cX7_fewestSalts 164 = .ok (.lreturn, 1) := by decide +kernel
theorem dX7_fewestSalts_165 : decode cX7_fewestSalts 165 = .ok (.iinc 7 1, 3) := by decide +kernel
theorem dX7_fewestSalts_168 : decode cX7_fewestSalts 168 = .ok (.goto (-58), 3) := by decide +kernel
theorem dX7_fewestSalts_171 : decode cX7_fewestSalts 171 = .ok (.iinc 6 1, 3) := by decide +kernel
theorem dX7_fewestSalts_174 : decode cX7_fewestSalts 174 = .ok (.goto (-77), 3) := by decide +kernel
theorem dX7_fewestSalts_177 : decode cX7_fewestSalts 177 = .ok (.ldc2_w 137, 3) := by decide +kernel
theorem dX7_fewestSalts_180 : decode cX7_fewestSalts 180 = .ok (.lreturn, 1) := by decide +kernel
theorem dX7_isInsideSalted_0 : decode cX7_isInsideSalted 0 = .ok (.aload_n 0, 1) := by decide +kernel
theorem dX7_isInsideSalted_1 : decode cX7_isInsideSalted 1 = .ok (.getfield 19, 3) := by decide +kernel
theorem dX7_isInsideSalted_4 : decode cX7_isInsideSalted 4 = .ok (.getfield 62, 3) := by decide +kernel
theorem dX7_isInsideSalted_7 : decode cX7_isInsideSalted 7 = .ok (.iload_n 1, 1) := by decide +kernel
theorem dX7_isInsideSalted_8 : decode cX7_isInsideSalted 8 = .ok (.aaload, 1) := by decide +kernel
theorem dX7_isInsideSalted_9 : decode cX7_isInsideSalted 9 = .ok (.astore 6, 2) := by decide +kernel
theorem dX7_isInsideSalted_11 : decode cX7_isInsideSalted 11 = .ok (.aload 6, 2) := by decide +kernel
theorem dX7_isInsideSalted_13 : decode cX7_isInsideSalted 13 = .ok (.aload_n 0, 1) := by decide +kernel
theorem dX7_isInsideSalted_14 : decode cX7_isInsideSalted 14 = .ok (.getfield 10, 3) := by decide +kernel
theorem dX7_isInsideSalted_17 : decode cX7_isInsideSalted 17 = .ok (.getfield 62, 3) := by decide +kernel
theorem dX7_isInsideSalted_20 : decode cX7_isInsideSalted 20 = .ok (.iload_n 1, 1) := by decide +kernel
theorem dX7_isInsideSalted_21 : decode cX7_isInsideSalted 21 = .ok (.aaload, 1) := by decide +kernel
theorem dX7_isInsideSalted_22 : decode cX7_isInsideSalted 22 = .ok (.invokevirtual 305, 3) := by decide +kernel
theorem dX7_isInsideSalted_25 : decode cX7_isInsideSalted 25 = .ok (.iconst 0, 1) := by decide +kernel
theorem dX7_isInsideSalted_26 : decode cX7_isInsideSalted 26 = .ok (.istore 7, 2) := by decide +kernel
theorem dX7_isInsideSalted_28 : decode cX7_isInsideSalted 28 = .ok (.iload 7, 2) := by decide +kernel
theorem dX7_isInsideSalted_30 : decode cX7_isInsideSalted 30 = .ok (.iload_n 3, 1) := by decide +kernel
theorem dX7_isInsideSalted_31 : decode cX7_isInsideSalted 31 = .ok (.if_icmp .ge 41, 3) := by decide +kernel
theorem dX7_isInsideSalted_34 : decode cX7_isInsideSalted 34 = .ok (.aload 6, 2) := by decide +kernel
theorem dX7_isInsideSalted_36 : decode cX7_isInsideSalted 36 = .ok (.aload_n 0, 1) := by decide +kernel
theorem dX7_isInsideSalted_37 : decode cX7_isInsideSalted 37 = .ok (.getfield 10, 3) := by decide +kernel
theorem dX7_isInsideSalted_40 : decode cX7_isInsideSalted 40 = .ok (.getfield 126, 3) := by decide +kernel
theorem dX7_isInsideSalted_43 : decode cX7_isInsideSalted 43 = .ok (.lload 4, 2) := by decide +kernel
theorem dX7_isInsideSalted_45 : decode cX7_isInsideSalted 45 = .ok (.lor, 1) := by decide +kernel
theorem dX7_isInsideSalted_46 : decode cX7_isInsideSalted 46 = .ok (.aload_n 0, 1) := by decide +kernel
theorem dX7_isInsideSalted_47 : decode cX7_isInsideSalted 47 = .ok (.getfield 10, 3) := by decide +kernel
theorem dX7_isInsideSalted_50 : decode cX7_isInsideSalted 50 = .ok (.getfield 130, 3) := by decide +kernel
theorem dX7_isInsideSalted_53 : decode cX7_isInsideSalted 53 = .ok (.aload_n 0, 1) := by decide +kernel
theorem dX7_isInsideSalted_54 : decode cX7_isInsideSalted 54 = .ok (.getfield 10, 3) := by decide +kernel
theorem dX7_isInsideSalted_57 : decode cX7_isInsideSalted 57 = .ok (.getfield 116, 3) := by decide +kernel
theorem dX7_isInsideSalted_60 : decode cX7_isInsideSalted 60 = .ok (.iload 7, 2) := by decide +kernel
theorem dX7_isInsideSalted_62 : decode cX7_isInsideSalted 62 = .ok (.iadd, 1) := by decide +kernel
theorem dX7_isInsideSalted_63 : decode cX7_isInsideSalted 63 = .ok (.invokevirtual 308, 3) := by decide +kernel
theorem dX7_isInsideSalted_66 : decode cX7_isInsideSalted 66 = .ok (.iinc 7 1, 3) := by decide +kernel
theorem dX7_isInsideSalted_69 : decode cX7_isInsideSalted 69 = .ok (.goto (-41), 3) := by decide +kernel
theorem dX7_isInsideSalted_72 : decode cX7_isInsideSalted 72 = .ok (.aload 6, 2) := by decide +kernel
theorem dX7_isInsideSalted_74 : decode cX7_isInsideSalted 74 = .ok (.invokevirtual 98, 3) := by decide +kernel
theorem dX7_isInsideSalted_77 : decode cX7_isInsideSalted 77 = .ok (.iload_n 2, 1) := by decide +kernel
theorem dX7_isInsideSalted_78 : decode cX7_isInsideSalted 78 = .ok (.invokestatic 139, 3) := by decide +kernel
theorem dX7_isInsideSalted_81 : decode cX7_isInsideSalted 81 = .ok (.ireturn, 1) := by decide +kernel
end
section
theorem dX8_init_0 : decode cX8_init 0 = .ok (.aload_n 0, 1) := by decide +kernel
theorem dX8_init_1 : decode cX8_init 1 = .ok (.invokespecial 3, 3) := by decide +kernel
theorem dX8_init_4 : decode cX8_init 4 = .ok (.aload_n 0, 1) := by decide +kernel
theorem dX8_init_5 : decode cX8_init 5 = .ok (.sipush 524, 3) := by decide +kernel
theorem dX8_init_8 : decode cX8_init 8 = .ok (.newarray .int, 2) := by decide +kernel
theorem dX8_init_10 : decode cX8_init 10 = .ok (.putfield 9, 3) := by decide +kernel
theorem dX8_init_13 : decode cX8_init 13 = .ok (.aload_n 0, 1) := by decide +kernel
theorem dX8_init_14 : decode cX8_init 14 = .ok (.sipush 524, 3) := by decide +kernel
theorem dX8_init_17 : decode cX8_init 17 = .ok (.newarray .int, 2) := by decide +kernel
theorem dX8_init_19 : decode cX8_init 19 = .ok (.putfield 13, 3) := by decide +kernel
theorem dX8_init_22 : decode cX8_init 22 = .ok (.aload_n 0, 1) := by decide +kernel
theorem dX8_init_23 : decode cX8_init 23 = .ok (.sipush 524, 3) := by decide +kernel
theorem dX8_init_26 : decode cX8_init 26 = .ok (.newarray .int, 2) := by decide +kernel
theorem dX8_init_28 : decode cX8_init 28 = .ok (.putfield 16, 3) := by decide +kernel
theorem dX8_init_31 : decode cX8_init 31 = .ok (.aload_n 0, 1) := by decide +kernel
theorem dX8_init_32 : decode cX8_init 32 = .ok (.bipush 7, 2) := by decide +kernel
theorem dX8_init_34 : decode cX8_init 34 = .ok (.newarray .int, 2) := by decide +kernel
theorem dX8_init_36 : decode cX8_init 36 = .ok (.putfield 19, 3) := by decide +kernel
theorem dX8_init_39 : decode cX8_init 39 = .ok (.aload_n 0, 1) := by decide +kernel
theorem dX8_init_40 : decode cX8_init 40 = .ok (.iconst 4, 1) := by decide +kernel
theorem dX8_init_41 : decode cX8_init 41 = .ok (.newarray .int, 2) := by decide +kernel
theorem dX8_init_43 : decode cX8_init 43 = .ok (.putfield 22, 3) := by decide +kernel
theorem dX8_init_46 : decode cX8_init 46 = .ok (.aload_n 0, 1) := by decide +kernel
theorem dX8_init_47 : decode cX8_init 47 = .ok (.iconst 4, 1) := by decide +kernel
theorem dX8_init_48 : decode cX8_init 48 = .ok (.newarray .int, 2) := by decide +kernel
theorem dX8_init_50 : decode cX8_init 50 = .ok (.putfield 25, 3) := by decide +kernel
theorem dX8_init_53 : decode cX8_init 53 = .ok (.aload_n 0, 1) := by decide +kernel
theorem dX8_init_54 : decode cX8_init 54 = .ok (.bipush 96, 2) := by decide +kernel
theorem dX8_init_56 : decode cX8_init 56 = .ok (.newarray .int, 2) := by decide +kernel
theorem dX8_init_58 : decode cX8_init 58 = .ok (.putfield 28, 3) := by decide +kernel
theorem dX8_init_61 : decode cX8_init 61 = .ok (.aload_n 0, 1) := by decide +kernel
theorem dX8_init_62 : decode cX8_init 62 = .ok (.bipush 60, 2) := by decide +kernel
theorem dX8_init_64 : decode cX8_init 64 = .ok (.newarray .int, 2) := by decide +kernel
theorem dX8_init_66 : decode cX8_init 66 = .ok (.putfield 31, 3) := by decide +kernel
theorem dX8_init_69 : decode cX8_init 69 = .ok (.aload_n 0, 1) := by decide +kernel
theorem dX8_init_70 : decode cX8_init 70 = .ok (.bipush 60, 2) := by decide +kernel
theorem dX8_init_72 : decode cX8_init 72 = .ok (.newarray .int, 2) := by decide +kernel
theorem dX8_init_74 : decode cX8_init 74 = .ok (.putfield 34, 3) := by decide +kernel
theorem dX8_init_77 : decode cX8_init 77 = .ok (.aload_n 0, 1) := by decide +kernel
theorem dX8_init_78 : decode cX8_init 78 = .ok (.iconst 3, 1) := by decide +kernel
theorem dX8_init_79 : decode cX8_init 79 = .ok (.newarray .int, 2) := by decide +kernel
theorem dX8_init_81 : decode cX8_init 81 = .ok (.putfield 37, 3) := by decide +kernel
theorem dX8_init_84 : decode cX8_init 84 = .ok (.aload_n 0, 1) := by decide +kernel
theorem dX8_init_85 : decode cX8_init 85 = .ok (.bipush 60, 2) := by decide +kernel
theorem dX8_init_87 : decode cX8_init 87 = .ok (.newarray .int, 2) := by decide +kernel
theorem dX8_init_89 : decode cX8_init 89 = .ok (.putfield 40, 3) := by decide +kernel
theorem dX8_init_92 : decode cX8_init 92 = .ok (.aload_n 0, 1) := by decide +kernel
theorem dX8_init_93 : decode cX8_init 93 = .ok (.bipush 30, 2) := by decide +kernel
theorem dX8_init_95 : decode cX8_init 95 = .ok (.newarray .int, 2) := by decide +kernel
theorem dX8_init_97 : decode cX8_init 97 = .ok (.putfield 43, 3) := by decide +kernel
theorem dX8_init_100 : decode cX8_init 100 = .ok (.aload_n 0, 1) := by decide +kernel
theorem dX8_init_101 : decode cX8_init 101 = .ok (.getfield 9, 3) := by decide +kernel
theorem dX8_init_104 : decode cX8_init 104 = .ok (.iconst 1, 1) := by decide +kernel
theorem dX8_init_105 : decode cX8_init 105 = .ok (.iconst 1, 1) := by decide +kernel
theorem dX8_init_106 : decode cX8_init 106 = .ok (.iastore, 1) := by decide +kernel
theorem dX8_init_107 : decode cX8_init 107 = .ok (.return_, 1) := by decide +kernel
theorem dX8_error_0 : decode cX8_error 0 = .ok (.aload_n 0, 1) := by decide +kernel
theorem dX8_error_1 : decode cX8_error 1 = .ok (.getfield 19, 3) := by decide +kernel
theorem dX8_error_4 : decode cX8_error 4 = .ok (.ldc 46, 2) := by decide +kernel
theorem dX8_error_6 : decode cX8_error 6 = .ok (.iload_n 1, 1) := by decide +kernel
theorem dX8_error_7 : decode cX8_error 7 = .ok (.isub, 1) := by decide +kernel
theorem dX8_error_8 : decode cX8_error 8 = .ok (.dup2, 1) := by decide +kernel
theorem dX8_error_9 : decode cX8_error 9 = .ok (.iaload, 1) := by decide +kernel
theorem dX8_error_10 : decode cX8_error 10 = .ok (.iconst 1, 1) := by decide +kernel
theorem dX8_error_11 : decode cX8_error 11 = .ok (.iadd, 1) := by decide +kernel
theorem dX8_error_12 : decode cX8_error 12 = .ok (.iastore, 1) := by decide +kernel
theorem dX8_error_13 : decode cX8_error 13 = .ok (.iload_n 1, 1) := by decide +kernel
theorem dX8_error_14 : decode cX8_error 14 = .ok (.ireturn, 1) := by decide +kernel
theorem dX8_in_0 : decode cX8_in 0 = .ok (.iload_n 0, 1) := by decide +kernel
theorem dX8_in_1 : decode cX8_in 1 = .ok (.iload_n 1, 1) := by decide +kernel
theorem dX8_in_2 : decode cX8_in 2 = .ok (.if_icmp .lt 12, 3) := by decide +kernel
theorem dX8_in_5 : decode cX8_in 5 = .ok (.iload_n 0, 1) := by decide +kernel
theorem dX8_in_6 : decode cX8_in 6 = .ok (.iload_n 2, 1) := by decide +kernel
theorem dX8_in_7 : decode cX8_in 7 = .ok (.if_icmp .gt 7, 3) := by decide +kernel
theorem dX8_in_10 : decode cX8_in 10 = .ok (.iconst 1, 1) := by decide +kernel
theorem dX8_in_11 : decode cX8_in 11 = .ok (.goto 4, 3) := by decide +kernel
theorem dX8_in_14 : decode cX8_in 14 = .ok (.iconst 0, 1) := by decide +kernel
theorem dX8_in_15 : decode cX8_in 15 = .ok (.ireturn, 1) := by decide +kernel
theorem dX8_held_0 : decode cX8_held 0 = .ok (.iload_n 0, 1) := by decide +kernel
theorem dX8_held_1 : decode cX8_held 1 = .ok (.iload_n 1, 1) := by decide +kernel
theorem dX8_held_2 : decode cX8_held 2 = .ok (.if_icmp .ge 7, 3) := by decide +kernel
theorem dX8_held_5 : decode cX8_held 5 = .ok (.iload_n 1, 1) := by decide +kernel
theorem dX8_held_6 : decode cX8_held 6 = .ok (.goto 13, 3) := by decide +kernel
theorem dX8_held_9 : decode cX8_held 9 = .ok (.iload_n 0, 1) := by decide +kernel
theorem dX8_held_10 : decode cX8_held 10 = .ok (.iload_n 2, 1) := by decide +kernel
theorem dX8_held_11 : decode cX8_held 11 = .ok (.if_icmp .le 7, 3) := by decide +kernel
theorem dX8_held_14 : decode cX8_held 14 = .ok (.iload_n 2, 1) := by decide +kernel
theorem dX8_held_15 : decode cX8_held 15 = .ok (.goto 4, 3) := by decide +kernel
theorem dX8_held_18 : decode cX8_held 18 = .ok (.iload_n 0, 1) := by decide +kernel
theorem dX8_held_19 : decode cX8_held 19 = .ok (.ireturn, 1) := by decide +kernel
theorem dX8_copyAll_0 : decode cX8_copyAll 0 = .ok (.iconst 0, 1) := by decide +kernel
theorem dX8_copyAll_1 : decode cX8_copyAll 1 = .ok (.istore_n 2, 1) := by decide +kernel
theorem dX8_copyAll_2 : decode cX8_copyAll 2 = .ok (.iload_n 2, 1) := by decide +kernel
theorem dX8_copyAll_3 : decode cX8_copyAll 3 = .ok (.sipush 524, 3) := by decide +kernel
theorem dX8_copyAll_6 : decode cX8_copyAll 6 = .ok (.if_icmp .ge 15, 3) := by decide +kernel
theorem dX8_copyAll_9 : decode cX8_copyAll 9 = .ok (.aload_n 1, 1) := by decide +kernel
theorem dX8_copyAll_10 : decode cX8_copyAll 10 = .ok (.iload_n 2, 1) := by decide +kernel
theorem dX8_copyAll_11 : decode cX8_copyAll 11 = .ok (.aload_n 0, 1) := by decide +kernel
theorem dX8_copyAll_12 : decode cX8_copyAll 12 = .ok (.iload_n 2, 1) := by decide +kernel
theorem dX8_copyAll_13 : decode cX8_copyAll 13 = .ok (.iaload, 1) := by decide +kernel
theorem dX8_copyAll_14 : decode cX8_copyAll 14 = .ok (.iastore, 1) := by decide +kernel
theorem dX8_copyAll_15 : decode cX8_copyAll 15 = .ok (.iinc 2 1, 3) := by decide +kernel
theorem dX8_copyAll_18 : decode cX8_copyAll 18 = .ok (.goto (-16), 3) := by decide +kernel
theorem dX8_copyAll_21 : decode cX8_copyAll 21 = .ok (.return_, 1) := by decide +kernel
theorem dX8_thinks_0 : decode cX8_thinks 0 = .ok (.aload_n 0, 1) := by decide +kernel
theorem dX8_thinks_1 : decode cX8_thinks 1 = .ok (.getfield 9, 3) := by decide +kernel
theorem dX8_thinks_4 : decode cX8_thinks 4 = .ok (.aload_n 0, 1) := by decide +kernel
theorem dX8_thinks_5 : decode cX8_thinks 5 = .ok (.getfield 16, 3) := by decide +kernel
theorem dX8_thinks_8 : decode cX8_thinks 8 = .ok (.invokestatic 47, 3) := by decide +kernel
theorem dX8_thinks_11 : decode cX8_thinks 11 = .ok (.return_, 1) := by decide +kernel
theorem dX8_putsBack_0 : decode cX8_putsBack 0 = .ok (.aload_n 0, 1) := by decide +kernel
theorem dX8_putsBack_1 : decode cX8_putsBack 1 = .ok (.getfield 16, 3) := by decide +kernel
theorem dX8_putsBack_4 : decode cX8_putsBack 4 = .ok (.aload_n 0, 1) := by decide +kernel
theorem dX8_putsBack_5 : decode cX8_putsBack 5 = .ok (.getfield 9, 3) := by decide +kernel
theorem dX8_putsBack_8 : decode cX8_putsBack 8 = .ok (.invokestatic 47, 3) := by decide +kernel
theorem dX8_putsBack_11 : decode cX8_putsBack 11 = .ok (.return_, 1) := by decide +kernel
theorem dX8_bits_0 : decode cX8_bits 0 = .ok (.iconst 0, 1) := by decide +kernel
theorem dX8_bits_1 : decode cX8_bits 1 = .ok (.istore_n 2, 1) := by decide +kernel
theorem dX8_bits_2 : decode cX8_bits 2 = .ok (.lload_n 0, 1) := by decide +kernel
theorem dX8_bits_3 : decode cX8_bits 3 = .ok (.lstore_n 3, 1) := by decide +kernel
theorem dX8_bits_4 : decode cX8_bits 4 = .ok (.lload_n 3, 1) := by decide +kernel
theorem dX8_bits_5 : decode cX8_bits 5 = .ok (.lconst 0, 1) := by decide +kernel
theorem dX8_bits_6 : decode cX8_bits 6 = .ok (.lcmp, 1) := by decide +kernel
theorem dX8_bits_7 : decode cX8_bits 7 = .ok (.ifCond .eq 15, 3) := by decide +kernel
theorem dX8_bits_10 : decode cX8_bits 10 = .ok (.iinc 2 1, 3) := by decide +kernel
theorem dX8_bits_13 : decode cX8_bits 13 = .ok (.lload_n 3, 1) := by decide +kernel
theorem dX8_bits_14 : decode cX8_bits 14 = .ok (.lload_n 3, 1) := by decide +kernel
theorem dX8_bits_15 : decode cX8_bits 15 = .ok (.lconst 1, 1) := by decide +kernel
theorem dX8_bits_16 : decode cX8_bits 16 = .ok (.lsub, 1) := by decide +kernel
theorem dX8_bits_17 : decode cX8_bits 17 = .ok (.land, 1) := by decide +kernel
theorem dX8_bits_18 : decode cX8_bits 18 = .ok (.lstore_n 3, 1) := by decide +kernel
theorem dX8_bits_19 : decode cX8_bits 19 = .ok (.goto (-15), 3) := by decide +kernel
theorem dX8_bits_22 : decode cX8_bits 22 = .ok (.iload_n 2, 1) := by decide +kernel
theorem dX8_bits_23 : decode cX8_bits 23 = .ok (.ireturn, 1) := by decide +kernel
theorem dX8_isFence_0 : decode cX8_isFence 0 = .ok (.iload_n 1, 1) := by decide +kernel
theorem dX8_isFence_1 : decode cX8_isFence 1 = .ok (.iconst 0, 1) := by decide +kernel
theorem dX8_isFence_2 : decode cX8_isFence 2 = .ok (.aload_n 0, 1) := by decide +kernel
theorem dX8_isFence_3 : decode cX8_isFence 3 = .ok (.getfield 9, 3) := by decide +kernel
theorem dX8_isFence_6 : decode cX8_isFence 6 = .ok (.iconst 2, 1) := by decide +kernel
theorem dX8_isFence_7 : decode cX8_isFence 7 = .ok (.iaload, 1) := by decide +kernel
theorem dX8_isFence_8 : decode cX8_isFence 8 = .ok (.iconst 1, 1) := by decide +kernel
theorem dX8_isFence_9 : decode cX8_isFence 9 = .ok (.isub, 1) := by decide +kernel
theorem dX8_isFence_10 : decode cX8_isFence 10 = .ok (.invokestatic 51, 3) := by decide +kernel
theorem dX8_isFence_13 : decode cX8_isFence 13 = .ok (.ireturn, 1) := by decide +kernel
theorem dX8_isCow_0 : decode cX8_isCow 0 = .ok (.iload_n 1, 1) := by decide +kernel
theorem dX8_isCow_1 : decode cX8_isCow 1 = .ok (.iconst 0, 1) := by decide +kernel
theorem dX8_isCow_2 : decode cX8_isCow 2 = .ok (.aload_n 0, 1) := by decide +kernel
theorem dX8_isCow_3 : decode cX8_isCow 3 = .ok (.getfield 9, 3) := by decide +kernel
theorem dX8_isCow_6 : decode cX8_isCow 6 = .ok (.iconst 3, 1) := by decide +kernel
theorem dX8_isCow_7 : decode cX8_isCow 7 = .ok (.iaload, 1) := by decide +kernel
theorem dX8_isCow_8 : decode cX8_isCow 8 = .ok (.iconst 1, 1) := by decide +kernel
theorem dX8_isCow_9 : decode cX8_isCow 9 = .ok (.isub, 1) := by decide +kernel
theorem dX8_isCow_10 : decode cX8_isCow 10 = .ok (.invokestatic 51, 3) := by decide +kernel
theorem dX8_isCow_13 : decode cX8_isCow 13 = .ok (.ireturn, 1) := by decide +kernel
theorem dX8_isCell_0 : decode cX8_isCell 0 = .ok (.iload_n 0, 1) := by decide +kernel
theorem dX8_isCell_1 : decode cX8_isCell 1 = .ok (.iconst 0, 1) := by decide +kernel
theorem dX8_isCell_2 : decode cX8_isCell 2 = .ok (.bipush 63, 2) := by decide +kernel
theorem dX8_isCell_4 : decode cX8_isCell 4 = .ok (.invokestatic 51, 3) := by decide +kernel
theorem dX8_isCell_7 : decode cX8_isCell 7 = .ok (.ireturn, 1) := by decide +kernel
theorem dX8_becomes_0 : decode cX8_becomes 0 = .ok (.aload_n 0, 1) := by decide +kernel
theorem dX8_becomes_1 : decode cX8_becomes 1 = .ok (.getfield 9, 3) := by decide +kernel
theorem dX8_becomes_4 : decode cX8_becomes 4 = .ok (.iload_n 1, 1) := by decide +kernel
theorem dX8_becomes_5 : decode cX8_becomes 5 = .ok (.iaload, 1) := by decide +kernel
theorem dX8_becomes_6 : decode cX8_becomes 6 = .ok (.istore_n 3, 1) := by decide +kernel
theorem dX8_becomes_7 : decode cX8_becomes 7 = .ok (.aload_n 0, 1) := by decide +kernel
theorem dX8_becomes_8 : decode cX8_becomes 8 = .ok (.getfield 9, 3) := by decide +kernel
theorem dX8_becomes_11 : decode cX8_becomes 11 = .ok (.iload_n 1, 1) := by decide +kernel
theorem dX8_becomes_12 : decode cX8_becomes 12 = .ok (.iload_n 2, 1) := by decide +kernel
theorem dX8_becomes_13 : decode cX8_becomes 13 = .ok (.iastore, 1) := by decide +kernel
theorem dX8_becomes_14 : decode cX8_becomes 14 = .ok (.iload_n 3, 1) := by decide +kernel
theorem dX8_becomes_15 : decode cX8_becomes 15 = .ok (.ireturn, 1) := by decide +kernel
theorem dX8_of_0 : decode cX8_of 0 = .ok (.aload_n 0, 1) := by decide +kernel
theorem dX8_of_1 : decode cX8_of 1 = .ok (.getfield 9, 3) := by decide +kernel
theorem dX8_of_4 : decode cX8_of 4 = .ok (.bipush 6, 2) := by decide +kernel
theorem dX8_of_6 : decode cX8_of 6 = .ok (.bipush 13, 2) := by decide +kernel
theorem dX8_of_8 : decode cX8_of 8 = .ok (.iload_n 1, 1) := by decide +kernel
theorem dX8_of_9 : decode cX8_of 9 = .ok (.imul, 1) := by decide +kernel
theorem dX8_of_10 : decode cX8_of 10 = .ok (.iadd, 1) := by decide +kernel
theorem dX8_of_11 : decode cX8_of 11 = .ok (.iload_n 2, 1) := by decide +kernel
theorem dX8_of_12 : decode cX8_of 12 = .ok (.iadd, 1) := by decide +kernel
theorem dX8_of_13 : decode cX8_of 13 = .ok (.iaload, 1) := by decide +kernel
theorem dX8_of_14 : decode cX8_of 14 = .ok (.ireturn, 1) := by decide +kernel
theorem dX8_lets_0 : decode cX8_lets 0 = .ok (.aload_n 0, 1) := by decide +kernel
theorem dX8_lets_1 : decode cX8_lets 1 = .ok (.getfield 9, 3) := by decide +kernel
theorem dX8_lets_4 : decode cX8_lets 4 = .ok (.bipush 6, 2) := by decide +kernel
theorem dX8_lets_6 : decode cX8_lets 6 = .ok (.bipush 13, 2) := by decide +kernel
theorem dX8_lets_8 : decode cX8_lets 8 = .ok (.iload_n 1, 1) := by decide +kernel
theorem dX8_lets_9 : decode cX8_lets 9 = .ok (.imul, 1) := by decide +kernel
theorem dX8_lets_10 : decode cX8_lets 10 = .ok (.iadd, 1) := by decide +kernel
theorem dX8_lets_11 : decode cX8_lets 11 = .ok (.iload_n 2, 1) := by decide +kernel
theorem dX8_lets_12 : decode cX8_lets 12 = .ok (.iadd, 1) := by decide +kernel
theorem dX8_lets_13 : decode cX8_lets 13 = .ok (.iload_n 3, 1) := by decide +kernel
theorem dX8_lets_14 : decode cX8_lets 14 = .ok (.iastore, 1) := by decide +kernel
theorem dX8_lets_15 : decode cX8_lets 15 = .ok (.return_, 1) := by decide +kernel
theorem dX8_headsOf_0 : decode cX8_headsOf 0 = .ok (.aload_n 0, 1) := by decide +kernel
theorem dX8_headsOf_1 : decode cX8_headsOf 1 = .ok (.getfield 9, 3) := by decide +kernel
theorem dX8_headsOf_4 : decode cX8_headsOf 4 = .ok (.iconst 0, 1) := by decide +kernel
theorem dX8_headsOf_5 : decode cX8_headsOf 5 = .ok (.iaload, 1) := by decide +kernel
theorem dX8_headsOf_6 : decode cX8_headsOf 6 = .ok (.istore_n 3, 1) := by decide +kernel
theorem dX8_headsOf_7 : decode cX8_headsOf 7 = .ok (.aload_n 0, 1) := by decide +kernel
theorem dX8_headsOf_8 : decode cX8_headsOf 8 = .ok (.iload_n 1, 1) := by decide +kernel
theorem dX8_headsOf_9 : decode cX8_headsOf 9 = .ok (.iconst 2, 1) := by decide +kernel
theorem dX8_headsOf_10 : decode cX8_headsOf 10 = .ok (.invokevirtual 55, 3) := by decide +kernel
theorem dX8_headsOf_13 : decode cX8_headsOf 13 = .ok (.istore 4, 2) := by decide +kernel
theorem dX8_headsOf_15 : decode cX8_headsOf 15 = .ok (.iload_n 3, 1) := by decide +kernel
theorem dX8_headsOf_16 : decode cX8_headsOf 16 = .ok (.iconst 2, 1) := by decide +kernel
theorem dX8_headsOf_17 : decode cX8_headsOf 17 = .ok (.irem, 1) := by decide +kernel
theorem dX8_headsOf_18 : decode cX8_headsOf 18 = .ok (.iconst 1, 1) := by decide +kernel
theorem dX8_headsOf_19 : decode cX8_headsOf 19 = .ok (.if_icmp .ne 7, 3) := by decide +kernel
theorem dX8_headsOf_22 : decode cX8_headsOf 22 = .ok (.iconst (-1), 1) := by decide +kernel
theorem dX8_headsOf_23 : decode cX8_headsOf 23 = .ok (.goto 5, 3) := by decide +kernel
theorem dX8_headsOf_26 : decode cX8_headsOf 26 = .ok (.iload 4, 2) := by decide +kernel
theorem dX8_headsOf_28 : decode cX8_headsOf 28 = .ok (.istore 5, 2) := by decide +kernel
theorem dX8_headsOf_30 : decode cX8_headsOf 30 = .ok (.aload_n 0, 1) := by decide +kernel
theorem dX8_headsOf_31 : decode cX8_headsOf 31 = .ok (.iload_n 1, 1) := by decide +kernel
theorem dX8_headsOf_32 : decode cX8_headsOf 32 = .ok (.iconst 0, 1) := by decide +kernel
theorem dX8_headsOf_33 : decode cX8_headsOf 33 = .ok (.invokevirtual 55, 3) := by decide +kernel
theorem dX8_headsOf_36 : decode cX8_headsOf 36 = .ok (.tableswitch 103 2 6 #[36, 39, 55, 74, 85], 36) := by decide +kernel
theorem dX8_headsOf_72 : decode cX8_headsOf 72 = .ok (.iload 5, 2) := by decide +kernel
theorem dX8_headsOf_74 : decode cX8_headsOf 74 = .ok (.ireturn, 1) := by decide +kernel
theorem dX8_headsOf_75 : decode cX8_headsOf 75 = .ok (.iload 4, 2) := by decide +kernel
theorem dX8_headsOf_77 : decode cX8_headsOf 77 = .ok (.iload_n 3, 1) := by decide +kernel
theorem dX8_headsOf_78 : decode cX8_headsOf 78 = .ok (.aload_n 0, 1) := by decide +kernel
theorem dX8_headsOf_79 : decode cX8_headsOf 79 = .ok (.iload_n 1, 1) := by decide +kernel
theorem dX8_headsOf_80 : decode cX8_headsOf 80 = .ok (.iconst 1, 1) := by decide +kernel
theorem dX8_headsOf_81 : decode cX8_headsOf 81 = .ok (.invokevirtual 55, 3) := by decide +kernel
theorem dX8_headsOf_84 : decode cX8_headsOf 84 = .ok (.iconst 1, 1) := by decide +kernel
theorem dX8_headsOf_85 : decode cX8_headsOf 85 = .ok (.iadd, 1) := by decide +kernel
theorem dX8_headsOf_86 : decode cX8_headsOf 86 = .ok (.idiv, 1) := by decide +kernel
theorem dX8_headsOf_87 : decode cX8_headsOf 87 = .ok (.iadd, 1) := by decide +kernel
theorem dX8_headsOf_88 : decode cX8_headsOf 88 = .ok (.iconst 4, 1) := by decide +kernel
theorem dX8_headsOf_89 : decode cX8_headsOf 89 = .ok (.irem, 1) := by decide +kernel
theorem dX8_headsOf_90 : decode cX8_headsOf 90 = .ok (.ireturn, 1) := by decide +kernel
theorem dX8_headsOf_91 : decode cX8_headsOf 91 = .ok (.iload_n 3, 1) := by decide +kernel
theorem dX8_headsOf_92 : decode cX8_headsOf 92 = .ok (.iconst 4, 1) := by decide +kernel
theorem dX8_headsOf_93 : decode cX8_headsOf 93 = .ok (.irem, 1) := by decide +kernel
theorem dX8_headsOf_94 : decode cX8_headsOf 94 = .ok (.iconst 1, 1) := by decide +kernel
theorem dX8_headsOf_95 : decode cX8_headsOf 95 = .ok (.if_icmp .le 12, 3) := by decide +kernel
theorem dX8_headsOf_98 : decode cX8_headsOf 98 = .ok (.iload 4, 2) := by decide +kernel
theorem dX8_headsOf_100 : decode cX8_headsOf 100 = .ok (.iconst 2, 1) := by decide +kernel
theorem dX8_headsOf_101 : decode cX8_headsOf 101 = .ok (.iadd, 1) := by decide +kernel
theorem dX8_headsOf_102 : decode cX8_headsOf 102 = .ok (.iconst 4, 1) := by decide +kernel
theorem dX8_headsOf_103 : decode cX8_headsOf 103 = .ok (.irem, 1) := by decide +kernel
theorem dX8_headsOf_104 : decode cX8_headsOf 104 = .ok (.goto 5, 3) := by decide +kernel
theorem dX8_headsOf_107 : decode cX8_headsOf 107 = .ok (.iload 4, 2) := by decide +kernel
theorem dX8_headsOf_109 : decode cX8_headsOf 109 = .ok (.ireturn, 1) := by decide +kernel
theorem dX8_headsOf_110 : decode cX8_headsOf 110 = .ok (.iload_n 2, 1) := by decide +kernel
theorem dX8_headsOf_111 : decode cX8_headsOf 111 = .ok (.ifCond .ne 7, 3) := by decide +kernel
theorem dX8_headsOf_114 : decode cX8_headsOf 114 = .ok (.iconst (-1), 1) := by decide +kernel
theorem dX8_headsOf_115 : decode cX8_headsOf 115 = .ok (.goto 5, 3) := by decide +kernel
theorem dX8_headsOf_118 : decode cX8_headsOf 118 = .ok (.iload 5, 2) := by decide +kernel
theorem dX8_headsOf_120 : decode cX8_headsOf 120 = .ok (.ireturn, 1) := by decide +kernel
theorem dX8_headsOf_121 : decode cX8_headsOf 121 = .ok (.aload_n 0, 1) := by decide +kernel
theorem dX8_headsOf_122 : decode cX8_headsOf 122 = .ok (.iload_n 1, 1) := by decide +kernel
theorem dX8_headsOf_123 : decode cX8_headsOf 123 = .ok (.iconst 1, 1) := by decide +kernel
theorem dX8_headsOf_124 : decode cX8_headsOf 124 = .ok (.invokevirtual 55, 3) := by decide +kernel
theorem dX8_headsOf_127 : decode cX8_headsOf 127 = .ok (.bipush 9, 2) := by decide +kernel
theorem dX8_headsOf_129 : decode cX8_headsOf 129 = .ok (.if_icmp .ne 8, 3) := by decide +kernel
theorem dX8_headsOf_132 : decode cX8_headsOf 132 = .ok (.iload 4, 2) := by decide +kernel
theorem dX8_headsOf_134 : decode cX8_headsOf 134 = .ok (.goto 4, 3) := by decide +kernel
theorem dX8_headsOf_137 : decode cX8_headsOf 137 = .ok (.iconst (-1), 1) := by decide +kernel
theorem dX8_headsOf_138 : decode cX8_headsOf 138 = .ok (.ireturn, 1) := by decide +kernel
theorem dX8_headsOf_139 : decode cX8_headsOf 139 = .ok (.iload 4, 2) := by decide +kernel
theorem dX8_headsOf_141 : decode cX8_headsOf 141 = .ok (.ireturn, 1) := by decide +kernel
theorem dX8_next_0 : decode cX8_next 0 = .ok (.iload_n 1, 1) := by decide +kernel
theorem dX8_next_1 : decode cX8_next 1 = .ok (.tableswitch 93 0 3 #[31, 46, 63, 78], 31) := by decide +kernel
theorem dX8_next_32 : decode cX8_next 32 = .ok (.iload_n 0, 1) := by decide +kernel
theorem dX8_next_33 : decode cX8_next 33 = .ok (.bipush 8, 2) := by decide +kernel
theorem dX8_next_35 : decode cX8_next 35 = .ok (.if_icmp .ge 7, 3) := by decide +kernel
theorem dX8_next_38 : decode cX8_next 38 = .ok (.iconst (-1), 1) := by decide +kernel
theorem dX8_next_39 : decode cX8_next 39 = .ok (.goto 7, 3) := by decide +kernel
theorem dX8_next_42 : decode cX8_next 42 = .ok (.iload_n 0, 1) := by decide +kernel
theorem dX8_next_43 : decode cX8_next 43 = .ok (.bipush 8, 2) := by decide +kernel
theorem dX8_next_45 : decode cX8_next 45 = .ok (.isub, 1) := by decide +kernel
theorem dX8_next_46 : decode cX8_next 46 = .ok (.ireturn, 1) := by decide +kernel
theorem dX8_next_47 : decode cX8_next 47 = .ok (.iload_n 0, 1) := by decide +kernel
theorem dX8_next_48 : decode cX8_next 48 = .ok (.bipush 8, 2) := by decide +kernel
theorem dX8_next_50 : decode cX8_next 50 = .ok (.irem, 1) := by decide +kernel
theorem dX8_next_51 : decode cX8_next 51 = .ok (.bipush 7, 2) := by decide +kernel
theorem dX8_next_53 : decode cX8_next 53 = .ok (.if_icmp .ne 7, 3) := by decide +kernel
theorem dX8_next_56 : decode cX8_next 56 = .ok (.iconst (-1), 1) := by decide +kernel
theorem dX8_next_57 : decode cX8_next 57 = .ok (.goto 6, 3) := by decide +kernel
theorem dX8_next_60 : decode cX8_next 60 = .ok (.iload_n 0, 1) := by decide +kernel
theorem dX8_next_61 : decode cX8_next 61 = .ok (.iconst 1, 1) := by decide +kernel
theorem dX8_next_62 : decode cX8_next 62 = .ok (.iadd, 1) := by decide +kernel
theorem dX8_next_63 : decode cX8_next 63 = .ok (.ireturn, 1) := by decide +kernel
theorem dX8_next_64 : decode cX8_next 64 = .ok (.iload_n 0, 1) := by decide +kernel
theorem dX8_next_65 : decode cX8_next 65 = .ok (.bipush 55, 2) := by decide +kernel
theorem dX8_next_67 : decode cX8_next 67 = .ok (.if_icmp .le 7, 3) := by decide +kernel
theorem dX8_next_70 : decode cX8_next 70 = .ok (.iconst (-1), 1) := by decide +kernel
theorem dX8_next_71 : decode cX8_next 71 = .ok (.goto 7, 3) := by decide +kernel
theorem dX8_next_74 : decode cX8_next 74 = .ok (.iload_n 0, 1) := by decide +kernel
theorem dX8_next_75 : decode cX8_next 75 = .ok (.bipush 8, 2) := by decide +kernel
theorem dX8_next_77 : decode cX8_next 77 = .ok (.iadd, 1) := by decide +kernel
theorem dX8_next_78 : decode cX8_next 78 = .ok (.ireturn, 1) := by decide +kernel
theorem dX8_next_79 : decode cX8_next 79 = .ok (.iload_n 0, 1) := by decide +kernel
theorem dX8_next_80 : decode cX8_next 80 = .ok (.bipush 8, 2) := by decide +kernel
theorem dX8_next_82 : decode cX8_next 82 = .ok (.irem, 1) := by decide +kernel
theorem dX8_next_83 : decode cX8_next 83 = .ok (.ifCond .ne 7, 3) := by decide +kernel
theorem dX8_next_86 : decode cX8_next 86 = .ok (.iconst (-1), 1) := by decide +kernel
theorem dX8_next_87 : decode cX8_next 87 = .ok (.goto 6, 3) := by decide +kernel
theorem dX8_next_90 : decode cX8_next 90 = .ok (.iload_n 0, 1) := by decide +kernel
theorem dX8_next_91 : decode cX8_next 91 = .ok (.iconst 1, 1) := by decide +kernel
theorem dX8_next_92 : decode cX8_next 92 = .ok (.isub, 1) := by decide +kernel
theorem dX8_next_93 : decode cX8_next 93 = .ok (.ireturn, 1) := by decide +kernel
theorem dX8_next_94 : decode cX8_next 94 = .ok (.iconst (-1), 1) := by decide +kernel
theorem dX8_next_95 : decode cX8_next 95 = .ok (.ireturn, 1) := by decide +kernel
theorem dX8_moves_0 : decode cX8_moves 0 = .ok (.iconst 0, 1) := by decide +kernel
theorem dX8_moves_1 : decode cX8_moves 1 = .ok (.istore_n 1, 1) := by decide +kernel
theorem dX8_moves_2 : decode cX8_moves 2 = .ok (.iload_n 1, 1) := by decide +kernel
theorem dX8_moves_3 : decode cX8_moves 3 = .ok (.aload_n 0, 1) := by decide +kernel
theorem dX8_moves_4 : decode cX8_moves 4 = .ok (.getfield 9, 3) := by decide +kernel
theorem dX8_moves_7 : decode cX8_moves 7 = .ok (.iconst 2, 1) := by decide +kernel
theorem dX8_moves_8 : decode cX8_moves 8 = .ok (.iaload, 1) := by decide +kernel
theorem dX8_moves_9 : decode cX8_moves 9 = .ok (.if_icmp .ge 118, 3) := by decide +kernel
theorem dX8_moves_12 : decode cX8_moves 12 = .ok (.aload_n 0, 1) := by decide +kernel
theorem dX8_moves_13 : decode cX8_moves 13 = .ok (.iload_n 1, 1) := by decide +kernel
theorem dX8_moves_14 : decode cX8_moves 14 = .ok (.iconst 0, 1) := by decide +kernel
theorem dX8_moves_15 : decode cX8_moves 15 = .ok (.invokevirtual 55, 3) := by decide +kernel
theorem dX8_moves_18 : decode cX8_moves 18 = .ok (.iconst 1, 1) := by decide +kernel
theorem dX8_moves_19 : decode cX8_moves 19 = .ok (.if_icmp .eq 17, 3) := by decide +kernel
theorem dX8_moves_22 : decode cX8_moves 22 = .ok (.aload_n 0, 1) := by decide +kernel
theorem dX8_moves_23 : decode cX8_moves 23 = .ok (.iload_n 1, 1) := by decide +kernel
theorem dX8_moves_24 : decode cX8_moves 24 = .ok (.iconst 0, 1) := by decide +kernel
theorem dX8_moves_25 : decode cX8_moves 25 = .ok (.invokevirtual 55, 3) := by decide +kernel
theorem dX8_moves_28 : decode cX8_moves 28 = .ok (.iconst 4, 1) := by decide +kernel
theorem dX8_moves_29 : decode cX8_moves 29 = .ok (.if_icmp .eq 7, 3) := by decide +kernel
theorem dX8_moves_32 : decode cX8_moves 32 = .ok (.iconst 1, 1) := by decide +kernel
theorem dX8_moves_33 : decode cX8_moves 33 = .ok (.goto 4, 3) := by decide +kernel
theorem dX8_moves_36 : decode cX8_moves 36 = .ok (.iconst 0, 1) := by decide +kernel
theorem dX8_moves_37 : decode cX8_moves 37 = .ok (.istore_n 2, 1) := by decide +kernel
theorem dX8_moves_38 : decode cX8_moves 38 = .ok (.iconst 0, 1) := by decide +kernel
theorem dX8_moves_39 : decode cX8_moves 39 = .ok (.istore_n 3, 1) := by decide +kernel
theorem dX8_moves_40 : decode cX8_moves 40 = .ok (.iload_n 3, 1) := by decide +kernel
theorem dX8_moves_41 : decode cX8_moves 41 = .ok (.aload_n 0, 1) := by decide +kernel
theorem dX8_moves_42 : decode cX8_moves 42 = .ok (.iload_n 1, 1) := by decide +kernel
theorem dX8_moves_43 : decode cX8_moves 43 = .ok (.iconst 3, 1) := by decide +kernel
theorem dX8_moves_44 : decode cX8_moves 44 = .ok (.invokevirtual 55, 3) := by decide +kernel
theorem dX8_moves_47 : decode cX8_moves 47 = .ok (.if_icmp .ge 74, 3) := by decide +kernel
theorem dX8_moves_50 : decode cX8_moves 50 = .ok (.aload_n 0, 1) := by decide +kernel
theorem dX8_moves_51 : decode cX8_moves 51 = .ok (.iload_n 1, 1) := by decide +kernel
theorem dX8_moves_52 : decode cX8_moves 52 = .ok (.iconst 5, 1) := by decide +kernel
theorem dX8_moves_53 : decode cX8_moves 53 = .ok (.iload_n 3, 1) := by decide +kernel
theorem dX8_moves_54 : decode cX8_moves 54 = .ok (.iadd, 1) := by decide +kernel
theorem dX8_moves_55 : decode cX8_moves 55 = .ok (.invokevirtual 55, 3) := by decide +kernel
theorem dX8_moves_58 : decode cX8_moves 58 = .ok (.aload_n 0, 1) := by decide +kernel
theorem dX8_moves_59 : decode cX8_moves 59 = .ok (.iload_n 1, 1) := by decide +kernel
theorem dX8_moves_60 : decode cX8_moves 60 = .ok (.iload_n 3, 1) := by decide +kernel
theorem dX8_moves_61 : decode cX8_moves 61 = .ok (.invokevirtual 59, 3) := by decide +kernel
theorem dX8_moves_64 : decode cX8_moves 64 = .ok (.invokestatic 62, 3) := by decide +kernel
theorem dX8_moves_67 : decode cX8_moves 67 = .ok (.istore 4, 2) := by decide +kernel
theorem dX8_moves_69 : decode cX8_moves 69 = .ok (.iload 4, 2) := by decide +kernel
theorem dX8_moves_71 : decode cX8_moves 71 = .ok (.ifCond .lt 44, 3) := by decide +kernel
theorem dX8_moves_74 : decode cX8_moves 74 = .ok (.aload_n 0, 1) := by decide +kernel
theorem dX8_moves_75 : decode cX8_moves 75 = .ok (.getfield 9, 3) := by decide +kernel
theorem dX8_moves_78 : decode cX8_moves 78 = .ok (.bipush 70, 2) := by decide +kernel
theorem dX8_moves_80 : decode cX8_moves 80 = .ok (.iload 4, 2) := by decide +kernel
theorem dX8_moves_82 : decode cX8_moves 82 = .ok (.iadd, 1) := by decide +kernel
theorem dX8_moves_83 : decode cX8_moves 83 = .ok (.iaload, 1) := by decide +kernel
theorem dX8_moves_84 : decode cX8_moves 84 = .ok (.ifCond .ne 31, 3) := by decide +kernel
theorem dX8_moves_87 : decode cX8_moves 87 = .ok (.iload_n 2, 1) := by decide +kernel
theorem dX8_moves_88 : decode cX8_moves 88 = .ok (.ifCond .ne 17, 3) := by decide +kernel
theorem dX8_moves_91 : decode cX8_moves 91 = .ok (.aload_n 0, 1) := by decide +kernel
theorem dX8_moves_92 : decode cX8_moves 92 = .ok (.getfield 9, 3) := by decide +kernel
theorem dX8_moves_95 : decode cX8_moves 95 = .ok (.sipush 134, 3) := by decide +kernel
theorem dX8_moves_98 : decode cX8_moves 98 = .ok (.iload 4, 2) := by decide +kernel
theorem dX8_moves_100 : decode cX8_moves 100 = .ok (.iadd, 1) := by decide +kernel
theorem dX8_moves_101 : decode cX8_moves 101 = .ok (.iaload, 1) := by decide +kernel
theorem dX8_moves_102 : decode cX8_moves 102 = .ok (.ifCond .ne 13, 3) := by decide +kernel
theorem dX8_moves_105 : decode cX8_moves 105 = .ok (.aload_n 0, 1) := by decide +kernel
theorem dX8_moves_106 : decode cX8_moves 106 = .ok (.iload_n 1, 1) := by decide +kernel
theorem dX8_moves_107 : decode cX8_moves 107 = .ok (.iconst 5, 1) := by decide +kernel
theorem dX8_moves_108 : decode cX8_moves 108 = .ok (.iload_n 3, 1) := by decide +kernel
theorem dX8_moves_109 : decode cX8_moves 109 = .ok (.iadd, 1) := by decide +kernel
theorem dX8_moves_110 : decode cX8_moves 110 = .ok (.iload 4, 2) := by decide +kernel
theorem dX8_moves_112 : decode cX8_moves 112 = .ok (.invokevirtual 65, 3) := by decide +kernel
theorem dX8_moves_115 : decode cX8_moves 115 = .ok (.iinc 3 1, 3) := by decide +kernel
theorem dX8_moves_118 : decode cX8_moves 118 = .ok (.goto (-78), 3) := by decide +kernel
theorem dX8_moves_121 : decode cX8_moves 121 = .ok (.iinc 1 1, 3) := by decide +kernel
theorem dX8_moves_124 : decode cX8_moves 124 = .ok (.goto (-122), 3) := by decide +kernel
theorem dX8_moves_127 : decode cX8_moves 127 = .ok (.aload_n 0, 1) := by decide +kernel
theorem dX8_moves_128 : decode cX8_moves 128 = .ok (.getfield 9, 3) := by decide +kernel
theorem dX8_moves_131 : decode cX8_moves 131 = .ok (.iconst 0, 1) := by decide +kernel
theorem dX8_moves_132 : decode cX8_moves 132 = .ok (.dup2, 1) := by decide +kernel
theorem dX8_moves_133 : decode cX8_moves 133 = .ok (.iaload, 1) := by decide +kernel
theorem dX8_moves_134 : decode cX8_moves 134 = .ok (.iconst 1, 1) := by decide +kernel
theorem dX8_moves_135 : decode cX8_moves 135 = .ok (.iadd, 1) := by decide +kernel
theorem dX8_moves_136 : decode cX8_moves 136 = .ok (.iastore, 1) := by decide +kernel
theorem dX8_moves_137 : decode cX8_moves 137 = .ok (.return_, 1) := by decide +kernel
theorem dX8_postsOf_0 : decode cX8_postsOf 0 = .ok (.lconst 0, 1) := by decide +kernel
theorem dX8_postsOf_1 : decode cX8_postsOf 1 = .ok (.lstore_n 2, 1) := by decide +kernel
theorem dX8_postsOf_2 : decode cX8_postsOf 2 = .ok (.iconst 0, 1) := by decide +kernel
theorem dX8_postsOf_3 : decode cX8_postsOf 3 = .ok (.istore 4, 2) := by decide +kernel
theorem dX8_postsOf_5 : decode cX8_postsOf 5 = .ok (.iload 4, 2) := by decide +kernel
theorem dX8_postsOf_7 : decode cX8_postsOf 7 = .ok (.aload_n 0, 1) := by decide +kernel
theorem dX8_postsOf_8 : decode cX8_postsOf 8 = .ok (.iload_n 1, 1) := by decide +kernel
theorem dX8_postsOf_9 : decode cX8_postsOf 9 = .ok (.iconst 3, 1) := by decide +kernel
theorem dX8_postsOf_10 : decode cX8_postsOf 10 = .ok (.invokevirtual 55, 3) := by decide +kernel
theorem dX8_postsOf_13 : decode cX8_postsOf 13 = .ok (.if_icmp .ge 23, 3) := by decide +kernel
theorem dX8_postsOf_16 : decode cX8_postsOf 16 = .ok (.lload_n 2, 1) := by decide +kernel
theorem dX8_postsOf_17 : decode cX8_postsOf 17 = .ok (.lconst 1, 1) := by decide +kernel
theorem dX8_postsOf_18 : decode cX8_postsOf 18 = .ok (.aload_n 0, 1) := by decide +kernel
theorem dX8_postsOf_19 : decode cX8_postsOf 19 = .ok (.iload_n 1, 1) := by decide +kernel
theorem dX8_postsOf_20 : decode cX8_postsOf 20 = .ok (.iconst 5, 1) := by decide +kernel
theorem dX8_postsOf_21 : decode cX8_postsOf 21 = .ok (.iload 4, 2) := by decide +kernel
theorem dX8_postsOf_23 : decode cX8_postsOf 23 = .ok (.iadd, 1) := by decide +kernel
theorem dX8_postsOf_24 : decode cX8_postsOf 24 = .ok (.invokevirtual 55, 3) := by decide +kernel
theorem dX8_postsOf_27 : decode cX8_postsOf 27 = .ok (.lshl, 1) := by decide +kernel
theorem dX8_postsOf_28 : decode cX8_postsOf 28 = .ok (.lor, 1) := by decide +kernel
theorem dX8_postsOf_29 : decode cX8_postsOf 29 = .ok (.lstore_n 2, 1) := by decide +kernel
theorem dX8_postsOf_30 : decode cX8_postsOf 30 = .ok (.iinc 4 1, 3) := by decide +kernel
theorem dX8_postsOf_33 : decode cX8_postsOf 33 = .ok (.goto (-28), 3) := by decide +kernel
theorem dX8_postsOf_36 : decode cX8_postsOf 36 = .ok (.lload_n 2, 1) := by decide +kernel
theorem dX8_postsOf_37 : decode cX8_postsOf 37 = .ok (.lreturn, 1) := by decide +kernel
theorem dX8_beside_0 : decode cX8_beside 0 = .ok (.lload_n 0, 1) := by decide +kernel
theorem dX8_beside_1 : decode cX8_beside 1 = .ok (.bipush 8, 2) := by decide +kernel
theorem dX8_beside_3 : decode cX8_beside 3 = .ok (.lshl, 1) := by decide +kernel
theorem dX8_beside_4 : decode cX8_beside 4 = .ok (.lload_n 0, 1) := by decide +kernel
theorem dX8_beside_5 : decode cX8_beside 5 = .ok (.bipush 8, 2) := by decide +kernel
theorem dX8_beside_7 : decode cX8_beside 7 = .ok (.lushr, 1) := by decide +kernel
theorem dX8_beside_8 : decode cX8_beside 8 = .ok (.lor, 1) := by decide +kernel
theorem dX8_beside_9 : decode cX8_beside 9 = .ok (.lload_n 0, 1) := by decide +kernel
theorem dX8_beside_10 : decode cX8_beside 10 = .ok (.iconst 1, 1) := by decide +kernel
theorem dX8_beside_11 : decode cX8_beside 11 = .ok (.lshl, 1) := by decide +kernel
theorem dX8_beside_12 : decode cX8_beside 12 = .ok (.ldc2_w 69, 3) := by decide +kernel
theorem dX8_beside_15 : decode cX8_beside 15 = .ok (.land, 1) := by decide +kernel
theorem dX8_beside_16 : decode cX8_beside 16 = .ok (.lor, 1) := by decide +kernel
theorem dX8_beside_17 : decode cX8_beside 17 = .ok (.lload_n 0, 1) := by decide +kernel
theorem dX8_beside_18 : decode cX8_beside 18 = .ok (.iconst 1, 1) := by decide +kernel
theorem dX8_beside_19 : decode cX8_beside 19 = .ok (.lushr, 1) := by decide +kernel
theorem dX8_beside_20 : decode cX8_beside 20 = .ok (.ldc2_w 71, 3) := by decide +kernel
theorem dX8_beside_23 : decode cX8_beside 23 = .ok (.land, 1) := by decide +kernel
theorem dX8_beside_24 : decode cX8_beside 24 = .ok (.lor, 1) := by decide +kernel
theorem dX8_beside_25 : decode cX8_beside 25 = .ok (.lreturn, 1) := by decide +kernel
theorem dX8_insideOf_0 : decode cX8_insideOf 0 = .ok (.aload_n 0, 1) := by decide +kernel
theorem dX8_insideOf_1 : decode cX8_insideOf 1 = .ok (.iload_n 1, 1) := by decide +kernel
theorem dX8_insideOf_2 : decode cX8_insideOf 2 = .ok (.invokevirtual 73, 3) := by decide +kernel
theorem dX8_insideOf_5 : decode cX8_insideOf 5 = .ok (.ldc2_w 77, 3) := by decide +kernel
theorem dX8_insideOf_8 : decode cX8_insideOf 8 = .ok (.lxor, 1) := by decide +kernel
theorem dX8_insideOf_9 : decode cX8_insideOf 9 = .ok (.lstore_n 2, 1) := by decide +kernel
theorem dX8_insideOf_10 : decode cX8_insideOf 10 = .ok (.ldc2_w 79, 3) := by decide +kernel
theorem dX8_insideOf_13 : decode cX8_insideOf 13 = .ok (.lload_n 2, 1) := by decide +kernel
theorem dX8_insideOf_14 : decode cX8_insideOf 14 = .ok (.land, 1) := by decide +kernel
theorem dX8_insideOf_15 : decode cX8_insideOf 15 = .ok (.lstore 4, 2) := by decide +kernel
theorem dX8_insideOf_17 : decode cX8_insideOf 17 = .ok (.lconst 0, 1) := by decide +kernel
theorem dX8_insideOf_18 : decode cX8_insideOf 18 = .ok (.lstore 6, 2) := by decide +kernel
theorem dX8_insideOf_20 : decode cX8_insideOf 20 = .ok (.lload 4, 2) := by decide +kernel
theorem dX8_insideOf_22 : decode cX8_insideOf 22 = .ok (.lload 6, 2) := by decide +kernel
theorem dX8_insideOf_24 : decode cX8_insideOf 24 = .ok (.lcmp, 1) := by decide +kernel
theorem dX8_insideOf_25 : decode cX8_insideOf 25 = .ok (.ifCond .eq 22, 3) := by decide +kernel
theorem dX8_insideOf_28 : decode cX8_insideOf 28 = .ok (.lload 4, 2) := by decide +kernel
theorem dX8_insideOf_30 : decode cX8_insideOf 30 = .ok (.lstore 6, 2) := by decide +kernel
theorem dX8_insideOf_32 : decode cX8_insideOf 32 = .ok (.lload 4, 2) := by decide +kernel
theorem dX8_insideOf_34 : decode cX8_insideOf 34 = .ok (.lload 4, 2) := by decide +kernel
theorem dX8_insideOf_36 : decode cX8_insideOf 36 = .ok (.invokestatic 81, 3) := by decide +kernel
theorem dX8_insideOf_39 : decode cX8_insideOf 39 = .ok (.lload_n 2, 1) := by decide +kernel
theorem dX8_insideOf_40 : decode cX8_insideOf 40 = .ok (.land, 1) := by decide +kernel
theorem dX8_insideOf_41 : decode cX8_insideOf 41 = .ok (.lor, 1) := by decide +kernel
theorem dX8_insideOf_42 : decode cX8_insideOf 42 = .ok (.lstore 4, 2) := by decide +kernel
theorem dX8_insideOf_44 : decode cX8_insideOf 44 = .ok (.goto (-24), 3) := by decide +kernel
theorem dX8_insideOf_47 : decode cX8_insideOf 47 = .ok (.lload_n 2, 1) := by decide +kernel
theorem dX8_insideOf_48 : decode cX8_insideOf 48 = .ok (.lload 4, 2) := by decide +kernel
theorem dX8_insideOf_50 : decode cX8_insideOf 50 = .ok (.ldc2_w 77, 3) := by decide +kernel
theorem dX8_insideOf_53 : decode cX8_insideOf 53 = .ok (.lxor, 1) := by decide +kernel
theorem dX8_insideOf_54 : decode cX8_insideOf 54 = .ok (.land, 1) := by decide +kernel
theorem dX8_insideOf_55 : decode cX8_insideOf 55 = .ok (.lreturn, 1) := by decide +kernel
theorem dX8_brandOf_0 : decode cX8_brandOf 0 = .ok (.iconst 0, 1) := by decide +kernel
theorem dX8_brandOf_1 : decode cX8_brandOf 1 = .ok (.istore_n 2, 1) := by decide +kernel
theorem dX8_brandOf_2 : decode cX8_brandOf 2 = .ok (.iload_n 2, 1) := by decide +kernel
theorem dX8_brandOf_3 : decode cX8_brandOf 3 = .ok (.aload_n 0, 1) := by decide +kernel
theorem dX8_brandOf_4 : decode cX8_brandOf 4 = .ok (.getfield 9, 3) := by decide +kernel
theorem dX8_brandOf_7 : decode cX8_brandOf 7 = .ok (.iconst 2, 1) := by decide +kernel
theorem dX8_brandOf_8 : decode cX8_brandOf 8 = .ok (.iaload, 1) := by decide +kernel
theorem dX8_brandOf_9 : decode cX8_brandOf 9 = .ok (.if_icmp .ge 25, 3) := by decide +kernel
theorem dX8_brandOf_12 : decode cX8_brandOf 12 = .ok (.aload_n 0, 1) := by decide +kernel
theorem dX8_brandOf_13 : decode cX8_brandOf 13 = .ok (.iload_n 2, 1) := by decide +kernel
theorem dX8_brandOf_14 : decode cX8_brandOf 14 = .ok (.invokevirtual 85, 3) := by decide +kernel
theorem dX8_brandOf_17 : decode cX8_brandOf 17 = .ok (.iload_n 1, 1) := by decide +kernel
theorem dX8_brandOf_18 : decode cX8_brandOf 18 = .ok (.lushr, 1) := by decide +kernel
theorem dX8_brandOf_19 : decode cX8_brandOf 19 = .ok (.lconst 1, 1) := by decide +kernel
theorem dX8_brandOf_20 : decode cX8_brandOf 20 = .ok (.land, 1) := by decide +kernel
theorem dX8_brandOf_21 : decode cX8_brandOf 21 = .ok (.lconst 1, 1) := by decide +kernel
theorem dX8_brandOf_22 : decode cX8_brandOf 22 = .ok (.lcmp, 1) := by decide +kernel
theorem dX8_brandOf_23 : decode cX8_brandOf 23 = .ok (.ifCond .ne 5, 3) := by decide +kernel
theorem dX8_brandOf_26 : decode cX8_brandOf 26 = .ok (.iload_n 2, 1) := by decide +kernel
theorem dX8_brandOf_27 : decode cX8_brandOf 27 = .ok (.ireturn, 1) := by decide +kernel
theorem dX8_brandOf_28 : decode cX8_brandOf 28 = .ok (.iinc 2 1, 3) := by decide +kernel
theorem dX8_brandOf_31 : decode cX8_brandOf 31 = .ok (.goto (-29), 3) := by decide +kernel
theorem dX8_brandOf_34 : decode cX8_brandOf 34 = .ok (.iconst (-1), 1) := by decide +kernel
theorem dX8_brandOf_35 : decode cX8_brandOf 35 = .ok (.ireturn, 1) := by decide +kernel
theorem dX8_grazeOf_0 : decode cX8_grazeOf 0 = .ok (.aload_n 0, 1) := by decide +kernel
theorem dX8_grazeOf_1 : decode cX8_grazeOf 1 = .ok (.iconst 0, 1) := by decide +kernel
theorem dX8_grazeOf_2 : decode cX8_grazeOf 2 = .ok (.aload_n 0, 1) := by decide +kernel
theorem dX8_grazeOf_3 : decode cX8_grazeOf 3 = .ok (.iload_n 1, 1) := by decide +kernel
theorem dX8_grazeOf_4 : decode cX8_grazeOf 4 = .ok (.invokevirtual 85, 3) := by decide +kernel
theorem dX8_grazeOf_7 : decode cX8_grazeOf 7 = .ok (.invokestatic 88, 3) := by decide +kernel
theorem dX8_grazeOf_10 : decode cX8_grazeOf 10 = .ok (.aload_n 0, 1) := by decide +kernel
theorem dX8_grazeOf_11 : decode cX8_grazeOf 11 = .ok (.iload_n 1, 1) := by decide +kernel
theorem dX8_grazeOf_12 : decode cX8_grazeOf 12 = .ok (.iconst 3, 1) := by decide +kernel
theorem dX8_grazeOf_13 : decode cX8_grazeOf 13 = .ok (.invokevirtual 55, 3) := by decide +kernel
theorem dX8_grazeOf_16 : decode cX8_grazeOf 16 = .ok (.aload_n 0, 1) := by decide +kernel
theorem dX8_grazeOf_17 : decode cX8_grazeOf 17 = .ok (.iload_n 1, 1) := by decide +kernel
theorem dX8_grazeOf_18 : decode cX8_grazeOf 18 = .ok (.iconst 0, 1) := by decide +kernel
theorem dX8_grazeOf_19 : decode cX8_grazeOf 19 = .ok (.invokevirtual 55, 3) := by decide +kernel
theorem dX8_grazeOf_22 : decode cX8_grazeOf 22 = .ok (.invokevirtual 92, 3) := by decide +kernel
theorem dX8_grazeOf_25 : decode cX8_grazeOf 25 = .ok (.ireturn, 1) := by decide +kernel
theorem dX8_isKm_0 : decode cX8_isKm 0 = .ok (.iload_n 0, 1) := by decide +kernel
theorem dX8_isKm_1 : decode cX8_isKm 1 = .ok (.iconst 0, 1) := by decide +kernel
theorem dX8_isKm_2 : decode cX8_isKm 2 = .ok (.bipush 69, 2) := by decide +kernel
theorem dX8_isKm_4 : decode cX8_isKm 4 = .ok (.invokestatic 51, 3) := by decide +kernel
theorem dX8_isKm_7 : decode cX8_isKm 7 = .ok (.ireturn, 1) := by decide +kernel
theorem dX8_fence_0 : decode cX8_fence 0 = .ok (.iload_n 1, 1) := by decide +kernel
theorem dX8_fence_1 : decode cX8_fence 1 = .ok (.invokestatic 96, 3) := by decide +kernel
theorem dX8_fence_4 : decode cX8_fence 4 = .ok (.ifCond .eq 12, 3) := by decide +kernel
theorem dX8_fence_7 : decode cX8_fence 7 = .ok (.iload_n 2, 1) := by decide +kernel
theorem dX8_fence_8 : decode cX8_fence 8 = .ok (.iconst 0, 1) := by decide +kernel
theorem dX8_fence_9 : decode cX8_fence 9 = .ok (.iconst 3, 1) := by decide +kernel
theorem dX8_fence_10 : decode cX8_fence 10 = .ok (.invokestatic 51, 3) := by decide +kernel
theorem dX8_fence_13 : decode cX8_fence 13 = .ok (.ifCond .ne 10, 3) := by decide +kernel
theorem dX8_fence_16 : decode cX8_fence 16 = .ok (.aload_n 0, 1) := by decide +kernel
theorem dX8_fence_17 : decode cX8_fence 17 = .ok (.ldc 100, 2) := by decide +kernel
theorem dX8_fence_19 : decode cX8_fence 19 = .ok (.invokevirtual 101, 3) := by decide +kernel
theorem dX8_fence_22 : decode cX8_fence 22 = .ok (.ireturn, 1) := by decide +kernel
theorem dX8_fence_23 : decode cX8_fence 23 = .ok (.aload_n 0, 1) := by decide +kernel
theorem dX8_fence_24 : decode cX8_fence 24 = .ok (.getfield 9, 3) := by decide +kernel
theorem dX8_fence_27 : decode cX8_fence 27 = .ok (.iconst 2, 1) := by decide +kernel
theorem dX8_fence_28 : decode cX8_fence 28 = .ok (.iaload, 1) := by decide +kernel
theorem dX8_fence_29 : decode cX8_fence 29 = .ok (.istore_n 3, 1) := by decide +kernel
theorem dX8_fence_30 : decode cX8_fence 30 = .ok (.iload_n 3, 1) := by decide +kernel
theorem dX8_fence_31 : decode cX8_fence 31 = .ok (.iconst 4, 1) := by decide +kernel
theorem dX8_fence_32 : decode cX8_fence 32 = .ok (.if_icmp .ne 10, 3) := by decide +kernel
theorem dX8_fence_35 : decode cX8_fence 35 = .ok (.aload_n 0, 1) := by decide +kernel
theorem dX8_fence_36 : decode cX8_fence 36 = .ok (.ldc 105, 2) := by decide +kernel
theorem dX8_fence_38 : decode cX8_fence 38 = .ok (.invokevirtual 101, 3) := by decide +kernel
theorem dX8_fence_41 : decode cX8_fence 41 = .ok (.ireturn, 1) := by decide +kernel
theorem dX8_fence_42 : decode cX8_fence 42 = .ok (.aload_n 0, 1) := by decide +kernel
theorem dX8_fence_43 : decode cX8_fence 43 = .ok (.getfield 9, 3) := by decide +kernel
theorem dX8_fence_46 : decode cX8_fence 46 = .ok (.iconst 2, 1) := by decide +kernel
theorem dX8_fence_47 : decode cX8_fence 47 = .ok (.dup2, 1) := by decide +kernel
theorem dX8_fence_48 : decode cX8_fence 48 = .ok (.iaload, 1) := by decide +kernel
theorem dX8_fence_49 : decode cX8_fence 49 = .ok (.iconst 1, 1) := by decide +kernel
theorem dX8_fence_50 : decode cX8_fence 50 = .ok (.iadd, 1) := by decide +kernel
theorem dX8_fence_51 : decode cX8_fence 51 = .ok (.iastore, 1) := by decide +kernel
theorem dX8_fence_52 : decode cX8_fence 52 = .ok (.aload_n 0, 1) := by decide +kernel
theorem dX8_fence_53 : decode cX8_fence 53 = .ok (.iload_n 3, 1) := by decide +kernel
theorem dX8_fence_54 : decode cX8_fence 54 = .ok (.iconst 0, 1) := by decide +kernel
theorem dX8_fence_55 : decode cX8_fence 55 = .ok (.iload_n 1, 1) := by decide +kernel
theorem dX8_fence_56 : decode cX8_fence 56 = .ok (.bipush 10, 2) := by decide +kernel
theorem dX8_fence_58 : decode cX8_fence 58 = .ok (.idiv, 1) := by decide +kernel
theorem dX8_fence_59 : decode cX8_fence 59 = .ok (.invokevirtual 65, 3) := by decide +kernel
theorem dX8_fence_62 : decode cX8_fence 62 = .ok (.aload_n 0, 1) := by decide +kernel
theorem dX8_fence_63 : decode cX8_fence 63 = .ok (.iload_n 3, 1) := by decide +kernel
theorem dX8_fence_64 : decode cX8_fence 64 = .ok (.iconst 1, 1) := by decide +kernel
theorem dX8_fence_65 : decode cX8_fence 65 = .ok (.iload_n 1, 1) := by decide +kernel
theorem dX8_fence_66 : decode cX8_fence 66 = .ok (.bipush 10, 2) := by decide +kernel
theorem dX8_fence_68 : decode cX8_fence 68 = .ok (.irem, 1) := by decide +kernel
theorem dX8_fence_69 : decode cX8_fence 69 = .ok (.invokevirtual 65, 3) := by decide +kernel
theorem dX8_fence_72 : decode cX8_fence 72 = .ok (.aload_n 0, 1) := by decide +kernel
theorem dX8_fence_73 : decode cX8_fence 73 = .ok (.iload_n 3, 1) := by decide +kernel
theorem dX8_fence_74 : decode cX8_fence 74 = .ok (.iconst 2, 1) := by decide +kernel
theorem dX8_fence_75 : decode cX8_fence 75 = .ok (.iload_n 2, 1) := by decide +kernel
theorem dX8_fence_76 : decode cX8_fence 76 = .ok (.invokevirtual 65, 3) := by decide +kernel
theorem dX8_fence_79 : decode cX8_fence 79 = .ok (.aload_n 0, 1) := by decide +kernel
theorem dX8_fence_80 : decode cX8_fence 80 = .ok (.iload_n 3, 1) := by decide +kernel
theorem dX8_fence_81 : decode cX8_fence 81 = .ok (.iconst 3, 1) := by decide +kernel
theorem dX8_fence_82 : decode cX8_fence 82 = .ok (.iconst 0, 1) := by decide +kernel
theorem dX8_fence_83 : decode cX8_fence 83 = .ok (.invokevirtual 65, 3) := by decide +kernel
theorem dX8_fence_86 : decode cX8_fence 86 = .ok (.aload_n 0, 1) := by decide +kernel
theorem dX8_fence_87 : decode cX8_fence 87 = .ok (.iload_n 3, 1) := by decide +kernel
theorem dX8_fence_88 : decode cX8_fence 88 = .ok (.iconst 4, 1) := by decide +kernel
theorem dX8_fence_89 : decode cX8_fence 89 = .ok (.iconst 0, 1) := by decide +kernel
theorem dX8_fence_90 : decode cX8_fence 90 = .ok (.invokevirtual 65, 3) := by decide +kernel
theorem dX8_fence_93 : decode cX8_fence 93 = .ok (.iload_n 3, 1) := by decide +kernel
theorem dX8_fence_94 : decode cX8_fence 94 = .ok (.ireturn, 1) := by decide +kernel
theorem dX8_post_0 : decode cX8_post 0 = .ok (.aload_n 0, 1) := by decide +kernel
theorem dX8_post_1 : decode cX8_post 1 = .ok (.iload_n 1, 1) := by decide +kernel
theorem dX8_post_2 : decode cX8_post 2 = .ok (.invokevirtual 106, 3) := by decide +kernel
theorem dX8_post_5 : decode cX8_post 5 = .ok (.ifCond .eq 10, 3) := by decide +kernel
theorem dX8_post_8 : decode cX8_post 8 = .ok (.iload_n 2, 1) := by decide +kernel
theorem dX8_post_9 : decode cX8_post 9 = .ok (.invokestatic 109, 3) := by decide +kernel
theorem dX8_post_12 : decode cX8_post 12 = .ok (.ifCond .ne 10, 3) := by decide +kernel
theorem dX8_post_15 : decode cX8_post 15 = .ok (.aload_n 0, 1) := by decide +kernel
theorem dX8_post_16 : decode cX8_post 16 = .ok (.ldc 100, 2) := by decide +kernel
theorem dX8_post_18 : decode cX8_post 18 = .ok (.invokevirtual 101, 3) := by decide +kernel
theorem dX8_post_21 : decode cX8_post 21 = .ok (.ireturn, 1) := by decide +kernel
theorem dX8_post_22 : decode cX8_post 22 = .ok (.aload_n 0, 1) := by decide +kernel
theorem dX8_post_23 : decode cX8_post 23 = .ok (.iload_n 1, 1) := by decide +kernel
theorem dX8_post_24 : decode cX8_post 24 = .ok (.iconst 3, 1) := by decide +kernel
theorem dX8_post_25 : decode cX8_post 25 = .ok (.invokevirtual 55, 3) := by decide +kernel
theorem dX8_post_28 : decode cX8_post 28 = .ok (.istore_n 3, 1) := by decide +kernel
theorem dX8_post_29 : decode cX8_post 29 = .ok (.iload_n 3, 1) := by decide +kernel
theorem dX8_post_30 : decode cX8_post 30 = .ok (.bipush 8, 2) := by decide +kernel
theorem dX8_post_32 : decode cX8_post 32 = .ok (.if_icmp .ne 10, 3) := by decide +kernel
theorem dX8_post_35 : decode cX8_post 35 = .ok (.aload_n 0, 1) := by decide +kernel
theorem dX8_post_36 : decode cX8_post 36 = .ok (.ldc 105, 2) := by decide +kernel
theorem dX8_post_38 : decode cX8_post 38 = .ok (.invokevirtual 101, 3) := by decide +kernel
theorem dX8_post_41 : decode cX8_post 41 = .ok (.ireturn, 1) := by decide +kernel
theorem dX8_post_42 : decode cX8_post 42 = .ok (.aload_n 0, 1) := by decide +kernel
theorem dX8_post_43 : decode cX8_post 43 = .ok (.iload_n 1, 1) := by decide +kernel
theorem dX8_post_44 : decode cX8_post 44 = .ok (.iconst 5, 1) := by decide +kernel
theorem dX8_post_45 : decode cX8_post 45 = .ok (.iload_n 3, 1) := by decide +kernel
theorem dX8_post_46 : decode cX8_post 46 = .ok (.iadd, 1) := by decide +kernel
theorem dX8_post_47 : decode cX8_post 47 = .ok (.iload_n 2, 1) := by decide +kernel
theorem dX8_post_48 : decode cX8_post 48 = .ok (.invokevirtual 65, 3) := by decide +kernel
theorem dX8_post_51 : decode cX8_post 51 = .ok (.aload_n 0, 1) := by decide +kernel
theorem dX8_post_52 : decode cX8_post 52 = .ok (.iload_n 1, 1) := by decide +kernel
theorem dX8_post_53 : decode cX8_post 53 = .ok (.iconst 3, 1) := by decide +kernel
theorem dX8_post_54 : decode cX8_post 54 = .ok (.iload_n 3, 1) := by decide +kernel
theorem dX8_post_55 : decode cX8_post 55 = .ok (.iconst 1, 1) := by decide +kernel
theorem dX8_post_56 : decode cX8_post 56 = .ok (.iadd, 1) := by decide +kernel
theorem dX8_post_57 : decode cX8_post 57 = .ok (.invokevirtual 65, 3) := by decide +kernel
theorem dX8_post_60 : decode cX8_post 60 = .ok (.iload_n 3, 1) := by decide +kernel
theorem dX8_post_61 : decode cX8_post 61 = .ok (.iconst 1, 1) := by decide +kernel
theorem dX8_post_62 : decode cX8_post 62 = .ok (.iadd, 1) := by decide +kernel
theorem dX8_post_63 : decode cX8_post 63 = .ok (.ireturn, 1) := by decide +kernel
theorem dX8_fenceIs_0 : decode cX8_fenceIs 0 = .ok (.aload_n 0, 1) := by decide +kernel
theorem dX8_fenceIs_1 : decode cX8_fenceIs 1 = .ok (.iload_n 1, 1) := by decide +kernel
theorem dX8_fenceIs_2 : decode cX8_fenceIs 2 = .ok (.invokevirtual 106, 3) := by decide +kernel
theorem dX8_fenceIs_5 : decode cX8_fenceIs 5 = .ok (.ifCond .eq 13, 3) := by decide +kernel
theorem dX8_fenceIs_8 : decode cX8_fenceIs 8 = .ok (.iload_n 2, 1) := by decide +kernel
theorem dX8_fenceIs_9 : decode cX8_fenceIs 9 = .ok (.iconst 0, 1) := by decide +kernel
theorem dX8_fenceIs_10 : decode cX8_fenceIs 10 = .ok (.bipush 6, 2) := by decide +kernel
theorem dX8_fenceIs_12 : decode cX8_fenceIs 12 = .ok (.invokestatic 51, 3) := by decide +kernel
theorem dX8_fenceIs_15 : decode cX8_fenceIs 15 = .ok (.ifCond .ne 10, 3) := by decide +kernel
theorem dX8_fenceIs_18 : decode cX8_fenceIs 18 = .ok (.aload_n 0, 1) := by decide +kernel
theorem dX8_fenceIs_19 : decode cX8_fenceIs 19 = .ok (.ldc 100, 2) := by decide +kernel
theorem dX8_fenceIs_21 : decode cX8_fenceIs 21 = .ok (.invokevirtual 101, 3) := by decide +kernel
theorem dX8_fenceIs_24 : decode cX8_fenceIs 24 = .ok (.ireturn, 1) := by decide +kernel
theorem dX8_fenceIs_25 : decode cX8_fenceIs 25 = .ok (.iload_n 2, 1) := by decide +kernel
theorem dX8_fenceIs_26 : decode cX8_fenceIs 26 = .ok (.iconst 5, 1) := by decide +kernel
theorem dX8_fenceIs_27 : decode cX8_fenceIs 27 = .ok (.if_icmp .ge 12, 3) := by decide +kernel
theorem dX8_fenceIs_30 : decode cX8_fenceIs 30 = .ok (.aload_n 0, 1) := by decide +kernel
theorem dX8_fenceIs_31 : decode cX8_fenceIs 31 = .ok (.iload_n 1, 1) := by decide +kernel
theorem dX8_fenceIs_32 : decode cX8_fenceIs 32 = .ok (.iload_n 2, 1) := by decide +kernel
theorem dX8_fenceIs_33 : decode cX8_fenceIs 33 = .ok (.invokevirtual 55, 3) := by decide +kernel
theorem dX8_fenceIs_36 : decode cX8_fenceIs 36 = .ok (.goto 24, 3) := by decide +kernel
theorem dX8_fenceIs_39 : decode cX8_fenceIs 39 = .ok (.iload_n 2, 1) := by decide +kernel
theorem dX8_fenceIs_40 : decode cX8_fenceIs 40 = .ok (.iconst 5, 1) := by decide +kernel
theorem dX8_fenceIs_41 : decode cX8_fenceIs 41 = .ok (.if_icmp .ne 14, 3) := by decide +kernel
theorem dX8_fenceIs_44 : decode cX8_fenceIs 44 = .ok (.aload_n 0, 1) := by decide +kernel
theorem dX8_fenceIs_45 : decode cX8_fenceIs 45 = .ok (.iload_n 1, 1) := by decide +kernel
theorem dX8_fenceIs_46 : decode cX8_fenceIs 46 = .ok (.invokevirtual 85, 3) := by decide +kernel
theorem dX8_fenceIs_49 : decode cX8_fenceIs 49 = .ok (.invokestatic 88, 3) := by decide +kernel
theorem dX8_fenceIs_52 : decode cX8_fenceIs 52 = .ok (.goto 8, 3) := by decide +kernel
theorem dX8_fenceIs_55 : decode cX8_fenceIs 55 = .ok (.aload_n 0, 1) := by decide +kernel
theorem dX8_fenceIs_56 : decode cX8_fenceIs 56 = .ok (.iload_n 1, 1) := by decide +kernel
theorem dX8_fenceIs_57 : decode cX8_fenceIs 57 = .ok (.invokevirtual 112, 3) := by decide +kernel
theorem dX8_fenceIs_60 : decode cX8_fenceIs 60 = .ok (.ireturn, 1) := by decide +kernel
theorem dX8_isPost_0 : decode cX8_isPost 0 = .ok (.aload_n 0, 1) := by decide +kernel
theorem dX8_isPost_1 : decode cX8_isPost 1 = .ok (.iload_n 1, 1) := by decide +kernel
theorem dX8_isPost_2 : decode cX8_isPost 2 = .ok (.invokevirtual 106, 3) := by decide +kernel
theorem dX8_isPost_5 : decode cX8_isPost 5 = .ok (.ifCond .eq 23, 3) := by decide +kernel
theorem dX8_isPost_8 : decode cX8_isPost 8 = .ok (.iload_n 2, 1) := by decide +kernel
theorem dX8_isPost_9 : decode cX8_isPost 9 = .ok (.iconst 0, 1) := by decide +kernel
theorem dX8_isPost_10 : decode cX8_isPost 10 = .ok (.aload_n 0, 1) := by decide +kernel
theorem dX8_isPost_11 : decode cX8_isPost 11 = .ok (.iload_n 1, 1) := by decide +kernel
theorem dX8_isPost_12 : decode cX8_isPost 12 = .ok (.iconst 3, 1) := by decide +kernel
theorem dX8_isPost_13 : decode cX8_isPost 13 = .ok (.invokevirtual 55, 3) := by decide +kernel
theorem dX8_isPost_16 : decode cX8_isPost 16 = .ok (.iconst 1, 1) := by decide +kernel
theorem dX8_isPost_17 : decode cX8_isPost 17 = .ok (.isub, 1) := by decide +kernel
theorem dX8_isPost_18 : decode cX8_isPost 18 = .ok (.invokestatic 51, 3) := by decide +kernel
theorem dX8_isPost_21 : decode cX8_isPost 21 = .ok (.ifCond .eq 7, 3) := by decide +kernel
theorem dX8_isPost_24 : decode cX8_isPost 24 = .ok (.iconst 1, 1) := by decide +kernel
theorem dX8_isPost_25 : decode cX8_isPost 25 = .ok (.goto 4, 3) := by decide +kernel
theorem dX8_isPost_28 : decode cX8_isPost 28 = .ok (.iconst 0, 1) := by decide +kernel
theorem dX8_isPost_29 : decode cX8_isPost 29 = .ok (.ireturn, 1) := by decide +kernel
theorem dX8_at_0 : decode cX8_at 0 = .ok (.aload_n 0, 1) := by decide +kernel
theorem dX8_at_1 : decode cX8_at 1 = .ok (.iload_n 1, 1) := by decide +kernel
theorem dX8_at_2 : decode cX8_at 2 = .ok (.iload_n 2, 1) := by decide +kernel
theorem dX8_at_3 : decode cX8_at 3 = .ok (.invokevirtual 115, 3) := by decide +kernel
theorem dX8_at_6 : decode cX8_at 6 = .ok (.ifCond .eq 14, 3) := by decide +kernel
theorem dX8_at_9 : decode cX8_at 9 = .ok (.aload_n 0, 1) := by decide +kernel
theorem dX8_at_10 : decode cX8_at 10 = .ok (.iload_n 1, 1) := by decide +kernel
theorem dX8_at_11 : decode cX8_at 11 = .ok (.iconst 5, 1) := by decide +kernel
theorem dX8_at_12 : decode cX8_at 12 = .ok (.iload_n 2, 1) := by decide +kernel
theorem dX8_at_13 : decode cX8_at 13 = .ok (.iadd, 1) := by decide +kernel
theorem dX8_at_14 : decode cX8_at 14 = .ok (.invokevirtual 55, 3) := by decide +kernel
theorem dX8_at_17 : decode cX8_at 17 = .ok (.goto 9, 3) := by decide +kernel
theorem dX8_at_20 : decode cX8_at 20 = .ok (.aload_n 0, 1) := by decide +kernel
theorem dX8_at_21 : decode cX8_at 21 = .ok (.ldc 100, 2) := by decide +kernel
theorem dX8_at_23 : decode cX8_at 23 = .ok (.invokevirtual 101, 3) := by decide +kernel
theorem dX8_at_26 : decode cX8_at 26 = .ok (.ireturn, 1) := by decide +kernel
theorem dX8_heads_0 : decode cX8_heads 0 = .ok (.aload_n 0, 1) := by decide +kernel
theorem dX8_heads_1 : decode cX8_heads 1 = .ok (.iload_n 1, 1) := by decide +kernel
theorem dX8_heads_2 : decode cX8_heads 2 = .ok (.iload_n 2, 1) := by decide +kernel
theorem dX8_heads_3 : decode cX8_heads 3 = .ok (.invokevirtual 115, 3) := by decide +kernel
theorem dX8_heads_6 : decode cX8_heads 6 = .ok (.ifCond .eq 12, 3) := by decide +kernel
theorem dX8_heads_9 : decode cX8_heads 9 = .ok (.aload_n 0, 1) := by decide +kernel
theorem dX8_heads_10 : decode cX8_heads 10 = .ok (.iload_n 1, 1) := by decide +kernel
theorem dX8_heads_11 : decode cX8_heads 11 = .ok (.iload_n 2, 1) := by decide +kernel
theorem dX8_heads_12 : decode cX8_heads 12 = .ok (.invokevirtual 59, 3) := by decide +kernel
theorem dX8_heads_15 : decode cX8_heads 15 = .ok (.goto 9, 3) := by decide +kernel
theorem dX8_heads_18 : decode cX8_heads 18 = .ok (.aload_n 0, 1) := by decide +kernel
theorem dX8_heads_19 : decode cX8_heads 19 = .ok (.ldc 100, 2) := by decide +kernel
theorem dX8_heads_21 : decode cX8_heads 21 = .ok (.invokevirtual 101, 3) := by decide +kernel
theorem dX8_heads_24 : decode cX8_heads 24 = .ok (.ireturn, 1) := by decide +kernel
theorem dX8_become_0 : decode cX8_become 0 = .ok (.aload_n 0, 1) := by decide +kernel
theorem dX8_become_1 : decode cX8_become 1 = .ok (.iload_n 1, 1) := by decide +kernel
theorem dX8_become_2 : decode cX8_become 2 = .ok (.invokevirtual 106, 3) := by decide +kernel
theorem dX8_become_5 : decode cX8_become 5 = .ok (.ifCond .eq 10, 3) := by decide +kernel
theorem dX8_become_8 : decode cX8_become 8 = .ok (.iload_n 2, 1) := by decide +kernel
theorem dX8_become_9 : decode cX8_become 9 = .ok (.invokestatic 96, 3) := by decide +kernel
theorem dX8_become_12 : decode cX8_become 12 = .ok (.ifCond .ne 10, 3) := by decide +kernel
theorem dX8_become_15 : decode cX8_become 15 = .ok (.aload_n 0, 1) := by decide +kernel
theorem dX8_become_16 : decode cX8_become 16 = .ok (.ldc 100, 2) := by decide +kernel
theorem dX8_become_18 : decode cX8_become 18 = .ok (.invokevirtual 101, 3) := by decide +kernel
theorem dX8_become_21 : decode cX8_become 21 = .ok (.ireturn, 1) := by decide +kernel
theorem dX8_become_22 : decode cX8_become 22 = .ok (.aload_n 0, 1) := by decide +kernel
theorem dX8_become_23 : decode cX8_become 23 = .ok (.iload_n 1, 1) := by decide +kernel
theorem dX8_become_24 : decode cX8_become 24 = .ok (.iconst 1, 1) := by decide +kernel
theorem dX8_become_25 : decode cX8_become 25 = .ok (.iload_n 2, 1) := by decide +kernel
theorem dX8_become_26 : decode cX8_become 26 = .ok (.bipush 10, 2) := by decide +kernel
theorem dX8_become_28 : decode cX8_become 28 = .ok (.irem, 1) := by decide +kernel
theorem dX8_become_29 : decode cX8_become 29 = .ok (.invokevirtual 65, 3) := by decide +kernel
theorem dX8_become_32 : decode cX8_become 32 = .ok (.aload_n 0, 1) := by decide +kernel
theorem dX8_become_33 : decode cX8_become 33 = .ok (.bipush 6, 2) := by decide +kernel
theorem dX8_become_35 : decode cX8_become 35 = .ok (.bipush 13, 2) := by decide +kernel
theorem dX8_become_37 : decode cX8_become 37 = .ok (.iload_n 1, 1) := by decide +kernel
theorem dX8_become_38 : decode cX8_become 38 = .ok (.imul, 1) := by decide +kernel
theorem dX8_become_39 : decode cX8_become 39 = .ok (.iadd, 1) := by decide +kernel
theorem dX8_become_40 : decode cX8_become 40 = .ok (.iload_n 2, 1) := by decide +kernel
theorem dX8_become_41 : decode cX8_become 41 = .ok (.bipush 10, 2) := by decide +kernel
theorem dX8_become_43 : decode cX8_become 43 = .ok (.idiv, 1) := by decide +kernel
theorem dX8_become_44 : decode cX8_become 44 = .ok (.invokevirtual 119, 3) := by decide +kernel
theorem dX8_become_47 : decode cX8_become 47 = .ok (.ireturn, 1) := by decide +kernel
theorem dX8_as_0 : decode cX8_as 0 = .ok (.aload_n 0, 1) := by decide +kernel
theorem dX8_as_1 : decode cX8_as 1 = .ok (.iload_n 1, 1) := by decide +kernel
theorem dX8_as_2 : decode cX8_as 2 = .ok (.invokevirtual 106, 3) := by decide +kernel
theorem dX8_as_5 : decode cX8_as 5 = .ok (.ifCond .eq 13, 3) := by decide +kernel
theorem dX8_as_8 : decode cX8_as 8 = .ok (.iload_n 2, 1) := by decide +kernel
theorem dX8_as_9 : decode cX8_as 9 = .ok (.iconst 0, 1) := by decide +kernel
theorem dX8_as_10 : decode cX8_as 10 = .ok (.bipush 6, 2) := by decide +kernel
theorem dX8_as_12 : decode cX8_as 12 = .ok (.invokestatic 51, 3) := by decide +kernel
theorem dX8_as_15 : decode cX8_as 15 = .ok (.ifCond .ne 10, 3) := by decide +kernel
theorem dX8_as_18 : decode cX8_as 18 = .ok (.aload_n 0, 1) := by decide +kernel
theorem dX8_as_19 : decode cX8_as 19 = .ok (.ldc 100, 2) := by decide +kernel
theorem dX8_as_21 : decode cX8_as 21 = .ok (.invokevirtual 101, 3) := by decide +kernel
theorem dX8_as_24 : decode cX8_as 24 = .ok (.ireturn, 1) := by decide +kernel
theorem dX8_as_25 : decode cX8_as 25 = .ok (.aload_n 0, 1) := by decide +kernel
theorem dX8_as_26 : decode cX8_as 26 = .ok (.iload_n 1, 1) := by decide +kernel
theorem dX8_as_27 : decode cX8_as 27 = .ok (.iconst 0, 1) := by decide +kernel
theorem dX8_as_28 : decode cX8_as 28 = .ok (.invokevirtual 55, 3) := by decide +kernel
theorem dX8_as_31 : decode cX8_as 31 = .ok (.istore_n 3, 1) := by decide +kernel
theorem dX8_as_32 : decode cX8_as 32 = .ok (.iload_n 2, 1) := by decide +kernel
theorem dX8_as_33 : decode cX8_as 33 = .ok (.ifCond .eq 28, 3) := by decide +kernel
theorem dX8_as_36 : decode cX8_as 36 = .ok (.iload_n 2, 1) := by decide +kernel
theorem dX8_as_37 : decode cX8_as 37 = .ok (.iload_n 3, 1) := by decide +kernel
theorem dX8_as_38 : decode cX8_as 38 = .ok (.if_icmp .eq 23, 3) := by decide +kernel
theorem dX8_as_41 : decode cX8_as 41 = .ok (.iload_n 2, 1) := by decide +kernel
theorem dX8_as_42 : decode cX8_as 42 = .ok (.iconst 1, 1) := by decide +kernel
theorem dX8_as_43 : decode cX8_as 43 = .ok (.if_icmp .ne 8, 3) := by decide +kernel
theorem dX8_as_46 : decode cX8_as 46 = .ok (.iload_n 3, 1) := by decide +kernel
theorem dX8_as_47 : decode cX8_as 47 = .ok (.iconst 4, 1) := by decide +kernel
theorem dX8_as_48 : decode cX8_as 48 = .ok (.if_icmp .eq 13, 3) := by decide +kernel
theorem dX8_as_51 : decode cX8_as 51 = .ok (.iload_n 2, 1) := by decide +kernel
theorem dX8_as_52 : decode cX8_as 52 = .ok (.iconst 2, 1) := by decide +kernel
theorem dX8_as_53 : decode cX8_as 53 = .ok (.if_icmp .ne 12, 3) := by decide +kernel
theorem dX8_as_56 : decode cX8_as 56 = .ok (.iload_n 3, 1) := by decide +kernel
theorem dX8_as_57 : decode cX8_as 57 = .ok (.iconst 5, 1) := by decide +kernel
theorem dX8_as_58 : decode cX8_as 58 = .ok (.if_icmp .ne 7, 3) := by decide +kernel
theorem dX8_as_61 : decode cX8_as 61 = .ok (.iconst 1, 1) := by decide +kernel
theorem dX8_as_62 : decode cX8_as 62 = .ok (.goto 4, 3) := by decide +kernel
theorem dX8_as_65 : decode cX8_as 65 = .ok (.iconst 0, 1) := by decide +kernel
theorem dX8_as_66 : decode cX8_as 66 = .ok (.istore 4, 2) := by decide +kernel
theorem dX8_as_68 : decode cX8_as 68 = .ok (.iload 4, 2) := by decide +kernel
theorem dX8_as_70 : decode cX8_as 70 = .ok (.ifCond .eq 12, 3) := by decide +kernel
theorem dX8_as_73 : decode cX8_as 73 = .ok (.aload_n 0, 1) := by decide +kernel
theorem dX8_as_74 : decode cX8_as 74 = .ok (.iload_n 1, 1) := by decide +kernel
theorem dX8_as_75 : decode cX8_as 75 = .ok (.iconst 1, 1) := by decide +kernel
theorem dX8_as_76 : decode cX8_as 76 = .ok (.invokevirtual 55, 3) := by decide +kernel
theorem dX8_as_79 : decode cX8_as 79 = .ok (.goto 9, 3) := by decide +kernel
theorem dX8_as_82 : decode cX8_as 82 = .ok (.aload_n 0, 1) := by decide +kernel
theorem dX8_as_83 : decode cX8_as 83 = .ok (.ldc 122, 2) := by decide +kernel
theorem dX8_as_85 : decode cX8_as 85 = .ok (.invokevirtual 101, 3) := by decide +kernel
theorem dX8_as_88 : decode cX8_as 88 = .ok (.ireturn, 1) := by decide +kernel
theorem dX8_turn_0 : decode cX8_turn 0 = .ok (.aload_n 0, 1) := by decide +kernel
theorem dX8_turn_1 : decode cX8_turn 1 = .ok (.iload_n 1, 1) := by decide +kernel
theorem dX8_turn_2 : decode cX8_turn 2 = .ok (.invokevirtual 106, 3) := by decide +kernel
theorem dX8_turn_5 : decode cX8_turn 5 = .ok (.ifCond .eq 29, 3) := by decide +kernel
theorem dX8_turn_8 : decode cX8_turn 8 = .ok (.iload_n 2, 1) := by decide +kernel
theorem dX8_turn_9 : decode cX8_turn 9 = .ok (.iconst 0, 1) := by decide +kernel
theorem dX8_turn_10 : decode cX8_turn 10 = .ok (.iconst 3, 1) := by decide +kernel
theorem dX8_turn_11 : decode cX8_turn 11 = .ok (.invokestatic 51, 3) := by decide +kernel
theorem dX8_turn_14 : decode cX8_turn 14 = .ok (.ifCond .eq 20, 3) := by decide +kernel
theorem dX8_turn_17 : decode cX8_turn 17 = .ok (.aload_n 0, 1) := by decide +kernel
theorem dX8_turn_18 : decode cX8_turn 18 = .ok (.bipush 6, 2) := by decide +kernel
theorem dX8_turn_20 : decode cX8_turn 20 = .ok (.bipush 13, 2) := by decide +kernel
theorem dX8_turn_22 : decode cX8_turn 22 = .ok (.iload_n 1, 1) := by decide +kernel
theorem dX8_turn_23 : decode cX8_turn 23 = .ok (.imul, 1) := by decide +kernel
theorem dX8_turn_24 : decode cX8_turn 24 = .ok (.iadd, 1) := by decide +kernel
theorem dX8_turn_25 : decode cX8_turn 25 = .ok (.iconst 2, 1) := by decide +kernel
theorem dX8_turn_26 : decode cX8_turn 26 = .ok (.iadd, 1) := by decide +kernel
theorem dX8_turn_27 : decode cX8_turn 27 = .ok (.iload_n 2, 1) := by decide +kernel
theorem dX8_turn_28 : decode cX8_turn 28 = .ok (.invokevirtual 119, 3) := by decide +kernel
theorem dX8_turn_31 : decode cX8_turn 31 = .ok (.goto 9, 3) := by decide +kernel
theorem dX8_turn_34 : decode cX8_turn 34 = .ok (.aload_n 0, 1) := by decide +kernel
theorem dX8_turn_35 : decode cX8_turn 35 = .ok (.ldc 100, 2) := by decide +kernel
theorem dX8_turn_37 : decode cX8_turn 37 = .ok (.invokevirtual 101, 3) := by decide +kernel
theorem dX8_turn_40 : decode cX8_turn 40 = .ok (.ireturn, 1) := by decide +kernel
theorem dX8_cut_0 : decode cX8_cut 0 = .ok (.aload_n 0, 1) := by decide +kernel
theorem dX8_cut_1 : decode cX8_cut 1 = .ok (.iload_n 1, 1) := by decide +kernel
theorem dX8_cut_2 : decode cX8_cut 2 = .ok (.invokevirtual 106, 3) := by decide +kernel
theorem dX8_cut_5 : decode cX8_cut 5 = .ok (.ifCond .ne 10, 3) := by decide +kernel
theorem dX8_cut_8 : decode cX8_cut 8 = .ok (.aload_n 0, 1) := by decide +kernel
theorem dX8_cut_9 : decode cX8_cut 9 = .ok (.ldc 100, 2) := by decide +kernel
theorem dX8_cut_11 : decode cX8_cut 11 = .ok (.invokevirtual 101, 3) := by decide +kernel
theorem dX8_cut_14 : decode cX8_cut 14 = .ok (.ireturn, 1) := by decide +kernel
theorem dX8_cut_15 : decode cX8_cut 15 = .ok (.aload_n 0, 1) := by decide +kernel
theorem dX8_cut_16 : decode cX8_cut 16 = .ok (.iload_n 1, 1) := by decide +kernel
theorem dX8_cut_17 : decode cX8_cut 17 = .ok (.iconst 3, 1) := by decide +kernel
theorem dX8_cut_18 : decode cX8_cut 18 = .ok (.invokevirtual 55, 3) := by decide +kernel
theorem dX8_cut_21 : decode cX8_cut 21 = .ok (.istore_n 2, 1) := by decide +kernel
theorem dX8_cut_22 : decode cX8_cut 22 = .ok (.iload_n 2, 1) := by decide +kernel
theorem dX8_cut_23 : decode cX8_cut 23 = .ok (.ifCond .ne 10, 3) := by decide +kernel
theorem dX8_cut_26 : decode cX8_cut 26 = .ok (.aload_n 0, 1) := by decide +kernel
theorem dX8_cut_27 : decode cX8_cut 27 = .ok (.ldc 123, 2) := by decide +kernel
theorem dX8_cut_29 : decode cX8_cut 29 = .ok (.invokevirtual 101, 3) := by decide +kernel
theorem dX8_cut_32 : decode cX8_cut 32 = .ok (.ireturn, 1) := by decide +kernel
theorem dX8_cut_33 : decode cX8_cut 33 = .ok (.aload_n 0, 1) := by decide +kernel
theorem dX8_cut_34 : decode cX8_cut 34 = .ok (.iload_n 1, 1) := by decide +kernel
theorem dX8_cut_35 : decode cX8_cut 35 = .ok (.iconst 3, 1) := by decide +kernel
theorem dX8_cut_36 : decode cX8_cut 36 = .ok (.iload_n 2, 1) := by decide +kernel
theorem dX8_cut_37 : decode cX8_cut 37 = .ok (.iconst 1, 1) := by decide +kernel
theorem dX8_cut_38 : decode cX8_cut 38 = .ok (.isub, 1) := by decide +kernel
theorem dX8_cut_39 : decode cX8_cut 39 = .ok (.invokevirtual 65, 3) := by decide +kernel
theorem dX8_cut_42 : decode cX8_cut 42 = .ok (.iload_n 2, 1) := by decide +kernel
theorem dX8_cut_43 : decode cX8_cut 43 = .ok (.iconst 1, 1) := by decide +kernel
theorem dX8_cut_44 : decode cX8_cut 44 = .ok (.isub, 1) := by decide +kernel
theorem dX8_cut_45 : decode cX8_cut 45 = .ok (.ireturn, 1) := by decide +kernel
theorem dX8_lay_0 : decode cX8_lay 0 = .ok (.iload_n 1, 1) := by decide +kernel
theorem dX8_lay_1 : decode cX8_lay 1 = .ok (.iconst 0, 1) := by decide +kernel
theorem dX8_lay_2 : decode cX8_lay 2 = .ok (.iconst 1, 1) := by decide +kernel
theorem dX8_lay_3 : decode cX8_lay 3 = .ok (.invokestatic 51, 3) := by decide +kernel
theorem dX8_lay_6 : decode cX8_lay 6 = .ok (.ifCond .eq 23, 3) := by decide +kernel
theorem dX8_lay_9 : decode cX8_lay 9 = .ok (.iload_n 2, 1) := by decide +kernel
theorem dX8_lay_10 : decode cX8_lay 10 = .ok (.invokestatic 109, 3) := by decide +kernel
theorem dX8_lay_13 : decode cX8_lay 13 = .ok (.ifCond .eq 16, 3) := by decide +kernel
theorem dX8_lay_16 : decode cX8_lay 16 = .ok (.iload_n 3, 1) := by decide +kernel
theorem dX8_lay_17 : decode cX8_lay 17 = .ok (.iconst 0, 1) := by decide +kernel
theorem dX8_lay_18 : decode cX8_lay 18 = .ok (.iconst 1, 1) := by decide +kernel
theorem dX8_lay_19 : decode cX8_lay 19 = .ok (.invokestatic 51, 3) := by decide +kernel
theorem dX8_lay_22 : decode cX8_lay 22 = .ok (.ifCond .eq 7, 3) := by decide +kernel
theorem dX8_lay_25 : decode cX8_lay 25 = .ok (.iconst 1, 1) := by decide +kernel
theorem dX8_lay_26 : decode cX8_lay 26 = .ok (.goto 4, 3) := by decide +kernel
theorem dX8_lay_29 : decode cX8_lay 29 = .ok (.iconst 0, 1) := by decide +kernel
theorem dX8_lay_30 : decode cX8_lay 30 = .ok (.istore 4, 2) := by decide +kernel
theorem dX8_lay_32 : decode cX8_lay 32 = .ok (.iload 4, 2) := by decide +kernel
theorem dX8_lay_34 : decode cX8_lay 34 = .ok (.ifCond .eq 25, 3) := by decide +kernel
theorem dX8_lay_37 : decode cX8_lay 37 = .ok (.aload_n 0, 1) := by decide +kernel
theorem dX8_lay_38 : decode cX8_lay 38 = .ok (.iload_n 1, 1) := by decide +kernel
theorem dX8_lay_39 : decode cX8_lay 39 = .ok (.ifCond .ne 8, 3) := by decide +kernel
theorem dX8_lay_42 : decode cX8_lay 42 = .ok (.bipush 70, 2) := by decide +kernel
theorem dX8_lay_44 : decode cX8_lay 44 = .ok (.goto 6, 3) := by decide +kernel
theorem dX8_lay_47 : decode cX8_lay 47 = .ok (.sipush 134, 3) := by decide +kernel
theorem dX8_lay_50 : decode cX8_lay 50 = .ok (.iload_n 2, 1) := by decide +kernel
theorem dX8_lay_51 : decode cX8_lay 51 = .ok (.iadd, 1) := by decide +kernel
theorem dX8_lay_52 : decode cX8_lay 52 = .ok (.iload_n 3, 1) := by decide +kernel
theorem dX8_lay_53 : decode cX8_lay 53 = .ok (.invokevirtual 119, 3) := by decide +kernel
theorem dX8_lay_56 : decode cX8_lay 56 = .ok (.goto 9, 3) := by decide +kernel
theorem dX8_lay_59 : decode cX8_lay 59 = .ok (.aload_n 0, 1) := by decide +kernel
theorem dX8_lay_60 : decode cX8_lay 60 = .ok (.ldc 100, 2) := by decide +kernel
theorem dX8_lay_62 : decode cX8_lay 62 = .ok (.invokevirtual 101, 3) := by decide +kernel
theorem dX8_lay_65 : decode cX8_lay 65 = .ok (.ireturn, 1) := by decide +kernel
theorem dX8_cow_0 : decode cX8_cow 0 = .ok (.iload_n 1, 1) := by decide +kernel
theorem dX8_cow_1 : decode cX8_cow 1 = .ok (.invokestatic 109, 3) := by decide +kernel
theorem dX8_cow_4 : decode cX8_cow 4 = .ok (.ifCond .ne 10, 3) := by decide +kernel
theorem dX8_cow_7 : decode cX8_cow 7 = .ok (.aload_n 0, 1) := by decide +kernel
theorem dX8_cow_8 : decode cX8_cow 8 = .ok (.ldc 100, 2) := by decide +kernel
theorem dX8_cow_10 : decode cX8_cow 10 = .ok (.invokevirtual 101, 3) := by decide +kernel
theorem dX8_cow_13 : decode cX8_cow 13 = .ok (.ireturn, 1) := by decide +kernel
theorem dX8_cow_14 : decode cX8_cow 14 = .ok (.aload_n 0, 1) := by decide +kernel
theorem dX8_cow_15 : decode cX8_cow 15 = .ok (.getfield 9, 3) := by decide +kernel
theorem dX8_cow_18 : decode cX8_cow 18 = .ok (.iconst 3, 1) := by decide +kernel
theorem dX8_cow_19 : decode cX8_cow 19 = .ok (.iaload, 1) := by decide +kernel
theorem dX8_cow_20 : decode cX8_cow 20 = .ok (.istore_n 2, 1) := by decide +kernel
theorem dX8_cow_21 : decode cX8_cow 21 = .ok (.iload_n 2, 1) := by decide +kernel
theorem dX8_cow_22 : decode cX8_cow 22 = .ok (.bipush 6, 2) := by decide +kernel
theorem dX8_cow_24 : decode cX8_cow 24 = .ok (.if_icmp .ne 10, 3) := by decide +kernel
theorem dX8_cow_27 : decode cX8_cow 27 = .ok (.aload_n 0, 1) := by decide +kernel
theorem dX8_cow_28 : decode cX8_cow 28 = .ok (.ldc 105, 2) := by decide +kernel
theorem dX8_cow_30 : decode cX8_cow 30 = .ok (.invokevirtual 101, 3) := by decide +kernel
theorem dX8_cow_33 : decode cX8_cow 33 = .ok (.ireturn, 1) := by decide +kernel
theorem dX8_cow_34 : decode cX8_cow 34 = .ok (.aload_n 0, 1) := by decide +kernel
theorem dX8_cow_35 : decode cX8_cow 35 = .ok (.getfield 9, 3) := by decide +kernel
theorem dX8_cow_38 : decode cX8_cow 38 = .ok (.iconst 3, 1) := by decide +kernel
theorem dX8_cow_39 : decode cX8_cow 39 = .ok (.dup2, 1) := by decide +kernel
theorem dX8_cow_40 : decode cX8_cow 40 = .ok (.iaload, 1) := by decide +kernel
theorem dX8_cow_41 : decode cX8_cow 41 = .ok (.iconst 1, 1) := by decide +kernel
theorem dX8_cow_42 : decode cX8_cow 42 = .ok (.iadd, 1) := by decide +kernel
theorem dX8_cow_43 : decode cX8_cow 43 = .ok (.iastore, 1) := by decide +kernel
theorem dX8_cow_44 : decode cX8_cow 44 = .ok (.aload_n 0, 1) := by decide +kernel
theorem dX8_cow_45 : decode cX8_cow 45 = .ok (.getfield 9, 3) := by decide +kernel
theorem dX8_cow_48 : decode cX8_cow 48 = .ok (.bipush 58, 2) := by decide +kernel
theorem dX8_cow_50 : decode cX8_cow 50 = .ok (.iconst 2, 1) := by decide +kernel
theorem dX8_cow_51 : decode cX8_cow 51 = .ok (.iload_n 2, 1) := by decide +kernel
theorem dX8_cow_52 : decode cX8_cow 52 = .ok (.imul, 1) := by decide +kernel
theorem dX8_cow_53 : decode cX8_cow 53 = .ok (.iadd, 1) := by decide +kernel
theorem dX8_cow_54 : decode cX8_cow 54 = .ok (.iload_n 1, 1) := by decide +kernel
theorem dX8_cow_55 : decode cX8_cow 55 = .ok (.iastore, 1) := by decide +kernel
theorem dX8_cow_56 : decode cX8_cow 56 = .ok (.aload_n 0, 1) := by decide +kernel
theorem dX8_cow_57 : decode cX8_cow 57 = .ok (.getfield 9, 3) := by decide +kernel
theorem dX8_cow_60 : decode cX8_cow 60 = .ok (.bipush 58, 2) := by decide +kernel
theorem dX8_cow_62 : decode cX8_cow 62 = .ok (.iconst 2, 1) := by decide +kernel
theorem dX8_cow_63 : decode cX8_cow 63 = .ok (.iload_n 2, 1) := by decide +kernel
theorem dX8_cow_64 : decode cX8_cow 64 = .ok (.imul, 1) := by decide +kernel
theorem dX8_cow_65 : decode cX8_cow 65 = .ok (.iadd, 1) := by decide +kernel
theorem dX8_cow_66 : decode cX8_cow 66 = .ok (.iconst 1, 1) := by decide +kernel
theorem dX8_cow_67 : decode cX8_cow 67 = .ok (.iadd, 1) := by decide +kernel
theorem dX8_cow_68 : decode cX8_cow 68 = .ok (.iconst 0, 1) := by decide +kernel
theorem dX8_cow_69 : decode cX8_cow 69 = .ok (.iastore, 1) := by decide +kernel
theorem dX8_cow_70 : decode cX8_cow 70 = .ok (.iload_n 2, 1) := by decide +kernel
theorem dX8_cow_71 : decode cX8_cow 71 = .ok (.ireturn, 1) := by decide +kernel
theorem dX8_cowIs_0 : decode cX8_cowIs 0 = .ok (.aload_n 0, 1) := by decide +kernel
theorem dX8_cowIs_1 : decode cX8_cowIs 1 = .ok (.iload_n 1, 1) := by decide +kernel
theorem dX8_cowIs_2 : decode cX8_cowIs 2 = .ok (.invokevirtual 124, 3) := by decide +kernel
theorem dX8_cowIs_5 : decode cX8_cowIs 5 = .ok (.ifCond .eq 12, 3) := by decide +kernel
theorem dX8_cowIs_8 : decode cX8_cowIs 8 = .ok (.iload_n 2, 1) := by decide +kernel
theorem dX8_cowIs_9 : decode cX8_cowIs 9 = .ok (.iconst 0, 1) := by decide +kernel
theorem dX8_cowIs_10 : decode cX8_cowIs 10 = .ok (.iconst 2, 1) := by decide +kernel
theorem dX8_cowIs_11 : decode cX8_cowIs 11 = .ok (.invokestatic 51, 3) := by decide +kernel
theorem dX8_cowIs_14 : decode cX8_cowIs 14 = .ok (.ifCond .ne 10, 3) := by decide +kernel
theorem dX8_cowIs_17 : decode cX8_cowIs 17 = .ok (.aload_n 0, 1) := by decide +kernel
theorem dX8_cowIs_18 : decode cX8_cowIs 18 = .ok (.ldc 100, 2) := by decide +kernel
theorem dX8_cowIs_20 : decode cX8_cowIs 20 = .ok (.invokevirtual 101, 3) := by decide +kernel
theorem dX8_cowIs_23 : decode cX8_cowIs 23 = .ok (.ireturn, 1) := by decide +kernel
theorem dX8_cowIs_24 : decode cX8_cowIs 24 = .ok (.iload_n 2, 1) := by decide +kernel
theorem dX8_cowIs_25 : decode cX8_cowIs 25 = .ok (.iconst 2, 1) := by decide +kernel
theorem dX8_cowIs_26 : decode cX8_cowIs 26 = .ok (.if_icmp .ge 19, 3) := by decide +kernel
theorem dX8_cowIs_29 : decode cX8_cowIs 29 = .ok (.aload_n 0, 1) := by decide +kernel
theorem dX8_cowIs_30 : decode cX8_cowIs 30 = .ok (.getfield 9, 3) := by decide +kernel
theorem dX8_cowIs_33 : decode cX8_cowIs 33 = .ok (.bipush 58, 2) := by decide +kernel
theorem dX8_cowIs_35 : decode cX8_cowIs 35 = .ok (.iconst 2, 1) := by decide +kernel
theorem dX8_cowIs_36 : decode cX8_cowIs 36 = .ok (.iload_n 1, 1) := by decide +kernel
theorem dX8_cowIs_37 : decode cX8_cowIs 37 = .ok (.imul, 1) := by decide +kernel
theorem dX8_cowIs_38 : decode cX8_cowIs 38 = .ok (.iadd, 1) := by decide +kernel
theorem dX8_cowIs_39 : decode cX8_cowIs 39 = .ok (.iload_n 2, 1) := by decide +kernel
theorem dX8_cowIs_40 : decode cX8_cowIs 40 = .ok (.iadd, 1) := by decide +kernel
theorem dX8_cowIs_41 : decode cX8_cowIs 41 = .ok (.iaload, 1) := by decide +kernel
theorem dX8_cowIs_42 : decode cX8_cowIs 42 = .ok (.goto 18, 3) := by decide +kernel
theorem dX8_cowIs_45 : decode cX8_cowIs 45 = .ok (.aload_n 0, 1) := by decide +kernel
theorem dX8_cowIs_46 : decode cX8_cowIs 46 = .ok (.aload_n 0, 1) := by decide +kernel
theorem dX8_cowIs_47 : decode cX8_cowIs 47 = .ok (.getfield 9, 3) := by decide +kernel
theorem dX8_cowIs_50 : decode cX8_cowIs 50 = .ok (.bipush 58, 2) := by decide +kernel
theorem dX8_cowIs_52 : decode cX8_cowIs 52 = .ok (.iconst 2, 1) := by decide +kernel
theorem dX8_cowIs_53 : decode cX8_cowIs 53 = .ok (.iload_n 1, 1) := by decide +kernel
theorem dX8_cowIs_54 : decode cX8_cowIs 54 = .ok (.imul, 1) := by decide +kernel
theorem dX8_cowIs_55 : decode cX8_cowIs 55 = .ok (.iadd, 1) := by decide +kernel
theorem dX8_cowIs_56 : decode cX8_cowIs 56 = .ok (.iaload, 1) := by decide +kernel
theorem dX8_cowIs_57 : decode cX8_cowIs 57 = .ok (.invokevirtual 127, 3) := by decide +kernel
theorem dX8_cowIs_60 : decode cX8_cowIs 60 = .ok (.ireturn, 1) := by decide +kernel
theorem dX8_drive_0 : decode cX8_drive 0 = .ok (.aload_n 0, 1) := by decide +kernel
theorem dX8_drive_1 : decode cX8_drive 1 = .ok (.iload_n 1, 1) := by decide +kernel
theorem dX8_drive_2 : decode cX8_drive 2 = .ok (.invokevirtual 124, 3) := by decide +kernel
theorem dX8_drive_5 : decode cX8_drive 5 = .ok (.ifCond .eq 24, 3) := by decide +kernel
theorem dX8_drive_8 : decode cX8_drive 8 = .ok (.iload_n 2, 1) := by decide +kernel
theorem dX8_drive_9 : decode cX8_drive 9 = .ok (.invokestatic 109, 3) := by decide +kernel
theorem dX8_drive_12 : decode cX8_drive 12 = .ok (.ifCond .eq 17, 3) := by decide +kernel
theorem dX8_drive_15 : decode cX8_drive 15 = .ok (.aload_n 0, 1) := by decide +kernel
theorem dX8_drive_16 : decode cX8_drive 16 = .ok (.bipush 58, 2) := by decide +kernel
theorem dX8_drive_18 : decode cX8_drive 18 = .ok (.iconst 2, 1) := by decide +kernel
theorem dX8_drive_19 : decode cX8_drive 19 = .ok (.iload_n 1, 1) := by decide +kernel
theorem dX8_drive_20 : decode cX8_drive 20 = .ok (.imul, 1) := by decide +kernel
theorem dX8_drive_21 : decode cX8_drive 21 = .ok (.iadd, 1) := by decide +kernel
theorem dX8_drive_22 : decode cX8_drive 22 = .ok (.iload_n 2, 1) := by decide +kernel
theorem dX8_drive_23 : decode cX8_drive 23 = .ok (.invokevirtual 119, 3) := by decide +kernel
theorem dX8_drive_26 : decode cX8_drive 26 = .ok (.goto 9, 3) := by decide +kernel
theorem dX8_drive_29 : decode cX8_drive 29 = .ok (.aload_n 0, 1) := by decide +kernel
theorem dX8_drive_30 : decode cX8_drive 30 = .ok (.ldc 100, 2) := by decide +kernel
theorem dX8_drive_32 : decode cX8_drive 32 = .ok (.invokevirtual 101, 3) := by decide +kernel
theorem dX8_drive_35 : decode cX8_drive 35 = .ok (.ireturn, 1) := by decide +kernel
theorem dX8_feed_0 : decode cX8_feed 0 = .ok (.iload_n 3, 1) := by decide +kernel
theorem dX8_feed_1 : decode cX8_feed 1 = .ok (.iconst 1, 1) := by decide +kernel
theorem dX8_feed_2 : decode cX8_feed 2 = .ok (.bipush 8, 2) := by decide +kernel
theorem dX8_feed_4 : decode cX8_feed 4 = .ok (.invokestatic 51, 3) := by decide +kernel
theorem dX8_feed_7 : decode cX8_feed 7 = .ok (.ifCond .ne 10, 3) := by decide +kernel
theorem dX8_feed_10 : decode cX8_feed 10 = .ok (.aload_n 0, 1) := by decide +kernel
theorem dX8_feed_11 : decode cX8_feed 11 = .ok (.ldc 100, 2) := by decide +kernel
theorem dX8_feed_13 : decode cX8_feed 13 = .ok (.invokevirtual 101, 3) := by decide +kernel
theorem dX8_feed_16 : decode cX8_feed 16 = .ok (.ireturn, 1) := by decide +kernel
theorem dX8_feed_17 : decode cX8_feed 17 = .ok (.aload_n 0, 1) := by decide +kernel
theorem dX8_feed_18 : decode cX8_feed 18 = .ok (.getfield 9, 3) := by decide +kernel
theorem dX8_feed_21 : decode cX8_feed 21 = .ok (.iconst 4, 1) := by decide +kernel
theorem dX8_feed_22 : decode cX8_feed 22 = .ok (.iaload, 1) := by decide +kernel
theorem dX8_feed_23 : decode cX8_feed 23 = .ok (.iload_n 3, 1) := by decide +kernel
theorem dX8_feed_24 : decode cX8_feed 24 = .ok (.iadd, 1) := by decide +kernel
theorem dX8_feed_25 : decode cX8_feed 25 = .ok (.bipush 60, 2) := by decide +kernel
theorem dX8_feed_27 : decode cX8_feed 27 = .ok (.if_icmp .le 10, 3) := by decide +kernel
theorem dX8_feed_30 : decode cX8_feed 30 = .ok (.aload_n 0, 1) := by decide +kernel
theorem dX8_feed_31 : decode cX8_feed 31 = .ok (.ldc 105, 2) := by decide +kernel
theorem dX8_feed_33 : decode cX8_feed 33 = .ok (.invokevirtual 101, 3) := by decide +kernel
theorem dX8_feed_36 : decode cX8_feed 36 = .ok (.ireturn, 1) := by decide +kernel
theorem dX8_feed_37 : decode cX8_feed 37 = .ok (.iconst 0, 1) := by decide +kernel
theorem dX8_feed_38 : decode cX8_feed 38 = .ok (.istore 4, 2) := by decide +kernel
theorem dX8_feed_40 : decode cX8_feed 40 = .ok (.iload 4, 2) := by decide +kernel
theorem dX8_feed_42 : decode cX8_feed 42 = .ok (.iload_n 3, 1) := by decide +kernel
theorem dX8_feed_43 : decode cX8_feed 43 = .ok (.if_icmp .ge 46, 3) := by decide +kernel
theorem dX8_feed_46 : decode cX8_feed 46 = .ok (.aload_n 0, 1) := by decide +kernel
theorem dX8_feed_47 : decode cX8_feed 47 = .ok (.getfield 9, 3) := by decide +kernel
theorem dX8_feed_50 : decode cX8_feed 50 = .ok (.sipush 198, 3) := by decide +kernel
theorem dX8_feed_53 : decode cX8_feed 53 = .ok (.aload_n 0, 1) := by decide +kernel
theorem dX8_feed_54 : decode cX8_feed 54 = .ok (.getfield 9, 3) := by decide +kernel
theorem dX8_feed_57 : decode cX8_feed 57 = .ok (.iconst 4, 1) := by decide +kernel
theorem dX8_feed_58 : decode cX8_feed 58 = .ok (.iaload, 1) := by decide +kernel
theorem dX8_feed_59 : decode cX8_feed 59 = .ok (.iadd, 1) := by decide +kernel
theorem dX8_feed_60 : decode cX8_feed 60 = .ok (.lload_n 1, 1) := by decide +kernel
theorem dX8_feed_61 : decode cX8_feed 61 = .ok (.bipush 8, 2) := by decide +kernel
theorem dX8_feed_63 : decode cX8_feed 63 = .ok (.iload 4, 2) := by decide +kernel
theorem dX8_feed_65 : decode cX8_feed 65 = .ok (.imul, 1) := by decide +kernel
theorem dX8_feed_66 : decode cX8_feed 66 = .ok (.lshr, 1) := by decide +kernel
theorem dX8_feed_67 : decode cX8_feed 67 = .ok (.ldc2_w 130, 3) := by decide +kernel
theorem dX8_feed_70 : decode cX8_feed 70 = .ok (.land, 1) := by decide +kernel
theorem dX8_feed_71 : decode cX8_feed 71 = .ok (.l2i, 1) := by decide +kernel
theorem dX8_feed_72 : decode cX8_feed 72 = .ok (.iastore, 1) := by decide +kernel
theorem dX8_feed_73 : decode cX8_feed 73 = .ok (.aload_n 0, 1) := by decide +kernel
theorem dX8_feed_74 : decode cX8_feed 74 = .ok (.getfield 9, 3) := by decide +kernel
theorem dX8_feed_77 : decode cX8_feed 77 = .ok (.iconst 4, 1) := by decide +kernel
theorem dX8_feed_78 : decode cX8_feed 78 = .ok (.dup2, 1) := by decide +kernel
theorem dX8_feed_79 : decode cX8_feed 79 = .ok (.iaload, 1) := by decide +kernel
theorem dX8_feed_80 : decode cX8_feed 80 = .ok (.iconst 1, 1) := by decide +kernel
theorem dX8_feed_81 : decode cX8_feed 81 = .ok (.iadd, 1) := by decide +kernel
theorem dX8_feed_82 : decode cX8_feed 82 = .ok (.iastore, 1) := by decide +kernel
theorem dX8_feed_83 : decode cX8_feed 83 = .ok (.iinc 4 1, 3) := by decide +kernel
theorem dX8_feed_86 : decode cX8_feed 86 = .ok (.goto (-46), 3) := by decide +kernel
theorem dX8_feed_89 : decode cX8_feed 89 = .ok (.aload_n 0, 1) := by decide +kernel
theorem dX8_feed_90 : decode cX8_feed 90 = .ok (.getfield 9, 3) := by decide +kernel
theorem dX8_feed_93 : decode cX8_feed 93 = .ok (.iconst 4, 1) := by decide +kernel
theorem dX8_feed_94 : decode cX8_feed 94 = .ok (.iaload, 1) := by decide +kernel
theorem dX8_feed_95 : decode cX8_feed 95 = .ok (.ireturn, 1) := by decide +kernel
theorem dX8_look_0 : decode cX8_look 0 = .ok (.aload_n 0, 1) := by decide +kernel
theorem dX8_look_1 : decode cX8_look 1 = .ok (.getfield 132, 3) := by decide +kernel
theorem dX8_look_4 : decode cX8_look 4 = .ok (.aload_n 0, 1) := by decide +kernel
theorem dX8_look_5 : decode cX8_look 5 = .ok (.getfield 9, 3) := by decide +kernel
theorem dX8_look_8 : decode cX8_look 8 = .ok (.iconst 4, 1) := by decide +kernel
theorem dX8_look_9 : decode cX8_look 9 = .ok (.iaload, 1) := by decide +kernel
theorem dX8_look_10 : decode cX8_look 10 = .ok (.if_icmp .ge 19, 3) := by decide +kernel
theorem dX8_look_13 : decode cX8_look 13 = .ok (.aload_n 0, 1) := by decide +kernel
theorem dX8_look_14 : decode cX8_look 14 = .ok (.getfield 9, 3) := by decide +kernel
theorem dX8_look_17 : decode cX8_look 17 = .ok (.sipush 198, 3) := by decide +kernel
theorem dX8_look_20 : decode cX8_look 20 = .ok (.aload_n 0, 1) := by decide +kernel
theorem dX8_look_21 : decode cX8_look 21 = .ok (.getfield 132, 3) := by decide +kernel
theorem dX8_look_24 : decode cX8_look 24 = .ok (.iadd, 1) := by decide +kernel
theorem dX8_look_25 : decode cX8_look 25 = .ok (.iaload, 1) := by decide +kernel
theorem dX8_look_26 : decode cX8_look 26 = .ok (.goto 4, 3) := by decide +kernel
theorem dX8_look_29 : decode cX8_look 29 = .ok (.iconst (-1), 1) := by decide +kernel
theorem dX8_look_30 : decode cX8_look 30 = .ok (.ireturn, 1) := by decide +kernel
theorem dX8_step_0 : decode cX8_step 0 = .ok (.aload_n 0, 1) := by decide +kernel
theorem dX8_step_1 : decode cX8_step 1 = .ok (.getfield 136, 3) := by decide +kernel
theorem dX8_step_4 : decode cX8_step 4 = .ok (.aload_n 0, 1) := by decide +kernel
theorem dX8_step_5 : decode cX8_step 5 = .ok (.getfield 31, 3) := by decide +kernel
theorem dX8_step_8 : decode cX8_step 8 = .ok (.arraylength, 1) := by decide +kernel
theorem dX8_step_9 : decode cX8_step 9 = .ok (.if_icmp .ge 33, 3) := by decide +kernel
theorem dX8_step_12 : decode cX8_step 12 = .ok (.aload_n 0, 1) := by decide +kernel
theorem dX8_step_13 : decode cX8_step 13 = .ok (.getfield 31, 3) := by decide +kernel
theorem dX8_step_16 : decode cX8_step 16 = .ok (.aload_n 0, 1) := by decide +kernel
theorem dX8_step_17 : decode cX8_step 17 = .ok (.getfield 136, 3) := by decide +kernel
theorem dX8_step_20 : decode cX8_step 20 = .ok (.iload_n 1, 1) := by decide +kernel
theorem dX8_step_21 : decode cX8_step 21 = .ok (.iastore, 1) := by decide +kernel
theorem dX8_step_22 : decode cX8_step 22 = .ok (.aload_n 0, 1) := by decide +kernel
theorem dX8_step_23 : decode cX8_step 23 = .ok (.getfield 34, 3) := by decide +kernel
theorem dX8_step_26 : decode cX8_step 26 = .ok (.aload_n 0, 1) := by decide +kernel
theorem dX8_step_27 : decode cX8_step 27 = .ok (.getfield 136, 3) := by decide +kernel
theorem dX8_step_30 : decode cX8_step 30 = .ok (.iload_n 2, 1) := by decide +kernel
theorem dX8_step_31 : decode cX8_step 31 = .ok (.iastore, 1) := by decide +kernel
theorem dX8_step_32 : decode cX8_step 32 = .ok (.aload_n 0, 1) := by decide +kernel
theorem dX8_step_33 : decode cX8_step 33 = .ok (.dup, 1) := by decide +kernel
theorem dX8_step_34 : decode cX8_step 34 = .ok (.getfield 136, 3) := by decide +kernel
theorem dX8_step_37 : decode cX8_step 37 = .ok (.iconst 1, 1) := by decide +kernel
theorem dX8_step_38 : decode cX8_step 38 = .ok (.iadd, 1) := by decide +kernel
theorem dX8_step_39 : decode cX8_step 39 = .ok (.putfield 136, 3) := by decide +kernel
theorem dX8_step_42 : decode cX8_step 42 = .ok (.return_, 1) := by decide +kernel
theorem dX8_nameOf_0 : decode cX8_nameOf 0 = .ok (.iload_n 1, 1) := by decide +kernel
theorem dX8_nameOf_1 : decode cX8_nameOf 1 = .ok (.tableswitch 146 97 112 #[79, 112, 112, 112, 146, 146, 146, 146, 146, 146, 79, 146, 146, 146, 146, 79], 79) := by decide +kernel
theorem dX8_nameOf_80 : decode cX8_nameOf 80 = .ok (.aload_n 0, 1) := by decide +kernel
theorem dX8_nameOf_81 : decode cX8_nameOf 81 = .ok (.getfield 139, 3) := by decide +kernel
theorem dX8_nameOf_84 : decode cX8_nameOf 84 = .ok (.ifCond .eq 7, 3) := by decide +kernel
theorem dX8_nameOf_87 : decode cX8_nameOf 87 = .ok (.iconst (-1), 1) := by decide +kernel
theorem dX8_nameOf_88 : decode cX8_nameOf 88 = .ok (.goto 24, 3) := by decide +kernel
theorem dX8_nameOf_91 : decode cX8_nameOf 91 = .ok (.iload_n 1, 1) := by decide +kernel
theorem dX8_nameOf_92 : decode cX8_nameOf 92 = .ok (.bipush 97, 2) := by decide +kernel
theorem dX8_nameOf_94 : decode cX8_nameOf 94 = .ok (.if_icmp .ne 7, 3) := by decide +kernel
theorem dX8_nameOf_97 : decode cX8_nameOf 97 = .ok (.iconst 0, 1) := by decide +kernel
theorem dX8_nameOf_98 : decode cX8_nameOf 98 = .ok (.goto 14, 3) := by decide +kernel
theorem dX8_nameOf_101 : decode cX8_nameOf 101 = .ok (.iload_n 1, 1) := by decide +kernel
theorem dX8_nameOf_102 : decode cX8_nameOf 102 = .ok (.bipush 112, 2) := by decide +kernel
theorem dX8_nameOf_104 : decode cX8_nameOf 104 = .ok (.if_icmp .ne 7, 3) := by decide +kernel
theorem dX8_nameOf_107 : decode cX8_nameOf 107 = .ok (.iconst 1, 1) := by decide +kernel
theorem dX8_nameOf_108 : decode cX8_nameOf 108 = .ok (.goto 4, 3) := by decide +kernel
theorem dX8_nameOf_111 : decode cX8_nameOf 111 = .ok (.iconst 2, 1) := by decide +kernel
theorem dX8_nameOf_112 : decode cX8_nameOf 112 = .ok (.ireturn, 1) := by decide +kernel
theorem dX8_nameOf_113 : decode cX8_nameOf 113 = .ok (.aload_n 0, 1) := by decide +kernel
theorem dX8_nameOf_114 : decode cX8_nameOf 114 = .ok (.getfield 139, 3) := by decide +kernel
theorem dX8_nameOf_117 : decode cX8_nameOf 117 = .ok (.iconst 1, 1) := by decide +kernel
theorem dX8_nameOf_118 : decode cX8_nameOf 118 = .ok (.if_icmp .eq 7, 3) := by decide +kernel
theorem dX8_nameOf_121 : decode cX8_nameOf 121 = .ok (.iconst (-1), 1) := by decide +kernel
theorem dX8_nameOf_122 : decode cX8_nameOf 122 = .ok (.goto 24, 3) := by decide +kernel
theorem dX8_nameOf_125 : decode cX8_nameOf 125 = .ok (.iload_n 1, 1) := by decide +kernel
theorem dX8_nameOf_126 : decode cX8_nameOf 126 = .ok (.bipush 99, 2) := by decide +kernel
theorem dX8_nameOf_128 : decode cX8_nameOf 128 = .ok (.if_icmp .ne 7, 3) := by decide +kernel
theorem dX8_nameOf_131 : decode cX8_nameOf 131 = .ok (.iconst 0, 1) := by decide +kernel
theorem dX8_nameOf_132 : decode cX8_nameOf 132 = .ok (.goto 14, 3) := by decide +kernel
theorem dX8_nameOf_135 : decode cX8_nameOf 135 = .ok (.iload_n 1, 1) := by decide +kernel
theorem dX8_nameOf_136 : decode cX8_nameOf 136 = .ok (.bipush 98, 2) := by decide +kernel
theorem dX8_nameOf_138 : decode cX8_nameOf 138 = .ok (.if_icmp .ne 7, 3) := by decide +kernel
theorem dX8_nameOf_141 : decode cX8_nameOf 141 = .ok (.iconst 1, 1) := by decide +kernel
theorem dX8_nameOf_142 : decode cX8_nameOf 142 = .ok (.goto 4, 3) := by decide +kernel
theorem dX8_nameOf_145 : decode cX8_nameOf 145 = .ok (.iconst 2, 1) := by decide +kernel
theorem dX8_nameOf_146 : decode cX8_nameOf 146 = .ok (.ireturn, 1) := by decide +kernel
theorem dX8_nameOf_147 : decode cX8_nameOf 147 = .ok (.iconst (-1), 1) := by decide +kernel
theorem dX8_nameOf_148 : decode cX8_nameOf 148 = .ok (.ireturn, 1) := by decide +kernel
theorem dX8_number_0 : decode cX8_number 0 = .ok (.iconst 0, 1) := by decide +kernel
theorem dX8_number_1 : decode cX8_number 1 = .ok (.istore_n 1, 1) := by decide +kernel
theorem dX8_number_2 : decode cX8_number 2 = .ok (.iconst 0, 1) := by decide +kernel
theorem dX8_number_3 : decode cX8_number 3 = .ok (.istore_n 2, 1) := by decide +kernel
theorem dX8_number_4 : decode cX8_number 4 = .ok (.iload_n 2, 1) := by decide +kernel
theorem dX8_number_5 : decode cX8_number 5 = .ok (.iconst 4, 1) := by decide +kernel
theorem dX8_number_6 : decode cX8_number 6 = .ok (.if_icmp .ge 46, 3) := by decide +kernel
theorem dX8_number_9 : decode cX8_number 9 = .ok (.aload_n 0, 1) := by decide +kernel
theorem dX8_number_10 : decode cX8_number 10 = .ok (.invokevirtual 142, 3) := by decide +kernel
theorem dX8_number_13 : decode cX8_number 13 = .ok (.bipush 48, 2) := by decide +kernel
theorem dX8_number_15 : decode cX8_number 15 = .ok (.bipush 57, 2) := by decide +kernel
theorem dX8_number_17 : decode cX8_number 17 = .ok (.invokestatic 51, 3) := by decide +kernel
theorem dX8_number_20 : decode cX8_number 20 = .ok (.ifCond .eq 32, 3) := by decide +kernel
theorem dX8_number_23 : decode cX8_number 23 = .ok (.bipush 10, 2) := by decide +kernel
theorem dX8_number_25 : decode cX8_number 25 = .ok (.iload_n 1, 1) := by decide +kernel
theorem dX8_number_26 : decode cX8_number 26 = .ok (.imul, 1) := by decide +kernel
theorem dX8_number_27 : decode cX8_number 27 = .ok (.aload_n 0, 1) := by decide +kernel
theorem dX8_number_28 : decode cX8_number 28 = .ok (.invokevirtual 142, 3) := by decide +kernel
theorem dX8_number_31 : decode cX8_number 31 = .ok (.iadd, 1) := by decide +kernel
theorem dX8_number_32 : decode cX8_number 32 = .ok (.bipush 48, 2) := by decide +kernel
theorem dX8_number_34 : decode cX8_number 34 = .ok (.isub, 1) := by decide +kernel
theorem dX8_number_35 : decode cX8_number 35 = .ok (.istore_n 1, 1) := by decide +kernel
theorem dX8_number_36 : decode cX8_number 36 = .ok (.aload_n 0, 1) := by decide +kernel
theorem dX8_number_37 : decode cX8_number 37 = .ok (.dup, 1) := by decide +kernel
theorem dX8_number_38 : decode cX8_number 38 = .ok (.getfield 132, 3) := by decide +kernel
theorem dX8_number_41 : decode cX8_number 41 = .ok (.iconst 1, 1) := by decide +kernel
theorem dX8_number_42 : decode cX8_number 42 = .ok (.iadd, 1) := by decide +kernel
theorem dX8_number_43 : decode cX8_number 43 = .ok (.putfield 132, 3) := by decide +kernel
theorem dX8_number_46 : decode cX8_number 46 = .ok (.iinc 2 1, 3) := by decide +kernel
theorem dX8_number_49 : decode cX8_number 49 = .ok (.goto (-45), 3) := by decide +kernel
theorem dX8_number_52 : decode cX8_number 52 = .ok (.aload_n 0, 1) := by decide +kernel
theorem dX8_number_53 : decode cX8_number 53 = .ok (.iload_n 2, 1) := by decide +kernel
theorem dX8_number_54 : decode cX8_number 54 = .ok (.ifCond .ne 7, 3) := by decide +kernel
theorem dX8_number_57 : decode cX8_number 57 = .ok (.iconst 1, 1) := by decide +kernel
theorem dX8_number_58 : decode cX8_number 58 = .ok (.goto 4, 3) := by decide +kernel
theorem dX8_number_61 : decode cX8_number 61 = .ok (.iconst 0, 1) := by decide +kernel
theorem dX8_number_62 : decode cX8_number 62 = .ok (.putfield 146, 3) := by decide +kernel
theorem dX8_number_65 : decode cX8_number 65 = .ok (.aload_n 0, 1) := by decide +kernel
theorem dX8_number_66 : decode cX8_number 66 = .ok (.iconst 1, 1) := by decide +kernel
theorem dX8_number_67 : decode cX8_number 67 = .ok (.iload_n 1, 1) := by decide +kernel
theorem dX8_number_68 : decode cX8_number 68 = .ok (.invokevirtual 150, 3) := by decide +kernel
theorem dX8_number_71 : decode cX8_number 71 = .ok (.return_, 1) := by decide +kernel
theorem dX8_opens_0 : decode cX8_opens 0 = .ok (.aload_n 0, 1) := by decide +kernel
theorem dX8_opens_1 : decode cX8_opens 1 = .ok (.getfield 154, 3) := by decide +kernel
theorem dX8_opens_4 : decode cX8_opens 4 = .ok (.iconst 5, 1) := by decide +kernel
theorem dX8_opens_5 : decode cX8_opens 5 = .ok (.if_icmp .ne 9, 3) := by decide +kernel
theorem dX8_opens_8 : decode cX8_opens 8 = .ok (.aload_n 0, 1) := by decide +kernel
theorem dX8_opens_9 : decode cX8_opens 9 = .ok (.iconst 1, 1) := by decide +kernel
theorem dX8_opens_10 : decode cX8_opens 10 = .ok (.putfield 146, 3) := by decide +kernel
theorem dX8_opens_13 : decode cX8_opens 13 = .ok (.return_, 1) := by decide +kernel
theorem dX8_opens_14 : decode cX8_opens 14 = .ok (.aload_n 0, 1) := by decide +kernel
theorem dX8_opens_15 : decode cX8_opens 15 = .ok (.dup, 1) := by decide +kernel
theorem dX8_opens_16 : decode cX8_opens 16 = .ok (.getfield 154, 3) := by decide +kernel
theorem dX8_opens_19 : decode cX8_opens 19 = .ok (.iconst 1, 1) := by decide +kernel
theorem dX8_opens_20 : decode cX8_opens 20 = .ok (.iadd, 1) := by decide +kernel
theorem dX8_opens_21 : decode cX8_opens 21 = .ok (.putfield 154, 3) := by decide +kernel
theorem dX8_opens_24 : decode cX8_opens 24 = .ok (.aload_n 0, 1) := by decide +kernel
theorem dX8_opens_25 : decode cX8_opens 25 = .ok (.dup, 1) := by decide +kernel
theorem dX8_opens_26 : decode cX8_opens 26 = .ok (.getfield 132, 3) := by decide +kernel
theorem dX8_opens_29 : decode cX8_opens 29 = .ok (.iconst 1, 1) := by decide +kernel
theorem dX8_opens_30 : decode cX8_opens 30 = .ok (.iadd, 1) := by decide +kernel
theorem dX8_opens_31 : decode cX8_opens 31 = .ok (.putfield 132, 3) := by decide +kernel
theorem dX8_opens_34 : decode cX8_opens 34 = .ok (.iload_n 1, 1) := by decide +kernel
theorem dX8_opens_35 : decode cX8_opens 35 = .ok (.bipush 33, 2) := by decide +kernel
theorem dX8_opens_37 : decode cX8_opens 37 = .ok (.if_icmp .ne 16, 3) := by decide +kernel
theorem dX8_opens_40 : decode cX8_opens 40 = .ok (.aload_n 0, 1) := by decide +kernel
theorem dX8_opens_41 : decode cX8_opens 41 = .ok (.invokevirtual 157, 3) := by decide +kernel
theorem dX8_opens_44 : decode cX8_opens 44 = .ok (.aload_n 0, 1) := by decide +kernel
theorem dX8_opens_45 : decode cX8_opens 45 = .ok (.iconst 3, 1) := by decide +kernel
theorem dX8_opens_46 : decode cX8_opens 46 = .ok (.iconst 0, 1) := by decide +kernel
theorem dX8_opens_47 : decode cX8_opens 47 = .ok (.invokevirtual 150, 3) := by decide +kernel
theorem dX8_opens_50 : decode cX8_opens 50 = .ok (.goto 53, 3) := by decide +kernel
theorem dX8_opens_53 : decode cX8_opens 53 = .ok (.aload_n 0, 1) := by decide +kernel
theorem dX8_opens_54 : decode cX8_opens 54 = .ok (.invokevirtual 160, 3) := by decide +kernel
theorem dX8_opens_57 : decode cX8_opens 57 = .ok (.aload_n 0, 1) := by decide +kernel
theorem dX8_opens_58 : decode cX8_opens 58 = .ok (.aload_n 0, 1) := by decide +kernel
theorem dX8_opens_59 : decode cX8_opens 59 = .ok (.getfield 146, 3) := by decide +kernel
theorem dX8_opens_62 : decode cX8_opens 62 = .ok (.ifCond .ne 12, 3) := by decide +kernel
theorem dX8_opens_65 : decode cX8_opens 65 = .ok (.aload_n 0, 1) := by decide +kernel
theorem dX8_opens_66 : decode cX8_opens 66 = .ok (.invokevirtual 142, 3) := by decide +kernel
theorem dX8_opens_69 : decode cX8_opens 69 = .ok (.bipush 41, 2) := by decide +kernel
theorem dX8_opens_71 : decode cX8_opens 71 = .ok (.if_icmp .eq 7, 3) := by decide +kernel
theorem dX8_opens_74 : decode cX8_opens 74 = .ok (.iconst 1, 1) := by decide +kernel
theorem dX8_opens_75 : decode cX8_opens 75 = .ok (.goto 4, 3) := by decide +kernel
theorem dX8_opens_78 : decode cX8_opens 78 = .ok (.iconst 0, 1) := by decide +kernel
theorem dX8_opens_79 : decode cX8_opens 79 = .ok (.putfield 146, 3) := by decide +kernel
theorem dX8_opens_82 : decode cX8_opens 82 = .ok (.aload_n 0, 1) := by decide +kernel
theorem dX8_opens_83 : decode cX8_opens 83 = .ok (.dup, 1) := by decide +kernel
theorem dX8_opens_84 : decode cX8_opens 84 = .ok (.getfield 132, 3) := by decide +kernel
theorem dX8_opens_87 : decode cX8_opens 87 = .ok (.aload_n 0, 1) := by decide +kernel
theorem dX8_opens_88 : decode cX8_opens 88 = .ok (.getfield 146, 3) := by decide +kernel
theorem dX8_opens_91 : decode cX8_opens 91 = .ok (.ifCond .eq 7, 3) := by decide +kernel
theorem dX8_opens_94 : decode cX8_opens 94 = .ok (.iconst 0, 1) := by decide +kernel
theorem dX8_opens_95 : decode cX8_opens 95 = .ok (.goto 4, 3) := by decide +kernel
theorem dX8_opens_98 : decode cX8_opens 98 = .ok (.iconst 1, 1) := by decide +kernel
theorem dX8_opens_99 : decode cX8_opens 99 = .ok (.iadd, 1) := by decide +kernel
theorem dX8_opens_100 : decode cX8_opens 100 = .ok (.putfield 132, 3) := by decide +kernel
theorem dX8_opens_103 : decode cX8_opens 103 = .ok (.aload_n 0, 1) := by decide +kernel
theorem dX8_opens_104 : decode cX8_opens 104 = .ok (.dup, 1) := by decide +kernel
theorem dX8_opens_105 : decode cX8_opens 105 = .ok (.getfield 154, 3) := by decide +kernel
theorem dX8_opens_108 : decode cX8_opens 108 = .ok (.iconst 1, 1) := by decide +kernel
theorem dX8_opens_109 : decode cX8_opens 109 = .ok (.isub, 1) := by decide +kernel
theorem dX8_opens_110 : decode cX8_opens 110 = .ok (.putfield 154, 3) := by decide +kernel
theorem dX8_opens_113 : decode cX8_opens 113 = .ok (.return_, 1) := by decide +kernel
theorem dX8_one_0 : decode cX8_one 0 = .ok (.aload_n 0, 1) := by decide +kernel
theorem dX8_one_1 : decode cX8_one 1 = .ok (.invokevirtual 142, 3) := by decide +kernel
theorem dX8_one_4 : decode cX8_one 4 = .ok (.istore_n 1, 1) := by decide +kernel
theorem dX8_one_5 : decode cX8_one 5 = .ok (.aload_n 0, 1) := by decide +kernel
theorem dX8_one_6 : decode cX8_one 6 = .ok (.iload_n 1, 1) := by decide +kernel
theorem dX8_one_7 : decode cX8_one 7 = .ok (.invokevirtual 163, 3) := by decide +kernel
theorem dX8_one_10 : decode cX8_one 10 = .ok (.istore_n 2, 1) := by decide +kernel
theorem dX8_one_11 : decode cX8_one 11 = .ok (.iload_n 2, 1) := by decide +kernel
theorem dX8_one_12 : decode cX8_one 12 = .ok (.ifCond .lt 22, 3) := by decide +kernel
theorem dX8_one_15 : decode cX8_one 15 = .ok (.aload_n 0, 1) := by decide +kernel
theorem dX8_one_16 : decode cX8_one 16 = .ok (.dup, 1) := by decide +kernel
theorem dX8_one_17 : decode cX8_one 17 = .ok (.getfield 132, 3) := by decide +kernel
theorem dX8_one_20 : decode cX8_one 20 = .ok (.iconst 1, 1) := by decide +kernel
theorem dX8_one_21 : decode cX8_one 21 = .ok (.iadd, 1) := by decide +kernel
theorem dX8_one_22 : decode cX8_one 22 = .ok (.putfield 132, 3) := by decide +kernel
theorem dX8_one_25 : decode cX8_one 25 = .ok (.aload_n 0, 1) := by decide +kernel
theorem dX8_one_26 : decode cX8_one 26 = .ok (.iconst 2, 1) := by decide +kernel
theorem dX8_one_27 : decode cX8_one 27 = .ok (.iload_n 2, 1) := by decide +kernel
theorem dX8_one_28 : decode cX8_one 28 = .ok (.invokevirtual 150, 3) := by decide +kernel
theorem dX8_one_31 : decode cX8_one 31 = .ok (.goto 27, 3) := by decide +kernel
theorem dX8_one_34 : decode cX8_one 34 = .ok (.iload_n 1, 1) := by decide +kernel
theorem dX8_one_35 : decode cX8_one 35 = .ok (.bipush 33, 2) := by decide +kernel
theorem dX8_one_37 : decode cX8_one 37 = .ok (.if_icmp .eq 9, 3) := by decide +kernel
theorem dX8_one_40 : decode cX8_one 40 = .ok (.iload_n 1, 1) := by decide +kernel
theorem dX8_one_41 : decode cX8_one 41 = .ok (.bipush 40, 2) := by decide +kernel
theorem dX8_one_43 : decode cX8_one 43 = .ok (.if_icmp .ne 11, 3) := by decide +kernel
theorem dX8_one_46 : decode cX8_one 46 = .ok (.aload_n 0, 1) := by decide +kernel
theorem dX8_one_47 : decode cX8_one 47 = .ok (.iload_n 1, 1) := by decide +kernel
theorem dX8_one_48 : decode cX8_one 48 = .ok (.invokevirtual 166, 3) := by decide +kernel
theorem dX8_one_51 : decode cX8_one 51 = .ok (.goto 7, 3) := by decide +kernel
theorem dX8_one_54 : decode cX8_one 54 = .ok (.aload_n 0, 1) := by decide +kernel
theorem dX8_one_55 : decode cX8_one 55 = .ok (.invokevirtual 170, 3) := by decide +kernel
theorem dX8_one_58 : decode cX8_one 58 = .ok (.return_, 1) := by decide +kernel
theorem dX8_times_0 : decode cX8_times 0 = .ok (.aload_n 0, 1) := by decide +kernel
theorem dX8_times_1 : decode cX8_times 1 = .ok (.invokevirtual 157, 3) := by decide +kernel
theorem dX8_times_4 : decode cX8_times 4 = .ok (.aload_n 0, 1) := by decide +kernel
theorem dX8_times_5 : decode cX8_times 5 = .ok (.getfield 146, 3) := by decide +kernel
theorem dX8_times_8 : decode cX8_times 8 = .ok (.ifCond .ne 58, 3) := by decide +kernel
theorem dX8_times_11 : decode cX8_times 11 = .ok (.aload_n 0, 1) := by decide +kernel
theorem dX8_times_12 : decode cX8_times 12 = .ok (.invokevirtual 142, 3) := by decide +kernel
theorem dX8_times_15 : decode cX8_times 15 = .ok (.bipush 42, 2) := by decide +kernel
theorem dX8_times_17 : decode cX8_times 17 = .ok (.if_icmp .eq 21, 3) := by decide +kernel
theorem dX8_times_20 : decode cX8_times 20 = .ok (.aload_n 0, 1) := by decide +kernel
theorem dX8_times_21 : decode cX8_times 21 = .ok (.invokevirtual 142, 3) := by decide +kernel
theorem dX8_times_24 : decode cX8_times 24 = .ok (.bipush 47, 2) := by decide +kernel
theorem dX8_times_26 : decode cX8_times 26 = .ok (.if_icmp .eq 12, 3) := by decide +kernel
theorem dX8_times_29 : decode cX8_times 29 = .ok (.aload_n 0, 1) := by decide +kernel
theorem dX8_times_30 : decode cX8_times 30 = .ok (.invokevirtual 142, 3) := by decide +kernel
theorem dX8_times_33 : decode cX8_times 33 = .ok (.bipush 37, 2) := by decide +kernel
theorem dX8_times_35 : decode cX8_times 35 = .ok (.if_icmp .ne 31, 3) := by decide +kernel
theorem dX8_times_38 : decode cX8_times 38 = .ok (.aload_n 0, 1) := by decide +kernel
theorem dX8_times_39 : decode cX8_times 39 = .ok (.invokevirtual 142, 3) := by decide +kernel
theorem dX8_times_42 : decode cX8_times 42 = .ok (.istore_n 1, 1) := by decide +kernel
theorem dX8_times_43 : decode cX8_times 43 = .ok (.aload_n 0, 1) := by decide +kernel
theorem dX8_times_44 : decode cX8_times 44 = .ok (.dup, 1) := by decide +kernel
theorem dX8_times_45 : decode cX8_times 45 = .ok (.getfield 132, 3) := by decide +kernel
theorem dX8_times_48 : decode cX8_times 48 = .ok (.iconst 1, 1) := by decide +kernel
theorem dX8_times_49 : decode cX8_times 49 = .ok (.iadd, 1) := by decide +kernel
theorem dX8_times_50 : decode cX8_times 50 = .ok (.putfield 132, 3) := by decide +kernel
theorem dX8_times_53 : decode cX8_times 53 = .ok (.aload_n 0, 1) := by decide +kernel
theorem dX8_times_54 : decode cX8_times 54 = .ok (.invokevirtual 157, 3) := by decide +kernel
theorem dX8_times_57 : decode cX8_times 57 = .ok (.aload_n 0, 1) := by decide +kernel
theorem dX8_times_58 : decode cX8_times 58 = .ok (.iload_n 1, 1) := by decide +kernel
theorem dX8_times_59 : decode cX8_times 59 = .ok (.iconst 0, 1) := by decide +kernel
theorem dX8_times_60 : decode cX8_times 60 = .ok (.invokevirtual 150, 3) := by decide +kernel
theorem dX8_times_63 : decode cX8_times 63 = .ok (.goto (-59), 3) := by decide +kernel
theorem dX8_times_66 : decode cX8_times 66 = .ok (.return_, 1) := by decide +kernel
theorem dX8_sum_0 : decode cX8_sum 0 = .ok (.aload_n 0, 1) := by decide +kernel
theorem dX8_sum_1 : decode cX8_sum 1 = .ok (.invokevirtual 173, 3) := by decide +kernel
theorem dX8_sum_4 : decode cX8_sum 4 = .ok (.aload_n 0, 1) := by decide +kernel
theorem dX8_sum_5 : decode cX8_sum 5 = .ok (.getfield 146, 3) := by decide +kernel
theorem dX8_sum_8 : decode cX8_sum 8 = .ok (.ifCond .ne 49, 3) := by decide +kernel
theorem dX8_sum_11 : decode cX8_sum 11 = .ok (.aload_n 0, 1) := by decide +kernel
theorem dX8_sum_12 : decode cX8_sum 12 = .ok (.invokevirtual 142, 3) := by decide +kernel
theorem dX8_sum_15 : decode cX8_sum 15 = .ok (.bipush 43, 2) := by decide +kernel
theorem dX8_sum_17 : decode cX8_sum 17 = .ok (.if_icmp .eq 12, 3) := by decide +kernel
theorem dX8_sum_20 : decode cX8_sum 20 = .ok (.aload_n 0, 1) := by decide +kernel
theorem dX8_sum_21 : decode cX8_sum 21 = .ok (.invokevirtual 142, 3) := by decide +kernel
theorem dX8_sum_24 : decode cX8_sum 24 = .ok (.bipush 45, 2) := by decide +kernel
theorem dX8_sum_26 : decode cX8_sum 26 = .ok (.if_icmp .ne 31, 3) := by decide +kernel
theorem dX8_sum_29 : decode cX8_sum 29 = .ok (.aload_n 0, 1) := by decide +kernel
theorem dX8_sum_30 : decode cX8_sum 30 = .ok (.invokevirtual 142, 3) := by decide +kernel
theorem dX8_sum_33 : decode cX8_sum 33 = .ok (.istore_n 1, 1) := by decide +kernel
theorem dX8_sum_34 : decode cX8_sum 34 = .ok (.aload_n 0, 1) := by decide +kernel
theorem dX8_sum_35 : decode cX8_sum 35 = .ok (.dup, 1) := by decide +kernel
theorem dX8_sum_36 : decode cX8_sum 36 = .ok (.getfield 132, 3) := by decide +kernel
theorem dX8_sum_39 : decode cX8_sum 39 = .ok (.iconst 1, 1) := by decide +kernel
theorem dX8_sum_40 : decode cX8_sum 40 = .ok (.iadd, 1) := by decide +kernel
theorem dX8_sum_41 : decode cX8_sum 41 = .ok (.putfield 132, 3) := by decide +kernel
theorem dX8_sum_44 : decode cX8_sum 44 = .ok (.aload_n 0, 1) := by decide +kernel
theorem dX8_sum_45 : decode cX8_sum 45 = .ok (.invokevirtual 173, 3) := by decide +kernel
theorem dX8_sum_48 : decode cX8_sum 48 = .ok (.aload_n 0, 1) := by decide +kernel
theorem dX8_sum_49 : decode cX8_sum 49 = .ok (.iload_n 1, 1) := by decide +kernel
theorem dX8_sum_50 : decode cX8_sum 50 = .ok (.iconst 0, 1) := by decide +kernel
theorem dX8_sum_51 : decode cX8_sum 51 = .ok (.invokevirtual 150, 3) := by decide +kernel
theorem dX8_sum_54 : decode cX8_sum 54 = .ok (.goto (-50), 3) := by decide +kernel
theorem dX8_sum_57 : decode cX8_sum 57 = .ok (.return_, 1) := by decide +kernel
theorem dX8_compares_0 : decode cX8_compares 0 = .ok (.aload_n 0, 1) := by decide +kernel
theorem dX8_compares_1 : decode cX8_compares 1 = .ok (.invokevirtual 176, 3) := by decide +kernel
theorem dX8_compares_4 : decode cX8_compares 4 = .ok (.aload_n 0, 1) := by decide +kernel
theorem dX8_compares_5 : decode cX8_compares 5 = .ok (.invokevirtual 142, 3) := by decide +kernel
theorem dX8_compares_8 : decode cX8_compares 8 = .ok (.istore_n 1, 1) := by decide +kernel
theorem dX8_compares_9 : decode cX8_compares 9 = .ok (.aload_n 0, 1) := by decide +kernel
theorem dX8_compares_10 : decode cX8_compares 10 = .ok (.getfield 146, 3) := by decide +kernel
theorem dX8_compares_13 : decode cX8_compares 13 = .ok (.ifCond .ne 41, 3) := by decide +kernel
theorem dX8_compares_16 : decode cX8_compares 16 = .ok (.iload_n 1, 1) := by decide +kernel
theorem dX8_compares_17 : decode cX8_compares 17 = .ok (.bipush 60, 2) := by decide +kernel
theorem dX8_compares_19 : decode cX8_compares 19 = .ok (.if_icmp .eq 15, 3) := by decide +kernel
theorem dX8_compares_22 : decode cX8_compares 22 = .ok (.iload_n 1, 1) := by decide +kernel
theorem dX8_compares_23 : decode cX8_compares 23 = .ok (.bipush 61, 2) := by decide +kernel
theorem dX8_compares_25 : decode cX8_compares 25 = .ok (.if_icmp .eq 9, 3) := by decide +kernel
theorem dX8_compares_28 : decode cX8_compares 28 = .ok (.iload_n 1, 1) := by decide +kernel
theorem dX8_compares_29 : decode cX8_compares 29 = .ok (.bipush 62, 2) := by decide +kernel
theorem dX8_compares_31 : decode cX8_compares 31 = .ok (.if_icmp .ne 23, 3) := by decide +kernel
theorem dX8_compares_34 : decode cX8_compares 34 = .ok (.aload_n 0, 1) := by decide +kernel
theorem dX8_compares_35 : decode cX8_compares 35 = .ok (.dup, 1) := by decide +kernel
theorem dX8_compares_36 : decode cX8_compares 36 = .ok (.getfield 132, 3) := by decide +kernel
theorem dX8_compares_39 : decode cX8_compares 39 = .ok (.iconst 1, 1) := by decide +kernel
theorem dX8_compares_40 : decode cX8_compares 40 = .ok (.iadd, 1) := by decide +kernel
theorem dX8_compares_41 : decode cX8_compares 41 = .ok (.putfield 132, 3) := by decide +kernel
theorem dX8_compares_44 : decode cX8_compares 44 = .ok (.aload_n 0, 1) := by decide +kernel
theorem dX8_compares_45 : decode cX8_compares 45 = .ok (.invokevirtual 176, 3) := by decide +kernel
theorem dX8_compares_48 : decode cX8_compares 48 = .ok (.aload_n 0, 1) := by decide +kernel
theorem dX8_compares_49 : decode cX8_compares 49 = .ok (.iload_n 1, 1) := by decide +kernel
theorem dX8_compares_50 : decode cX8_compares 50 = .ok (.iconst 0, 1) := by decide +kernel
theorem dX8_compares_51 : decode cX8_compares 51 = .ok (.invokevirtual 150, 3) := by decide +kernel
theorem dX8_compares_54 : decode cX8_compares 54 = .ok (.return_, 1) := by decide +kernel
theorem dX8_all_0 : decode cX8_all 0 = .ok (.aload_n 0, 1) := by decide +kernel
theorem dX8_all_1 : decode cX8_all 1 = .ok (.invokevirtual 179, 3) := by decide +kernel
theorem dX8_all_4 : decode cX8_all 4 = .ok (.aload_n 0, 1) := by decide +kernel
theorem dX8_all_5 : decode cX8_all 5 = .ok (.getfield 146, 3) := by decide +kernel
theorem dX8_all_8 : decode cX8_all 8 = .ok (.ifCond .ne 36, 3) := by decide +kernel
theorem dX8_all_11 : decode cX8_all 11 = .ok (.aload_n 0, 1) := by decide +kernel
theorem dX8_all_12 : decode cX8_all 12 = .ok (.invokevirtual 142, 3) := by decide +kernel
theorem dX8_all_15 : decode cX8_all 15 = .ok (.bipush 38, 2) := by decide +kernel
theorem dX8_all_17 : decode cX8_all 17 = .ok (.if_icmp .ne 27, 3) := by decide +kernel
theorem dX8_all_20 : decode cX8_all 20 = .ok (.aload_n 0, 1) := by decide +kernel
theorem dX8_all_21 : decode cX8_all 21 = .ok (.dup, 1) := by decide +kernel
theorem dX8_all_22 : decode cX8_all 22 = .ok (.getfield 132, 3) := by decide +kernel
theorem dX8_all_25 : decode cX8_all 25 = .ok (.iconst 1, 1) := by decide +kernel
theorem dX8_all_26 : decode cX8_all 26 = .ok (.iadd, 1) := by decide +kernel
theorem dX8_all_27 : decode cX8_all 27 = .ok (.putfield 132, 3) := by decide +kernel
theorem dX8_all_30 : decode cX8_all 30 = .ok (.aload_n 0, 1) := by decide +kernel
theorem dX8_all_31 : decode cX8_all 31 = .ok (.invokevirtual 179, 3) := by decide +kernel
theorem dX8_all_34 : decode cX8_all 34 = .ok (.aload_n 0, 1) := by decide +kernel
theorem dX8_all_35 : decode cX8_all 35 = .ok (.bipush 38, 2) := by decide +kernel
theorem dX8_all_37 : decode cX8_all 37 = .ok (.iconst 0, 1) := by decide +kernel
theorem dX8_all_38 : decode cX8_all 38 = .ok (.invokevirtual 150, 3) := by decide +kernel
theorem dX8_all_41 : decode cX8_all 41 = .ok (.goto (-37), 3) := by decide +kernel
theorem dX8_all_44 : decode cX8_all 44 = .ok (.return_, 1) := by decide +kernel
theorem dX8_any_0 : decode cX8_any 0 = .ok (.aload_n 0, 1) := by decide +kernel
theorem dX8_any_1 : decode cX8_any 1 = .ok (.invokevirtual 182, 3) := by decide +kernel
theorem dX8_any_4 : decode cX8_any 4 = .ok (.aload_n 0, 1) := by decide +kernel
theorem dX8_any_5 : decode cX8_any 5 = .ok (.getfield 146, 3) := by decide +kernel
theorem dX8_any_8 : decode cX8_any 8 = .ok (.ifCond .ne 36, 3) := by decide +kernel
theorem dX8_any_11 : decode cX8_any 11 = .ok (.aload_n 0, 1) := by decide +kernel
theorem dX8_any_12 : decode cX8_any 12 = .ok (.invokevirtual 142, 3) := by decide +kernel
theorem dX8_any_15 : decode cX8_any 15 = .ok (.bipush 124, 2) := by decide +kernel
theorem dX8_any_17 : decode cX8_any 17 = .ok (.if_icmp .ne 27, 3) := by decide +kernel
theorem dX8_any_20 : decode cX8_any 20 = .ok (.aload_n 0, 1) := by decide +kernel
theorem dX8_any_21 : decode cX8_any 21 = .ok (.dup, 1) := by decide +kernel
theorem dX8_any_22 : decode cX8_any 22 = .ok (.getfield 132, 3) := by decide +kernel
theorem dX8_any_25 : decode cX8_any 25 = .ok (.iconst 1, 1) := by decide +kernel
theorem dX8_any_26 : decode cX8_any 26 = .ok (.iadd, 1) := by decide +kernel
theorem dX8_any_27 : decode cX8_any 27 = .ok (.putfield 132, 3) := by decide +kernel
theorem dX8_any_30 : decode cX8_any 30 = .ok (.aload_n 0, 1) := by decide +kernel
theorem dX8_any_31 : decode cX8_any 31 = .ok (.invokevirtual 182, 3) := by decide +kernel
theorem dX8_any_34 : decode cX8_any 34 = .ok (.aload_n 0, 1) := by decide +kernel
theorem dX8_any_35 : decode cX8_any 35 = .ok (.bipush 124, 2) := by decide +kernel
theorem dX8_any_37 : decode cX8_any 37 = .ok (.iconst 0, 1) := by decide +kernel
theorem dX8_any_38 : decode cX8_any 38 = .ok (.invokevirtual 150, 3) := by decide +kernel
theorem dX8_any_41 : decode cX8_any 41 = .ok (.goto (-37), 3) := by decide +kernel
theorem dX8_any_44 : decode cX8_any 44 = .ok (.return_, 1) := by decide +kernel
theorem dX8_text_0 : decode cX8_text 0 = .ok (.iload_n 1, 1) := by decide +kernel
theorem dX8_text_1 : decode cX8_text 1 = .ok (.iconst 0, 1) := by decide +kernel
theorem dX8_text_2 : decode cX8_text 2 = .ok (.iconst 1, 1) := by decide +kernel
theorem dX8_text_3 : decode cX8_text 3 = .ok (.invokestatic 51, 3) := by decide +kernel
theorem dX8_text_6 : decode cX8_text 6 = .ok (.ifCond .ne 10, 3) := by decide +kernel
theorem dX8_text_9 : decode cX8_text 9 = .ok (.aload_n 0, 1) := by decide +kernel
theorem dX8_text_10 : decode cX8_text 10 = .ok (.ldc 100, 2) := by decide +kernel
theorem dX8_text_12 : decode cX8_text 12 = .ok (.invokevirtual 101, 3) := by decide +kernel
theorem dX8_text_15 : decode cX8_text 15 = .ok (.ireturn, 1) := by decide +kernel
theorem dX8_text_16 : decode cX8_text 16 = .ok (.aload_n 0, 1) := by decide +kernel
theorem dX8_text_17 : decode cX8_text 17 = .ok (.iload_n 1, 1) := by decide +kernel
theorem dX8_text_18 : decode cX8_text 18 = .ok (.putfield 139, 3) := by decide +kernel
theorem dX8_text_21 : decode cX8_text 21 = .ok (.aload_n 0, 1) := by decide +kernel
theorem dX8_text_22 : decode cX8_text 22 = .ok (.iconst 0, 1) := by decide +kernel
theorem dX8_text_23 : decode cX8_text 23 = .ok (.putfield 136, 3) := by decide +kernel
theorem dX8_text_26 : decode cX8_text 26 = .ok (.aload_n 0, 1) := by decide +kernel
theorem dX8_text_27 : decode cX8_text 27 = .ok (.iconst 0, 1) := by decide +kernel
theorem dX8_text_28 : decode cX8_text 28 = .ok (.putfield 132, 3) := by decide +kernel
theorem dX8_text_31 : decode cX8_text 31 = .ok (.aload_n 0, 1) := by decide +kernel
theorem dX8_text_32 : decode cX8_text 32 = .ok (.iconst 0, 1) := by decide +kernel
theorem dX8_text_33 : decode cX8_text 33 = .ok (.putfield 154, 3) := by decide +kernel
theorem dX8_text_36 : decode cX8_text 36 = .ok (.aload_n 0, 1) := by decide +kernel
theorem dX8_text_37 : decode cX8_text 37 = .ok (.iconst 0, 1) := by decide +kernel
theorem dX8_text_38 : decode cX8_text 38 = .ok (.putfield 146, 3) := by decide +kernel
theorem dX8_text_41 : decode cX8_text 41 = .ok (.aload_n 0, 1) := by decide +kernel
theorem dX8_text_42 : decode cX8_text 42 = .ok (.invokevirtual 160, 3) := by decide +kernel
theorem dX8_text_45 : decode cX8_text 45 = .ok (.aload_n 0, 1) := by decide +kernel
theorem dX8_text_46 : decode cX8_text 46 = .ok (.aload_n 0, 1) := by decide +kernel
theorem dX8_text_47 : decode cX8_text 47 = .ok (.getfield 146, 3) := by decide +kernel
theorem dX8_text_50 : decode cX8_text 50 = .ok (.ifCond .ne 16, 3) := by decide +kernel
theorem dX8_text_53 : decode cX8_text 53 = .ok (.aload_n 0, 1) := by decide +kernel
theorem dX8_text_54 : decode cX8_text 54 = .ok (.getfield 132, 3) := by decide +kernel
theorem dX8_text_57 : decode cX8_text 57 = .ok (.aload_n 0, 1) := by decide +kernel
theorem dX8_text_58 : decode cX8_text 58 = .ok (.getfield 9, 3) := by decide +kernel
theorem dX8_text_61 : decode cX8_text 61 = .ok (.iconst 4, 1) := by decide +kernel
theorem dX8_text_62 : decode cX8_text 62 = .ok (.iaload, 1) := by decide +kernel
theorem dX8_text_63 : decode cX8_text 63 = .ok (.if_icmp .ge 7, 3) := by decide +kernel
theorem dX8_text_66 : decode cX8_text 66 = .ok (.iconst 1, 1) := by decide +kernel
theorem dX8_text_67 : decode cX8_text 67 = .ok (.goto 4, 3) := by decide +kernel
theorem dX8_text_70 : decode cX8_text 70 = .ok (.iconst 0, 1) := by decide +kernel
theorem dX8_text_71 : decode cX8_text 71 = .ok (.putfield 146, 3) := by decide +kernel
theorem dX8_text_74 : decode cX8_text 74 = .ok (.aload_n 0, 1) := by decide +kernel
theorem dX8_text_75 : decode cX8_text 75 = .ok (.getfield 9, 3) := by decide +kernel
theorem dX8_text_78 : decode cX8_text 78 = .ok (.iconst 4, 1) := by decide +kernel
theorem dX8_text_79 : decode cX8_text 79 = .ok (.iconst 0, 1) := by decide +kernel
theorem dX8_text_80 : decode cX8_text 80 = .ok (.iastore, 1) := by decide +kernel
theorem dX8_text_81 : decode cX8_text 81 = .ok (.aload_n 0, 1) := by decide +kernel
theorem dX8_text_82 : decode cX8_text 82 = .ok (.getfield 146, 3) := by decide +kernel
theorem dX8_text_85 : decode cX8_text 85 = .ok (.ifCond .eq 11, 3) := by decide +kernel
theorem dX8_text_88 : decode cX8_text 88 = .ok (.bipush (-10), 2) := by decide +kernel
theorem dX8_text_90 : decode cX8_text 90 = .ok (.aload_n 0, 1) := by decide +kernel
theorem dX8_text_91 : decode cX8_text 91 = .ok (.getfield 132, 3) := by decide +kernel
theorem dX8_text_94 : decode cX8_text 94 = .ok (.isub, 1) := by decide +kernel
theorem dX8_text_95 : decode cX8_text 95 = .ok (.ireturn, 1) := by decide +kernel
theorem dX8_text_96 : decode cX8_text 96 = .ok (.sipush 282, 3) := by decide +kernel
theorem dX8_text_99 : decode cX8_text 99 = .ok (.bipush 121, 2) := by decide +kernel
theorem dX8_text_101 : decode cX8_text 101 = .ok (.iload_n 1, 1) := by decide +kernel
theorem dX8_text_102 : decode cX8_text 102 = .ok (.imul, 1) := by decide +kernel
theorem dX8_text_103 : decode cX8_text 103 = .ok (.iadd, 1) := by decide +kernel
theorem dX8_text_104 : decode cX8_text 104 = .ok (.istore_n 2, 1) := by decide +kernel
theorem dX8_text_105 : decode cX8_text 105 = .ok (.aload_n 0, 1) := by decide +kernel
theorem dX8_text_106 : decode cX8_text 106 = .ok (.getfield 9, 3) := by decide +kernel
theorem dX8_text_109 : decode cX8_text 109 = .ok (.iload_n 2, 1) := by decide +kernel
theorem dX8_text_110 : decode cX8_text 110 = .ok (.aload_n 0, 1) := by decide +kernel
theorem dX8_text_111 : decode cX8_text 111 = .ok (.getfield 136, 3) := by decide +kernel
theorem dX8_text_114 : decode cX8_text 114 = .ok (.iastore, 1) := by decide +kernel
theorem dX8_text_115 : decode cX8_text 115 = .ok (.iconst 0, 1) := by decide +kernel
theorem dX8_text_116 : decode cX8_text 116 = .ok (.istore_n 3, 1) := by decide +kernel
theorem dX8_text_117 : decode cX8_text 117 = .ok (.iload_n 3, 1) := by decide +kernel
theorem dX8_text_118 : decode cX8_text 118 = .ok (.aload_n 0, 1) := by decide +kernel
theorem dX8_text_119 : decode cX8_text 119 = .ok (.getfield 136, 3) := by decide +kernel
theorem dX8_text_122 : decode cX8_text 122 = .ok (.if_icmp .ge 42, 3) := by decide +kernel
theorem dX8_text_125 : decode cX8_text 125 = .ok (.aload_n 0, 1) := by decide +kernel
theorem dX8_text_126 : decode cX8_text 126 = .ok (.getfield 9, 3) := by decide +kernel
theorem dX8_text_129 : decode cX8_text 129 = .ok (.iload_n 2, 1) := by decide +kernel
theorem dX8_text_130 : decode cX8_text 130 = .ok (.iconst 1, 1) := by decide +kernel
theorem dX8_text_131 : decode cX8_text 131 = .ok (.iadd, 1) := by decide +kernel
theorem dX8_text_132 : decode cX8_text 132 = .ok (.iload_n 3, 1) := by decide +kernel
theorem dX8_text_133 : decode cX8_text 133 = .ok (.iadd, 1) := by decide +kernel
theorem dX8_text_134 : decode cX8_text 134 = .ok (.aload_n 0, 1) := by decide +kernel
theorem dX8_text_135 : decode cX8_text 135 = .ok (.getfield 31, 3) := by decide +kernel
theorem dX8_text_138 : decode cX8_text 138 = .ok (.iload_n 3, 1) := by decide +kernel
theorem dX8_text_139 : decode cX8_text 139 = .ok (.iaload, 1) := by decide +kernel
theorem dX8_text_140 : decode cX8_text 140 = .ok (.iastore, 1) := by decide +kernel
theorem dX8_text_141 : decode cX8_text 141 = .ok (.aload_n 0, 1) := by decide +kernel
theorem dX8_text_142 : decode cX8_text 142 = .ok (.getfield 9, 3) := by decide +kernel
theorem dX8_text_145 : decode cX8_text 145 = .ok (.iload_n 2, 1) := by decide +kernel
theorem dX8_text_146 : decode cX8_text 146 = .ok (.bipush 61, 2) := by decide +kernel
theorem dX8_text_148 : decode cX8_text 148 = .ok (.iadd, 1) := by decide +kernel
theorem dX8_text_149 : decode cX8_text 149 = .ok (.iload_n 3, 1) := by decide +kernel
theorem dX8_text_150 : decode cX8_text 150 = .ok (.iadd, 1) := by decide +kernel
theorem dX8_text_151 : decode cX8_text 151 = .ok (.aload_n 0, 1) := by decide +kernel
theorem dX8_text_152 : decode cX8_text 152 = .ok (.getfield 34, 3) := by decide +kernel
theorem dX8_text_155 : decode cX8_text 155 = .ok (.iload_n 3, 1) := by decide +kernel
theorem dX8_text_156 : decode cX8_text 156 = .ok (.iaload, 1) := by decide +kernel
theorem dX8_text_157 : decode cX8_text 157 = .ok (.iastore, 1) := by decide +kernel
theorem dX8_text_158 : decode cX8_text 158 = .ok (.iinc 3 1, 3) := by decide +kernel
theorem dX8_text_161 : decode cX8_text 161 = .ok (.goto (-44), 3) := by decide +kernel
theorem dX8_text_164 : decode cX8_text 164 = .ok (.iconst 1, 1) := by decide +kernel
theorem dX8_text_165 : decode cX8_text 165 = .ok (.ireturn, 1) := by decide +kernel
theorem dX8_untell_0 : decode cX8_untell 0 = .ok (.iload_n 1, 1) := by decide +kernel
theorem dX8_untell_1 : decode cX8_untell 1 = .ok (.iconst 0, 1) := by decide +kernel
theorem dX8_untell_2 : decode cX8_untell 2 = .ok (.iconst 1, 1) := by decide +kernel
theorem dX8_untell_3 : decode cX8_untell 3 = .ok (.invokestatic 51, 3) := by decide +kernel
theorem dX8_untell_6 : decode cX8_untell 6 = .ok (.ifCond .ne 10, 3) := by decide +kernel
theorem dX8_untell_9 : decode cX8_untell 9 = .ok (.aload_n 0, 1) := by decide +kernel
theorem dX8_untell_10 : decode cX8_untell 10 = .ok (.ldc 100, 2) := by decide +kernel
theorem dX8_untell_12 : decode cX8_untell 12 = .ok (.invokevirtual 101, 3) := by decide +kernel
theorem dX8_untell_15 : decode cX8_untell 15 = .ok (.ireturn, 1) := by decide +kernel
theorem dX8_untell_16 : decode cX8_untell 16 = .ok (.aload_n 0, 1) := by decide +kernel
theorem dX8_untell_17 : decode cX8_untell 17 = .ok (.sipush 282, 3) := by decide +kernel
theorem dX8_untell_20 : decode cX8_untell 20 = .ok (.bipush 121, 2) := by decide +kernel
theorem dX8_untell_22 : decode cX8_untell 22 = .ok (.iload_n 1, 1) := by decide +kernel
theorem dX8_untell_23 : decode cX8_untell 23 = .ok (.imul, 1) := by decide +kernel
theorem dX8_untell_24 : decode cX8_untell 24 = .ok (.iadd, 1) := by decide +kernel
theorem dX8_untell_25 : decode cX8_untell 25 = .ok (.iconst 0, 1) := by decide +kernel
theorem dX8_untell_26 : decode cX8_untell 26 = .ok (.invokevirtual 119, 3) := by decide +kernel
theorem dX8_untell_29 : decode cX8_untell 29 = .ok (.ifCond .le 7, 3) := by decide +kernel
theorem dX8_untell_32 : decode cX8_untell 32 = .ok (.iconst 1, 1) := by decide +kernel
theorem dX8_untell_33 : decode cX8_untell 33 = .ok (.goto 4, 3) := by decide +kernel
theorem dX8_untell_36 : decode cX8_untell 36 = .ok (.iconst 0, 1) := by decide +kernel
theorem dX8_untell_37 : decode cX8_untell 37 = .ok (.ireturn, 1) := by decide +kernel
theorem dX8_twoOf_0 : decode cX8_twoOf 0 = .ok (.iload_n 0, 1) := by decide +kernel
theorem dX8_twoOf_1 : decode cX8_twoOf 1 = .ok (.tableswitch 202 37 62 #[143, 188, 202, 202, 202, 127, 119, 202, 123, 202, 131, 202, 202, 202, 202, 202, 202, 202, 202, 202, 202, 202, 202, 155, 166, 177], 119) := by decide +kernel
theorem dX8_twoOf_120 : decode cX8_twoOf 120 = .ok (.iload_n 1, 1) := by decide +kernel
theorem dX8_twoOf_121 : decode cX8_twoOf 121 = .ok (.iload_n 2, 1) := by decide +kernel
theorem dX8_twoOf_122 : decode cX8_twoOf 122 = .ok (.iadd, 1) := by decide +kernel
theorem dX8_twoOf_123 : decode cX8_twoOf 123 = .ok (.ireturn, 1) := by decide +kernel
theorem dX8_twoOf_124 : decode cX8_twoOf 124 = .ok (.iload_n 1, 1) := by decide +kernel
theorem dX8_twoOf_125 : decode cX8_twoOf 125 = .ok (.iload_n 2, 1) := by decide +kernel
theorem dX8_twoOf_126 : decode cX8_twoOf 126 = .ok (.isub, 1) := by decide +kernel
theorem dX8_twoOf_127 : decode cX8_twoOf 127 = .ok (.ireturn, 1) := by decide +kernel
theorem dX8_twoOf_128 : decode cX8_twoOf 128 = .ok (.iload_n 1, 1) := by decide +kernel
theorem dX8_twoOf_129 : decode cX8_twoOf 129 = .ok (.iload_n 2, 1) := by decide +kernel
theorem dX8_twoOf_130 : decode cX8_twoOf 130 = .ok (.imul, 1) := by decide +kernel
theorem dX8_twoOf_131 : decode cX8_twoOf 131 = .ok (.ireturn, 1) := by decide +kernel
theorem dX8_twoOf_132 : decode cX8_twoOf 132 = .ok (.iload_n 2, 1) := by decide +kernel
theorem dX8_twoOf_133 : decode cX8_twoOf 133 = .ok (.ifCond .ne 7, 3) := by decide +kernel
theorem dX8_twoOf_136 : decode cX8_twoOf 136 = .ok (.iconst 0, 1) := by decide +kernel
theorem dX8_twoOf_137 : decode cX8_twoOf 137 = .ok (.goto 6, 3) := by decide +kernel
theorem dX8_twoOf_140 : decode cX8_twoOf 140 = .ok (.iload_n 1, 1) := by decide +kernel
theorem dX8_twoOf_141 : decode cX8_twoOf 141 = .ok (.iload_n 2, 1) := by decide +kernel
theorem dX8_twoOf_142 : decode cX8_twoOf 142 = .ok (.idiv, 1) := by decide +kernel
theorem dX8_twoOf_143 : decode cX8_twoOf 143 = .ok (.ireturn, 1) := by decide +kernel
theorem dX8_twoOf_144 : decode cX8_twoOf 144 = .ok (.iload_n 2, 1) := by decide +kernel
theorem dX8_twoOf_145 : decode cX8_twoOf 145 = .ok (.ifCond .ne 7, 3) := by decide +kernel
theorem dX8_twoOf_148 : decode cX8_twoOf 148 = .ok (.iconst 0, 1) := by decide +kernel
theorem dX8_twoOf_149 : decode cX8_twoOf 149 = .ok (.goto 6, 3) := by decide +kernel
theorem dX8_twoOf_152 : decode cX8_twoOf 152 = .ok (.iload_n 1, 1) := by decide +kernel
theorem dX8_twoOf_153 : decode cX8_twoOf 153 = .ok (.iload_n 2, 1) := by decide +kernel
theorem dX8_twoOf_154 : decode cX8_twoOf 154 = .ok (.irem, 1) := by decide +kernel
theorem dX8_twoOf_155 : decode cX8_twoOf 155 = .ok (.ireturn, 1) := by decide +kernel
theorem dX8_twoOf_156 : decode cX8_twoOf 156 = .ok (.iload_n 1, 1) := by decide +kernel
theorem dX8_twoOf_157 : decode cX8_twoOf 157 = .ok (.iload_n 2, 1) := by decide +kernel
theorem dX8_twoOf_158 : decode cX8_twoOf 158 = .ok (.if_icmp .ge 7, 3) := by decide +kernel
theorem dX8_twoOf_161 : decode cX8_twoOf 161 = .ok (.iconst 1, 1) := by decide +kernel
theorem dX8_twoOf_162 : decode cX8_twoOf 162 = .ok (.goto 4, 3) := by decide +kernel
theorem dX8_twoOf_165 : decode cX8_twoOf 165 = .ok (.iconst 0, 1) := by decide +kernel
theorem dX8_twoOf_166 : decode cX8_twoOf 166 = .ok (.ireturn, 1) := by decide +kernel
theorem dX8_twoOf_167 : decode cX8_twoOf 167 = .ok (.iload_n 1, 1) := by decide +kernel
theorem dX8_twoOf_168 : decode cX8_twoOf 168 = .ok (.iload_n 2, 1) := by decide +kernel
theorem dX8_twoOf_169 : decode cX8_twoOf 169 = .ok (.if_icmp .ne 7, 3) := by decide +kernel
theorem dX8_twoOf_172 : decode cX8_twoOf 172 = .ok (.iconst 1, 1) := by decide +kernel
theorem dX8_twoOf_173 : decode cX8_twoOf 173 = .ok (.goto 4, 3) := by decide +kernel
theorem dX8_twoOf_176 : decode cX8_twoOf 176 = .ok (.iconst 0, 1) := by decide +kernel
theorem dX8_twoOf_177 : decode cX8_twoOf 177 = .ok (.ireturn, 1) := by decide +kernel
theorem dX8_twoOf_178 : decode cX8_twoOf 178 = .ok (.iload_n 1, 1) := by decide +kernel
theorem dX8_twoOf_179 : decode cX8_twoOf 179 = .ok (.iload_n 2, 1) := by decide +kernel
theorem dX8_twoOf_180 : decode cX8_twoOf 180 = .ok (.if_icmp .le 7, 3) := by decide +kernel
theorem dX8_twoOf_183 : decode cX8_twoOf 183 = .ok (.iconst 1, 1) := by decide +kernel
theorem dX8_twoOf_184 : decode cX8_twoOf 184 = .ok (.goto 4, 3) := by decide +kernel
theorem dX8_twoOf_187 : decode cX8_twoOf 187 = .ok (.iconst 0, 1) := by decide +kernel
theorem dX8_twoOf_188 : decode cX8_twoOf 188 = .ok (.ireturn, 1) := by decide +kernel
theorem dX8_twoOf_189 : decode cX8_twoOf 189 = .ok (.iload_n 1, 1) := by decide +kernel
theorem dX8_twoOf_190 : decode cX8_twoOf 190 = .ok (.ifCond .eq 11, 3) := by decide +kernel
theorem dX8_twoOf_193 : decode cX8_twoOf 193 = .ok (.iload_n 2, 1) := by decide +kernel
theorem dX8_twoOf_194 : decode cX8_twoOf 194 = .ok (.ifCond .eq 7, 3) := by decide +kernel
theorem dX8_twoOf_197 : decode cX8_twoOf 197 = .ok (.iconst 1, 1) := by decide +kernel
theorem dX8_twoOf_198 : decode cX8_twoOf 198 = .ok (.goto 4, 3) := by decide +kernel
theorem dX8_twoOf_201 : decode cX8_twoOf 201 = .ok (.iconst 0, 1) := by decide +kernel
theorem dX8_twoOf_202 : decode cX8_twoOf 202 = .ok (.ireturn, 1) := by decide +kernel
theorem dX8_twoOf_203 : decode cX8_twoOf 203 = .ok (.iload_n 1, 1) := by decide +kernel
theorem dX8_twoOf_204 : decode cX8_twoOf 204 = .ok (.ifCond .ne 7, 3) := by decide +kernel
theorem dX8_twoOf_207 : decode cX8_twoOf 207 = .ok (.iload_n 2, 1) := by decide +kernel
theorem dX8_twoOf_208 : decode cX8_twoOf 208 = .ok (.ifCond .eq 7, 3) := by decide +kernel
theorem dX8_twoOf_211 : decode cX8_twoOf 211 = .ok (.iconst 1, 1) := by decide +kernel
theorem dX8_twoOf_212 : decode cX8_twoOf 212 = .ok (.goto 4, 3) := by decide +kernel
theorem dX8_twoOf_215 : decode cX8_twoOf 215 = .ok (.iconst 0, 1) := by decide +kernel
theorem dX8_twoOf_216 : decode cX8_twoOf 216 = .ok (.ireturn, 1) := by decide +kernel
theorem dX8_works_0 : decode cX8_works 0 = .ok (.iconst 0, 1) := by decide +kernel
theorem dX8_works_1 : decode cX8_works 1 = .ok (.istore_n 2, 1) := by decide +kernel
theorem dX8_works_2 : decode cX8_works 2 = .ok (.iconst 0, 1) := by decide +kernel
theorem dX8_works_3 : decode cX8_works 3 = .ok (.istore_n 3, 1) := by decide +kernel
theorem dX8_works_4 : decode cX8_works 4 = .ok (.iload_n 3, 1) := by decide +kernel
theorem dX8_works_5 : decode cX8_works 5 = .ok (.aload_n 0, 1) := by decide +kernel
theorem dX8_works_6 : decode cX8_works 6 = .ok (.getfield 9, 3) := by decide +kernel
theorem dX8_works_9 : decode cX8_works 9 = .ok (.iload_n 1, 1) := by decide +kernel
theorem dX8_works_10 : decode cX8_works 10 = .ok (.iaload, 1) := by decide +kernel
theorem dX8_works_11 : decode cX8_works 11 = .ok (.if_icmp .ge 144, 3) := by decide +kernel
theorem dX8_works_14 : decode cX8_works 14 = .ok (.aload_n 0, 1) := by decide +kernel
theorem dX8_works_15 : decode cX8_works 15 = .ok (.getfield 9, 3) := by decide +kernel
theorem dX8_works_18 : decode cX8_works 18 = .ok (.iload_n 1, 1) := by decide +kernel
theorem dX8_works_19 : decode cX8_works 19 = .ok (.iconst 1, 1) := by decide +kernel
theorem dX8_works_20 : decode cX8_works 20 = .ok (.iadd, 1) := by decide +kernel
theorem dX8_works_21 : decode cX8_works 21 = .ok (.iload_n 3, 1) := by decide +kernel
theorem dX8_works_22 : decode cX8_works 22 = .ok (.iadd, 1) := by decide +kernel
theorem dX8_works_23 : decode cX8_works 23 = .ok (.iaload, 1) := by decide +kernel
theorem dX8_works_24 : decode cX8_works 24 = .ok (.istore 4, 2) := by decide +kernel
theorem dX8_works_26 : decode cX8_works 26 = .ok (.iload 4, 2) := by decide +kernel
theorem dX8_works_28 : decode cX8_works 28 = .ok (.iconst 1, 1) := by decide +kernel
theorem dX8_works_29 : decode cX8_works 29 = .ok (.if_icmp .eq 9, 3) := by decide +kernel
theorem dX8_works_32 : decode cX8_works 32 = .ok (.iload 4, 2) := by decide +kernel
theorem dX8_works_34 : decode cX8_works 34 = .ok (.iconst 2, 1) := by decide +kernel
theorem dX8_works_35 : decode cX8_works 35 = .ok (.if_icmp .ne 51, 3) := by decide +kernel
theorem dX8_works_38 : decode cX8_works 38 = .ok (.aload_n 0, 1) := by decide +kernel
theorem dX8_works_39 : decode cX8_works 39 = .ok (.getfield 40, 3) := by decide +kernel
theorem dX8_works_42 : decode cX8_works 42 = .ok (.iload_n 2, 1) := by decide +kernel
theorem dX8_works_43 : decode cX8_works 43 = .ok (.iload 4, 2) := by decide +kernel
theorem dX8_works_45 : decode cX8_works 45 = .ok (.iconst 1, 1) := by decide +kernel
theorem dX8_works_46 : decode cX8_works 46 = .ok (.if_icmp .ne 17, 3) := by decide +kernel
theorem dX8_works_49 : decode cX8_works 49 = .ok (.aload_n 0, 1) := by decide +kernel
theorem dX8_works_50 : decode cX8_works 50 = .ok (.getfield 9, 3) := by decide +kernel
theorem dX8_works_53 : decode cX8_works 53 = .ok (.iload_n 1, 1) := by decide +kernel
theorem dX8_works_54 : decode cX8_works 54 = .ok (.bipush 61, 2) := by decide +kernel
theorem dX8_works_56 : decode cX8_works 56 = .ok (.iadd, 1) := by decide +kernel
theorem dX8_works_57 : decode cX8_works 57 = .ok (.iload_n 3, 1) := by decide +kernel
theorem dX8_works_58 : decode cX8_works 58 = .ok (.iadd, 1) := by decide +kernel
theorem dX8_works_59 : decode cX8_works 59 = .ok (.iaload, 1) := by decide +kernel
theorem dX8_works_60 : decode cX8_works 60 = .ok (.goto 19, 3) := by decide +kernel
theorem dX8_works_63 : decode cX8_works 63 = .ok (.aload_n 0, 1) := by decide +kernel
theorem dX8_works_64 : decode cX8_works 64 = .ok (.getfield 37, 3) := by decide +kernel
theorem dX8_works_67 : decode cX8_works 67 = .ok (.aload_n 0, 1) := by decide +kernel
theorem dX8_works_68 : decode cX8_works 68 = .ok (.getfield 9, 3) := by decide +kernel
theorem dX8_works_71 : decode cX8_works 71 = .ok (.iload_n 1, 1) := by decide +kernel
theorem dX8_works_72 : decode cX8_works 72 = .ok (.bipush 61, 2) := by decide +kernel
theorem dX8_works_74 : decode cX8_works 74 = .ok (.iadd, 1) := by decide +kernel
theorem dX8_works_75 : decode cX8_works 75 = .ok (.iload_n 3, 1) := by decide +kernel
theorem dX8_works_76 : decode cX8_works 76 = .ok (.iadd, 1) := by decide +kernel
theorem dX8_works_77 : decode cX8_works 77 = .ok (.iaload, 1) := by decide +kernel
theorem dX8_works_78 : decode cX8_works 78 = .ok (.iaload, 1) := by decide +kernel
theorem dX8_works_79 : decode cX8_works 79 = .ok (.iastore, 1) := by decide +kernel
theorem dX8_works_80 : decode cX8_works 80 = .ok (.iinc 2 1, 3) := by decide +kernel
theorem dX8_works_83 : decode cX8_works 83 = .ok (.goto 66, 3) := by decide +kernel
theorem dX8_works_86 : decode cX8_works 86 = .ok (.iload 4, 2) := by decide +kernel
theorem dX8_works_88 : decode cX8_works 88 = .ok (.iconst 3, 1) := by decide +kernel
theorem dX8_works_89 : decode cX8_works 89 = .ok (.if_icmp .ne 30, 3) := by decide +kernel
theorem dX8_works_92 : decode cX8_works 92 = .ok (.aload_n 0, 1) := by decide +kernel
theorem dX8_works_93 : decode cX8_works 93 = .ok (.getfield 40, 3) := by decide +kernel
theorem dX8_works_96 : decode cX8_works 96 = .ok (.iload_n 2, 1) := by decide +kernel
theorem dX8_works_97 : decode cX8_works 97 = .ok (.iconst 1, 1) := by decide +kernel
theorem dX8_works_98 : decode cX8_works 98 = .ok (.isub, 1) := by decide +kernel
theorem dX8_works_99 : decode cX8_works 99 = .ok (.aload_n 0, 1) := by decide +kernel
theorem dX8_works_100 : decode cX8_works 100 = .ok (.getfield 40, 3) := by decide +kernel
theorem dX8_works_103 : decode cX8_works 103 = .ok (.iload_n 2, 1) := by decide +kernel
theorem dX8_works_104 : decode cX8_works 104 = .ok (.iconst 1, 1) := by decide +kernel
theorem dX8_works_105 : decode cX8_works 105 = .ok (.isub, 1) := by decide +kernel
theorem dX8_works_106 : decode cX8_works 106 = .ok (.iaload, 1) := by decide +kernel
theorem dX8_works_107 : decode cX8_works 107 = .ok (.ifCond .ne 7, 3) := by decide +kernel
theorem dX8_works_110 : decode cX8_works 110 = .ok (.iconst 1, 1) := by decide +kernel
theorem dX8_works_111 : decode cX8_works 111 = .ok (.goto 4, 3) := by decide +kernel
theorem dX8_works_114 : decode cX8_works 114 = .ok (.iconst 0, 1) := by decide +kernel
theorem dX8_works_115 : decode cX8_works 115 = .ok (.iastore, 1) := by decide +kernel
theorem dX8_works_116 : decode cX8_works 116 = .ok (.goto 33, 3) := by decide +kernel
theorem dX8_works_119 : decode cX8_works 119 = .ok (.iinc 2 (-1), 3) := by decide +kernel
theorem dX8_works_122 : decode cX8_works 122 = .ok (.aload_n 0, 1) := by decide +kernel
theorem dX8_works_123 : decode cX8_works 123 = .ok (.getfield 40, 3) := by decide +kernel
theorem dX8_works_126 : decode cX8_works 126 = .ok (.iload_n 2, 1) := by decide +kernel
theorem dX8_works_127 : decode cX8_works 127 = .ok (.iconst 1, 1) := by decide +kernel
theorem dX8_works_128 : decode cX8_works 128 = .ok (.isub, 1) := by decide +kernel
theorem dX8_works_129 : decode cX8_works 129 = .ok (.iload 4, 2) := by decide +kernel
theorem dX8_works_131 : decode cX8_works 131 = .ok (.aload_n 0, 1) := by decide +kernel
theorem dX8_works_132 : decode cX8_works 132 = .ok (.getfield 40, 3) := by decide +kernel
theorem dX8_works_135 : decode cX8_works 135 = .ok (.iload_n 2, 1) := by decide +kernel
theorem dX8_works_136 : decode cX8_works 136 = .ok (.iconst 1, 1) := by decide +kernel
theorem dX8_works_137 : decode cX8_works 137 = .ok (.isub, 1) := by decide +kernel
theorem dX8_works_138 : decode cX8_works 138 = .ok (.iaload, 1) := by decide +kernel
theorem dX8_works_139 : decode cX8_works 139 = .ok (.aload_n 0, 1) := by decide +kernel
theorem dX8_works_140 : decode cX8_works 140 = .ok (.getfield 40, 3) := by decide +kernel
theorem dX8_works_143 : decode cX8_works 143 = .ok (.iload_n 2, 1) := by decide +kernel
theorem dX8_works_144 : decode cX8_works 144 = .ok (.iaload, 1) := by decide +kernel
theorem dX8_works_145 : decode cX8_works 145 = .ok (.invokestatic 185, 3) := by decide +kernel
theorem dX8_works_148 : decode cX8_works 148 = .ok (.iastore, 1) := by decide +kernel
theorem dX8_works_149 : decode cX8_works 149 = .ok (.iinc 3 1, 3) := by decide +kernel
theorem dX8_works_152 : decode cX8_works 152 = .ok (.goto (-148), 3) := by decide +kernel
theorem dX8_works_155 : decode cX8_works 155 = .ok (.aload_n 0, 1) := by decide +kernel
theorem dX8_works_156 : decode cX8_works 156 = .ok (.getfield 40, 3) := by decide +kernel
theorem dX8_works_159 : decode cX8_works 159 = .ok (.iconst 0, 1) := by decide +kernel
theorem dX8_works_160 : decode cX8_works 160 = .ok (.iaload, 1) := by decide +kernel
theorem dX8_works_161 : decode cX8_works 161 = .ok (.ireturn, 1) := by decide +kernel
theorem dX8_gives_0 : decode cX8_gives 0 = .ok (.sipush 282, 3) := by decide +kernel
theorem dX8_gives_3 : decode cX8_gives 3 = .ok (.bipush 121, 2) := by decide +kernel
theorem dX8_gives_5 : decode cX8_gives 5 = .ok (.iload_n 1, 1) := by decide +kernel
theorem dX8_gives_6 : decode cX8_gives 6 = .ok (.imul, 1) := by decide +kernel
theorem dX8_gives_7 : decode cX8_gives 7 = .ok (.iadd, 1) := by decide +kernel
theorem dX8_gives_8 : decode cX8_gives 8 = .ok (.istore 5, 2) := by decide +kernel
theorem dX8_gives_10 : decode cX8_gives 10 = .ok (.aload_n 0, 1) := by decide +kernel
theorem dX8_gives_11 : decode cX8_gives 11 = .ok (.getfield 37, 3) := by decide +kernel
theorem dX8_gives_14 : decode cX8_gives 14 = .ok (.iconst 0, 1) := by decide +kernel
theorem dX8_gives_15 : decode cX8_gives 15 = .ok (.iload_n 2, 1) := by decide +kernel
theorem dX8_gives_16 : decode cX8_gives 16 = .ok (.iastore, 1) := by decide +kernel
theorem dX8_gives_17 : decode cX8_gives 17 = .ok (.aload_n 0, 1) := by decide +kernel
theorem dX8_gives_18 : decode cX8_gives 18 = .ok (.getfield 37, 3) := by decide +kernel
theorem dX8_gives_21 : decode cX8_gives 21 = .ok (.iconst 1, 1) := by decide +kernel
theorem dX8_gives_22 : decode cX8_gives 22 = .ok (.iload_n 3, 1) := by decide +kernel
theorem dX8_gives_23 : decode cX8_gives 23 = .ok (.iastore, 1) := by decide +kernel
theorem dX8_gives_24 : decode cX8_gives 24 = .ok (.aload_n 0, 1) := by decide +kernel
theorem dX8_gives_25 : decode cX8_gives 25 = .ok (.getfield 37, 3) := by decide +kernel
theorem dX8_gives_28 : decode cX8_gives 28 = .ok (.iconst 2, 1) := by decide +kernel
theorem dX8_gives_29 : decode cX8_gives 29 = .ok (.iload 4, 2) := by decide +kernel
theorem dX8_gives_31 : decode cX8_gives 31 = .ok (.iastore, 1) := by decide +kernel
theorem dX8_gives_32 : decode cX8_gives 32 = .ok (.aload_n 0, 1) := by decide +kernel
theorem dX8_gives_33 : decode cX8_gives 33 = .ok (.getfield 9, 3) := by decide +kernel
theorem dX8_gives_36 : decode cX8_gives 36 = .ok (.iload 5, 2) := by decide +kernel
theorem dX8_gives_38 : decode cX8_gives 38 = .ok (.iaload, 1) := by decide +kernel
theorem dX8_gives_39 : decode cX8_gives 39 = .ok (.ifCond .le 12, 3) := by decide +kernel
theorem dX8_gives_42 : decode cX8_gives 42 = .ok (.aload_n 0, 1) := by decide +kernel
theorem dX8_gives_43 : decode cX8_gives 43 = .ok (.iload 5, 2) := by decide +kernel
theorem dX8_gives_45 : decode cX8_gives 45 = .ok (.invokevirtual 189, 3) := by decide +kernel
theorem dX8_gives_48 : decode cX8_gives 48 = .ok (.goto 16, 3) := by decide +kernel
theorem dX8_gives_51 : decode cX8_gives 51 = .ok (.iload_n 1, 1) := by decide +kernel
theorem dX8_gives_52 : decode cX8_gives 52 = .ok (.ifCond .ne 9, 3) := by decide +kernel
theorem dX8_gives_55 : decode cX8_gives 55 = .ok (.iload_n 2, 1) := by decide +kernel
theorem dX8_gives_56 : decode cX8_gives 56 = .ok (.iload_n 3, 1) := by decide +kernel
theorem dX8_gives_57 : decode cX8_gives 57 = .ok (.iadd, 1) := by decide +kernel
theorem dX8_gives_58 : decode cX8_gives 58 = .ok (.goto 6, 3) := by decide +kernel
theorem dX8_gives_61 : decode cX8_gives 61 = .ok (.iload_n 3, 1) := by decide +kernel
theorem dX8_gives_62 : decode cX8_gives 62 = .ok (.iconst 1, 1) := by decide +kernel
theorem dX8_gives_63 : decode cX8_gives 63 = .ok (.iadd, 1) := by decide +kernel
theorem dX8_gives_64 : decode cX8_gives 64 = .ok (.istore 6, 2) := by decide +kernel
theorem dX8_gives_66 : decode cX8_gives 66 = .ok (.iload_n 1, 1) := by decide +kernel
theorem dX8_gives_67 : decode cX8_gives 67 = .ok (.ifCond .ne 15, 3) := by decide +kernel
theorem dX8_gives_70 : decode cX8_gives 70 = .ok (.iload 6, 2) := by decide +kernel
theorem dX8_gives_72 : decode cX8_gives 72 = .ok (.iconst 0, 1) := by decide +kernel
theorem dX8_gives_73 : decode cX8_gives 73 = .ok (.sipush 999, 3) := by decide +kernel
theorem dX8_gives_76 : decode cX8_gives 76 = .ok (.invokestatic 192, 3) := by decide +kernel
theorem dX8_gives_79 : decode cX8_gives 79 = .ok (.goto 12, 3) := by decide +kernel
theorem dX8_gives_82 : decode cX8_gives 82 = .ok (.iload 6, 2) := by decide +kernel
theorem dX8_gives_84 : decode cX8_gives 84 = .ok (.bipush (-9), 2) := by decide +kernel
theorem dX8_gives_86 : decode cX8_gives 86 = .ok (.bipush 9, 2) := by decide +kernel
theorem dX8_gives_88 : decode cX8_gives 88 = .ok (.invokestatic 192, 3) := by decide +kernel
theorem dX8_gives_91 : decode cX8_gives 91 = .ok (.ireturn, 1) := by decide +kernel
theorem dX8_law_0 : decode cX8_law 0 = .ok (.iload_n 1, 1) := by decide +kernel
theorem dX8_law_1 : decode cX8_law 1 = .ok (.iconst 0, 1) := by decide +kernel
theorem dX8_law_2 : decode cX8_law 2 = .ok (.iconst 1, 1) := by decide +kernel
theorem dX8_law_3 : decode cX8_law 3 = .ok (.invokestatic 51, 3) := by decide +kernel
theorem dX8_law_6 : decode cX8_law 6 = .ok (.ifCond .eq 15, 3) := by decide +kernel
theorem dX8_law_9 : decode cX8_law 9 = .ok (.aload_n 0, 1) := by decide +kernel
theorem dX8_law_10 : decode cX8_law 10 = .ok (.iload_n 1, 1) := by decide +kernel
theorem dX8_law_11 : decode cX8_law 11 = .ok (.iload_n 2, 1) := by decide +kernel
theorem dX8_law_12 : decode cX8_law 12 = .ok (.iload_n 3, 1) := by decide +kernel
theorem dX8_law_13 : decode cX8_law 13 = .ok (.iload 4, 2) := by decide +kernel
theorem dX8_law_15 : decode cX8_law 15 = .ok (.invokevirtual 92, 3) := by decide +kernel
theorem dX8_law_18 : decode cX8_law 18 = .ok (.goto 9, 3) := by decide +kernel
theorem dX8_law_21 : decode cX8_law 21 = .ok (.aload_n 0, 1) := by decide +kernel
theorem dX8_law_22 : decode cX8_law 22 = .ok (.ldc 100, 2) := by decide +kernel
theorem dX8_law_24 : decode cX8_law 24 = .ok (.invokevirtual 101, 3) := by decide +kernel
theorem dX8_law_27 : decode cX8_law 27 = .ok (.ireturn, 1) := by decide +kernel
theorem dX8_goes_0 : decode cX8_goes 0 = .ok (.aload_n 0, 1) := by decide +kernel
theorem dX8_goes_1 : decode cX8_goes 1 = .ok (.invokevirtual 195, 3) := by decide +kernel
theorem dX8_goes_4 : decode cX8_goes 4 = .ok (.iconst 0, 1) := by decide +kernel
theorem dX8_goes_5 : decode cX8_goes 5 = .ok (.istore_n 1, 1) := by decide +kernel
theorem dX8_goes_6 : decode cX8_goes 6 = .ok (.iload_n 1, 1) := by decide +kernel
theorem dX8_goes_7 : decode cX8_goes 7 = .ok (.aload_n 0, 1) := by decide +kernel
theorem dX8_goes_8 : decode cX8_goes 8 = .ok (.getfield 9, 3) := by decide +kernel
theorem dX8_goes_11 : decode cX8_goes 11 = .ok (.iconst 2, 1) := by decide +kernel
theorem dX8_goes_12 : decode cX8_goes 12 = .ok (.iaload, 1) := by decide +kernel
theorem dX8_goes_13 : decode cX8_goes 13 = .ok (.if_icmp .ge 33, 3) := by decide +kernel
theorem dX8_goes_16 : decode cX8_goes 16 = .ok (.aload_n 0, 1) := by decide +kernel
theorem dX8_goes_17 : decode cX8_goes 17 = .ok (.iload_n 1, 1) := by decide +kernel
theorem dX8_goes_18 : decode cX8_goes 18 = .ok (.iconst 4, 1) := by decide +kernel
theorem dX8_goes_19 : decode cX8_goes 19 = .ok (.aload_n 0, 1) := by decide +kernel
theorem dX8_goes_20 : decode cX8_goes 20 = .ok (.iload_n 1, 1) := by decide +kernel
theorem dX8_goes_21 : decode cX8_goes 21 = .ok (.iconst 4, 1) := by decide +kernel
theorem dX8_goes_22 : decode cX8_goes 22 = .ok (.invokevirtual 55, 3) := by decide +kernel
theorem dX8_goes_25 : decode cX8_goes 25 = .ok (.aload_n 0, 1) := by decide +kernel
theorem dX8_goes_26 : decode cX8_goes 26 = .ok (.iload_n 1, 1) := by decide +kernel
theorem dX8_goes_27 : decode cX8_goes 27 = .ok (.invokevirtual 112, 3) := by decide +kernel
theorem dX8_goes_30 : decode cX8_goes 30 = .ok (.iadd, 1) := by decide +kernel
theorem dX8_goes_31 : decode cX8_goes 31 = .ok (.iconst 0, 1) := by decide +kernel
theorem dX8_goes_32 : decode cX8_goes 32 = .ok (.ldc 198, 2) := by decide +kernel
theorem dX8_goes_34 : decode cX8_goes 34 = .ok (.invokestatic 192, 3) := by decide +kernel
theorem dX8_goes_37 : decode cX8_goes 37 = .ok (.invokevirtual 65, 3) := by decide +kernel
theorem dX8_goes_40 : decode cX8_goes 40 = .ok (.iinc 1 1, 3) := by decide +kernel
theorem dX8_goes_43 : decode cX8_goes 43 = .ok (.goto (-37), 3) := by decide +kernel
theorem dX8_goes_46 : decode cX8_goes 46 = .ok (.iconst 0, 1) := by decide +kernel
theorem dX8_goes_47 : decode cX8_goes 47 = .ok (.istore_n 1, 1) := by decide +kernel
theorem dX8_goes_48 : decode cX8_goes 48 = .ok (.iload_n 1, 1) := by decide +kernel
theorem dX8_goes_49 : decode cX8_goes 49 = .ok (.aload_n 0, 1) := by decide +kernel
theorem dX8_goes_50 : decode cX8_goes 50 = .ok (.getfield 9, 3) := by decide +kernel
theorem dX8_goes_53 : decode cX8_goes 53 = .ok (.iconst 3, 1) := by decide +kernel
theorem dX8_goes_54 : decode cX8_goes 54 = .ok (.iaload, 1) := by decide +kernel
theorem dX8_goes_55 : decode cX8_goes 55 = .ok (.if_icmp .ge 77, 3) := by decide +kernel
theorem dX8_goes_58 : decode cX8_goes 58 = .ok (.aload_n 0, 1) := by decide +kernel
theorem dX8_goes_59 : decode cX8_goes 59 = .ok (.getfield 9, 3) := by decide +kernel
theorem dX8_goes_62 : decode cX8_goes 62 = .ok (.bipush 58, 2) := by decide +kernel
theorem dX8_goes_64 : decode cX8_goes 64 = .ok (.iconst 2, 1) := by decide +kernel
theorem dX8_goes_65 : decode cX8_goes 65 = .ok (.iload_n 1, 1) := by decide +kernel
theorem dX8_goes_66 : decode cX8_goes 66 = .ok (.imul, 1) := by decide +kernel
theorem dX8_goes_67 : decode cX8_goes 67 = .ok (.iadd, 1) := by decide +kernel
theorem dX8_goes_68 : decode cX8_goes 68 = .ok (.iaload, 1) := by decide +kernel
theorem dX8_goes_69 : decode cX8_goes 69 = .ok (.istore_n 2, 1) := by decide +kernel
theorem dX8_goes_70 : decode cX8_goes 70 = .ok (.aload_n 0, 1) := by decide +kernel
theorem dX8_goes_71 : decode cX8_goes 71 = .ok (.iconst 1, 1) := by decide +kernel
theorem dX8_goes_72 : decode cX8_goes 72 = .ok (.iload_n 2, 1) := by decide +kernel
theorem dX8_goes_73 : decode cX8_goes 73 = .ok (.aload_n 0, 1) := by decide +kernel
theorem dX8_goes_74 : decode cX8_goes 74 = .ok (.iload_n 2, 1) := by decide +kernel
theorem dX8_goes_75 : decode cX8_goes 75 = .ok (.invokevirtual 127, 3) := by decide +kernel
theorem dX8_goes_78 : decode cX8_goes 78 = .ok (.aload_n 0, 1) := by decide +kernel
theorem dX8_goes_79 : decode cX8_goes 79 = .ok (.getfield 9, 3) := by decide +kernel
theorem dX8_goes_82 : decode cX8_goes 82 = .ok (.iconst 0, 1) := by decide +kernel
theorem dX8_goes_83 : decode cX8_goes 83 = .ok (.iaload, 1) := by decide +kernel
theorem dX8_goes_84 : decode cX8_goes 84 = .ok (.bipush 7, 2) := by decide +kernel
theorem dX8_goes_86 : decode cX8_goes 86 = .ok (.irem, 1) := by decide +kernel
theorem dX8_goes_87 : decode cX8_goes 87 = .ok (.invokevirtual 92, 3) := by decide +kernel
theorem dX8_goes_90 : decode cX8_goes 90 = .ok (.istore_n 3, 1) := by decide +kernel
theorem dX8_goes_91 : decode cX8_goes 91 = .ok (.aload_n 0, 1) := by decide +kernel
theorem dX8_goes_92 : decode cX8_goes 92 = .ok (.getfield 9, 3) := by decide +kernel
theorem dX8_goes_95 : decode cX8_goes 95 = .ok (.bipush 58, 2) := by decide +kernel
theorem dX8_goes_97 : decode cX8_goes 97 = .ok (.iconst 2, 1) := by decide +kernel
theorem dX8_goes_98 : decode cX8_goes 98 = .ok (.iload_n 1, 1) := by decide +kernel
theorem dX8_goes_99 : decode cX8_goes 99 = .ok (.imul, 1) := by decide +kernel
theorem dX8_goes_100 : decode cX8_goes 100 = .ok (.iadd, 1) := by decide +kernel
theorem dX8_goes_101 : decode cX8_goes 101 = .ok (.iconst 1, 1) := by decide +kernel
theorem dX8_goes_102 : decode cX8_goes 102 = .ok (.iadd, 1) := by decide +kernel
theorem dX8_goes_103 : decode cX8_goes 103 = .ok (.aload_n 0, 1) := by decide +kernel
theorem dX8_goes_104 : decode cX8_goes 104 = .ok (.getfield 9, 3) := by decide +kernel
theorem dX8_goes_107 : decode cX8_goes 107 = .ok (.bipush 58, 2) := by decide +kernel
theorem dX8_goes_109 : decode cX8_goes 109 = .ok (.iconst 2, 1) := by decide +kernel
theorem dX8_goes_110 : decode cX8_goes 110 = .ok (.iload_n 1, 1) := by decide +kernel
theorem dX8_goes_111 : decode cX8_goes 111 = .ok (.imul, 1) := by decide +kernel
theorem dX8_goes_112 : decode cX8_goes 112 = .ok (.iadd, 1) := by decide +kernel
theorem dX8_goes_113 : decode cX8_goes 113 = .ok (.iconst 1, 1) := by decide +kernel
theorem dX8_goes_114 : decode cX8_goes 114 = .ok (.iadd, 1) := by decide +kernel
theorem dX8_goes_115 : decode cX8_goes 115 = .ok (.iaload, 1) := by decide +kernel
theorem dX8_goes_116 : decode cX8_goes 116 = .ok (.iload_n 3, 1) := by decide +kernel
theorem dX8_goes_117 : decode cX8_goes 117 = .ok (.iadd, 1) := by decide +kernel
theorem dX8_goes_118 : decode cX8_goes 118 = .ok (.iconst 0, 1) := by decide +kernel
theorem dX8_goes_119 : decode cX8_goes 119 = .ok (.sipush 999, 3) := by decide +kernel
theorem dX8_goes_122 : decode cX8_goes 122 = .ok (.invokestatic 192, 3) := by decide +kernel
theorem dX8_goes_125 : decode cX8_goes 125 = .ok (.iastore, 1) := by decide +kernel
theorem dX8_goes_126 : decode cX8_goes 126 = .ok (.iinc 1 1, 3) := by decide +kernel
theorem dX8_goes_129 : decode cX8_goes 129 = .ok (.goto (-81), 3) := by decide +kernel
theorem dX8_goes_132 : decode cX8_goes 132 = .ok (.return_, 1) := by decide +kernel
theorem dX8_dawns_0 : decode cX8_dawns 0 = .ok (.iload_n 1, 1) := by decide +kernel
theorem dX8_dawns_1 : decode cX8_dawns 1 = .ok (.iconst 1, 1) := by decide +kernel
theorem dX8_dawns_2 : decode cX8_dawns 2 = .ok (.bipush 60, 2) := by decide +kernel
theorem dX8_dawns_4 : decode cX8_dawns 4 = .ok (.invokestatic 51, 3) := by decide +kernel
theorem dX8_dawns_7 : decode cX8_dawns 7 = .ok (.ifCond .ne 10, 3) := by decide +kernel
theorem dX8_dawns_10 : decode cX8_dawns 10 = .ok (.aload_n 0, 1) := by decide +kernel
theorem dX8_dawns_11 : decode cX8_dawns 11 = .ok (.ldc 100, 2) := by decide +kernel
theorem dX8_dawns_13 : decode cX8_dawns 13 = .ok (.invokevirtual 101, 3) := by decide +kernel
theorem dX8_dawns_16 : decode cX8_dawns 16 = .ok (.ireturn, 1) := by decide +kernel
theorem dX8_dawns_17 : decode cX8_dawns 17 = .ok (.aload_n 0, 1) := by decide +kernel
theorem dX8_dawns_18 : decode cX8_dawns 18 = .ok (.getfield 9, 3) := by decide +kernel
theorem dX8_dawns_21 : decode cX8_dawns 21 = .ok (.iconst 0, 1) := by decide +kernel
theorem dX8_dawns_22 : decode cX8_dawns 22 = .ok (.iaload, 1) := by decide +kernel
theorem dX8_dawns_23 : decode cX8_dawns 23 = .ok (.iload_n 1, 1) := by decide +kernel
theorem dX8_dawns_24 : decode cX8_dawns 24 = .ok (.iadd, 1) := by decide +kernel
theorem dX8_dawns_25 : decode cX8_dawns 25 = .ok (.sipush 9999, 3) := by decide +kernel
theorem dX8_dawns_28 : decode cX8_dawns 28 = .ok (.if_icmp .le 10, 3) := by decide +kernel
theorem dX8_dawns_31 : decode cX8_dawns 31 = .ok (.aload_n 0, 1) := by decide +kernel
theorem dX8_dawns_32 : decode cX8_dawns 32 = .ok (.ldc 123, 2) := by decide +kernel
theorem dX8_dawns_34 : decode cX8_dawns 34 = .ok (.invokevirtual 101, 3) := by decide +kernel
theorem dX8_dawns_37 : decode cX8_dawns 37 = .ok (.ireturn, 1) := by decide +kernel
theorem dX8_dawns_38 : decode cX8_dawns 38 = .ok (.iconst 0, 1) := by decide +kernel
theorem dX8_dawns_39 : decode cX8_dawns 39 = .ok (.istore_n 2, 1) := by decide +kernel
theorem dX8_dawns_40 : decode cX8_dawns 40 = .ok (.iload_n 2, 1) := by decide +kernel
theorem dX8_dawns_41 : decode cX8_dawns 41 = .ok (.iload_n 1, 1) := by decide +kernel
theorem dX8_dawns_42 : decode cX8_dawns 42 = .ok (.if_icmp .ge 13, 3) := by decide +kernel
theorem dX8_dawns_45 : decode cX8_dawns 45 = .ok (.aload_n 0, 1) := by decide +kernel
theorem dX8_dawns_46 : decode cX8_dawns 46 = .ok (.invokevirtual 199, 3) := by decide +kernel
theorem dX8_dawns_49 : decode cX8_dawns 49 = .ok (.iinc 2 1, 3) := by decide +kernel
theorem dX8_dawns_52 : decode cX8_dawns 52 = .ok (.goto (-12), 3) := by decide +kernel
theorem dX8_dawns_55 : decode cX8_dawns 55 = .ok (.aload_n 0, 1) := by decide +kernel
theorem dX8_dawns_56 : decode cX8_dawns 56 = .ok (.getfield 9, 3) := by decide +kernel
theorem dX8_dawns_59 : decode cX8_dawns 59 = .ok (.iconst 0, 1) := by decide +kernel
theorem dX8_dawns_60 : decode cX8_dawns 60 = .ok (.iaload, 1) := by decide +kernel
theorem dX8_dawns_61 : decode cX8_dawns 61 = .ok (.ireturn, 1) := by decide +kernel
theorem dX8_draw_0 : decode cX8_draw 0 = .ok (.aload_n 0, 1) := by decide +kernel
theorem dX8_draw_1 : decode cX8_draw 1 = .ok (.getfield 9, 3) := by decide +kernel
theorem dX8_draw_4 : decode cX8_draw 4 = .ok (.iconst 1, 1) := by decide +kernel
theorem dX8_draw_5 : decode cX8_draw 5 = .ok (.aload_n 0, 1) := by decide +kernel
theorem dX8_draw_6 : decode cX8_draw 6 = .ok (.getfield 9, 3) := by decide +kernel
theorem dX8_draw_9 : decode cX8_draw 9 = .ok (.iconst 1, 1) := by decide +kernel
theorem dX8_draw_10 : decode cX8_draw 10 = .ok (.iaload, 1) := by decide +kernel
theorem dX8_draw_11 : decode cX8_draw 11 = .ok (.ldc 202, 2) := by decide +kernel
theorem dX8_draw_13 : decode cX8_draw 13 = .ok (.imul, 1) := by decide +kernel
theorem dX8_draw_14 : decode cX8_draw 14 = .ok (.sipush 12345, 3) := by decide +kernel
theorem dX8_draw_17 : decode cX8_draw 17 = .ok (.iadd, 1) := by decide +kernel
theorem dX8_draw_18 : decode cX8_draw 18 = .ok (.iastore, 1) := by decide +kernel
theorem dX8_draw_19 : decode cX8_draw 19 = .ok (.aload_n 0, 1) := by decide +kernel
theorem dX8_draw_20 : decode cX8_draw 20 = .ok (.getfield 9, 3) := by decide +kernel
theorem dX8_draw_23 : decode cX8_draw 23 = .ok (.iconst 1, 1) := by decide +kernel
theorem dX8_draw_24 : decode cX8_draw 24 = .ok (.iaload, 1) := by decide +kernel
theorem dX8_draw_25 : decode cX8_draw 25 = .ok (.bipush 8, 2) := by decide +kernel
theorem dX8_draw_27 : decode cX8_draw 27 = .ok (.iushr, 1) := by decide +kernel
theorem dX8_draw_28 : decode cX8_draw 28 = .ok (.ireturn, 1) := by decide +kernel
theorem dX8_drawn_0 : decode cX8_drawn 0 = .ok (.bipush 70, 2) := by decide +kernel
theorem dX8_drawn_2 : decode cX8_drawn 2 = .ok (.aload_n 0, 1) := by decide +kernel
theorem dX8_drawn_3 : decode cX8_drawn 3 = .ok (.invokevirtual 203, 3) := by decide +kernel
theorem dX8_drawn_6 : decode cX8_drawn 6 = .ok (.bipush 64, 2) := by decide +kernel
theorem dX8_drawn_8 : decode cX8_drawn 8 = .ok (.irem, 1) := by decide +kernel
theorem dX8_drawn_9 : decode cX8_drawn 9 = .ok (.iadd, 1) := by decide +kernel
theorem dX8_drawn_10 : decode cX8_drawn 10 = .ok (.istore_n 1, 1) := by decide +kernel
theorem dX8_drawn_11 : decode cX8_drawn 11 = .ok (.aload_n 0, 1) := by decide +kernel
theorem dX8_drawn_12 : decode cX8_drawn 12 = .ok (.getfield 9, 3) := by decide +kernel
theorem dX8_drawn_15 : decode cX8_drawn 15 = .ok (.iload_n 1, 1) := by decide +kernel
theorem dX8_drawn_16 : decode cX8_drawn 16 = .ok (.iconst 1, 1) := by decide +kernel
theorem dX8_drawn_17 : decode cX8_drawn 17 = .ok (.aload_n 0, 1) := by decide +kernel
theorem dX8_drawn_18 : decode cX8_drawn 18 = .ok (.getfield 9, 3) := by decide +kernel
theorem dX8_drawn_21 : decode cX8_drawn 21 = .ok (.iload_n 1, 1) := by decide +kernel
theorem dX8_drawn_22 : decode cX8_drawn 22 = .ok (.iaload, 1) := by decide +kernel
theorem dX8_drawn_23 : decode cX8_drawn 23 = .ok (.isub, 1) := by decide +kernel
theorem dX8_drawn_24 : decode cX8_drawn 24 = .ok (.iastore, 1) := by decide +kernel
theorem dX8_drawn_25 : decode cX8_drawn 25 = .ok (.aload_n 0, 1) := by decide +kernel
theorem dX8_drawn_26 : decode cX8_drawn 26 = .ok (.getfield 9, 3) := by decide +kernel
theorem dX8_drawn_29 : decode cX8_drawn 29 = .ok (.iconst 3, 1) := by decide +kernel
theorem dX8_drawn_30 : decode cX8_drawn 30 = .ok (.iaload, 1) := by decide +kernel
theorem dX8_drawn_31 : decode cX8_drawn 31 = .ok (.ifCond .le 66, 3) := by decide +kernel
theorem dX8_drawn_34 : decode cX8_drawn 34 = .ok (.aload_n 0, 1) := by decide +kernel
theorem dX8_drawn_35 : decode cX8_drawn 35 = .ok (.invokevirtual 203, 3) := by decide +kernel
theorem dX8_drawn_38 : decode cX8_drawn 38 = .ok (.aload_n 0, 1) := by decide +kernel
theorem dX8_drawn_39 : decode cX8_drawn 39 = .ok (.getfield 9, 3) := by decide +kernel
theorem dX8_drawn_42 : decode cX8_drawn 42 = .ok (.iconst 3, 1) := by decide +kernel
theorem dX8_drawn_43 : decode cX8_drawn 43 = .ok (.iaload, 1) := by decide +kernel
theorem dX8_drawn_44 : decode cX8_drawn 44 = .ok (.irem, 1) := by decide +kernel
theorem dX8_drawn_45 : decode cX8_drawn 45 = .ok (.istore_n 2, 1) := by decide +kernel
theorem dX8_drawn_46 : decode cX8_drawn 46 = .ok (.aload_n 0, 1) := by decide +kernel
theorem dX8_drawn_47 : decode cX8_drawn 47 = .ok (.getfield 9, 3) := by decide +kernel
theorem dX8_drawn_50 : decode cX8_drawn 50 = .ok (.bipush 58, 2) := by decide +kernel
theorem dX8_drawn_52 : decode cX8_drawn 52 = .ok (.iconst 2, 1) := by decide +kernel
theorem dX8_drawn_53 : decode cX8_drawn 53 = .ok (.iload_n 2, 1) := by decide +kernel
theorem dX8_drawn_54 : decode cX8_drawn 54 = .ok (.imul, 1) := by decide +kernel
theorem dX8_drawn_55 : decode cX8_drawn 55 = .ok (.iadd, 1) := by decide +kernel
theorem dX8_drawn_56 : decode cX8_drawn 56 = .ok (.iaload, 1) := by decide +kernel
theorem dX8_drawn_57 : decode cX8_drawn 57 = .ok (.aload_n 0, 1) := by decide +kernel
theorem dX8_drawn_58 : decode cX8_drawn 58 = .ok (.invokevirtual 203, 3) := by decide +kernel
theorem dX8_drawn_61 : decode cX8_drawn 61 = .ok (.iconst 4, 1) := by decide +kernel
theorem dX8_drawn_62 : decode cX8_drawn 62 = .ok (.irem, 1) := by decide +kernel
theorem dX8_drawn_63 : decode cX8_drawn 63 = .ok (.invokestatic 62, 3) := by decide +kernel
theorem dX8_drawn_66 : decode cX8_drawn 66 = .ok (.istore_n 3, 1) := by decide +kernel
theorem dX8_drawn_67 : decode cX8_drawn 67 = .ok (.aload_n 0, 1) := by decide +kernel
theorem dX8_drawn_68 : decode cX8_drawn 68 = .ok (.getfield 9, 3) := by decide +kernel
theorem dX8_drawn_71 : decode cX8_drawn 71 = .ok (.bipush 58, 2) := by decide +kernel
theorem dX8_drawn_73 : decode cX8_drawn 73 = .ok (.iconst 2, 1) := by decide +kernel
theorem dX8_drawn_74 : decode cX8_drawn 74 = .ok (.iload_n 2, 1) := by decide +kernel
theorem dX8_drawn_75 : decode cX8_drawn 75 = .ok (.imul, 1) := by decide +kernel
theorem dX8_drawn_76 : decode cX8_drawn 76 = .ok (.iadd, 1) := by decide +kernel
theorem dX8_drawn_77 : decode cX8_drawn 77 = .ok (.iload_n 3, 1) := by decide +kernel
theorem dX8_drawn_78 : decode cX8_drawn 78 = .ok (.ifCond .ge 17, 3) := by decide +kernel
theorem dX8_drawn_81 : decode cX8_drawn 81 = .ok (.aload_n 0, 1) := by decide +kernel
theorem dX8_drawn_82 : decode cX8_drawn 82 = .ok (.getfield 9, 3) := by decide +kernel
theorem dX8_drawn_85 : decode cX8_drawn 85 = .ok (.bipush 58, 2) := by decide +kernel
theorem dX8_drawn_87 : decode cX8_drawn 87 = .ok (.iconst 2, 1) := by decide +kernel
theorem dX8_drawn_88 : decode cX8_drawn 88 = .ok (.iload_n 2, 1) := by decide +kernel
theorem dX8_drawn_89 : decode cX8_drawn 89 = .ok (.imul, 1) := by decide +kernel
theorem dX8_drawn_90 : decode cX8_drawn 90 = .ok (.iadd, 1) := by decide +kernel
theorem dX8_drawn_91 : decode cX8_drawn 91 = .ok (.iaload, 1) := by decide +kernel
theorem dX8_drawn_92 : decode cX8_drawn 92 = .ok (.goto 4, 3) := by decide +kernel
theorem dX8_drawn_95 : decode cX8_drawn 95 = .ok (.iload_n 3, 1) := by decide +kernel
theorem dX8_drawn_96 : decode cX8_drawn 96 = .ok (.iastore, 1) := by decide +kernel
theorem dX8_drawn_97 : decode cX8_drawn 97 = .ok (.aload_n 0, 1) := by decide +kernel
theorem dX8_drawn_98 : decode cX8_drawn 98 = .ok (.invokevirtual 199, 3) := by decide +kernel
theorem dX8_drawn_101 : decode cX8_drawn 101 = .ok (.return_, 1) := by decide +kernel
theorem dX8_countOf_0 : decode cX8_countOf 0 = .ok (.iconst 0, 1) := by decide +kernel
theorem dX8_countOf_1 : decode cX8_countOf 1 = .ok (.istore_n 2, 1) := by decide +kernel
theorem dX8_countOf_2 : decode cX8_countOf 2 = .ok (.iconst 0, 1) := by decide +kernel
theorem dX8_countOf_3 : decode cX8_countOf 3 = .ok (.istore_n 3, 1) := by decide +kernel
theorem dX8_countOf_4 : decode cX8_countOf 4 = .ok (.iload_n 3, 1) := by decide +kernel
theorem dX8_countOf_5 : decode cX8_countOf 5 = .ok (.bipush 64, 2) := by decide +kernel
theorem dX8_countOf_7 : decode cX8_countOf 7 = .ok (.if_icmp .ge 20, 3) := by decide +kernel
theorem dX8_countOf_10 : decode cX8_countOf 10 = .ok (.iload_n 2, 1) := by decide +kernel
theorem dX8_countOf_11 : decode cX8_countOf 11 = .ok (.aload_n 0, 1) := by decide +kernel
theorem dX8_countOf_12 : decode cX8_countOf 12 = .ok (.getfield 9, 3) := by decide +kernel
theorem dX8_countOf_15 : decode cX8_countOf 15 = .ok (.iload_n 1, 1) := by decide +kernel
theorem dX8_countOf_16 : decode cX8_countOf 16 = .ok (.iload_n 3, 1) := by decide +kernel
theorem dX8_countOf_17 : decode cX8_countOf 17 = .ok (.iadd, 1) := by decide +kernel
theorem dX8_countOf_18 : decode cX8_countOf 18 = .ok (.iaload, 1) := by decide +kernel
theorem dX8_countOf_19 : decode cX8_countOf 19 = .ok (.iadd, 1) := by decide +kernel
theorem dX8_countOf_20 : decode cX8_countOf 20 = .ok (.istore_n 2, 1) := by decide +kernel
theorem dX8_countOf_21 : decode cX8_countOf 21 = .ok (.iinc 3 1, 3) := by decide +kernel
theorem dX8_countOf_24 : decode cX8_countOf 24 = .ok (.goto (-20), 3) := by decide +kernel
theorem dX8_countOf_27 : decode cX8_countOf 27 = .ok (.iload_n 2, 1) := by decide +kernel
theorem dX8_countOf_28 : decode cX8_countOf 28 = .ok (.ireturn, 1) := by decide +kernel
theorem dX8_loose_0 : decode cX8_loose 0 = .ok (.iload_n 1, 1) := by decide +kernel
theorem dX8_loose_1 : decode cX8_loose 1 = .ok (.iconst 1, 1) := by decide +kernel
theorem dX8_loose_2 : decode cX8_loose 2 = .ok (.bipush 20, 2) := by decide +kernel
theorem dX8_loose_4 : decode cX8_loose 4 = .ok (.invokestatic 51, 3) := by decide +kernel
theorem dX8_loose_7 : decode cX8_loose 7 = .ok (.ifCond .ne 10, 3) := by decide +kernel
theorem dX8_loose_10 : decode cX8_loose 10 = .ok (.aload_n 0, 1) := by decide +kernel
theorem dX8_loose_11 : decode cX8_loose 11 = .ok (.ldc 100, 2) := by decide +kernel
theorem dX8_loose_13 : decode cX8_loose 13 = .ok (.invokevirtual 101, 3) := by decide +kernel
theorem dX8_loose_16 : decode cX8_loose 16 = .ok (.ireturn, 1) := by decide +kernel
theorem dX8_loose_17 : decode cX8_loose 17 = .ok (.aload_n 0, 1) := by decide +kernel
theorem dX8_loose_18 : decode cX8_loose 18 = .ok (.getfield 9, 3) := by decide +kernel
theorem dX8_loose_21 : decode cX8_loose 21 = .ok (.iconst 0, 1) := by decide +kernel
theorem dX8_loose_22 : decode cX8_loose 22 = .ok (.iaload, 1) := by decide +kernel
theorem dX8_loose_23 : decode cX8_loose 23 = .ok (.iload_n 1, 1) := by decide +kernel
theorem dX8_loose_24 : decode cX8_loose 24 = .ok (.iadd, 1) := by decide +kernel
theorem dX8_loose_25 : decode cX8_loose 25 = .ok (.sipush 9999, 3) := by decide +kernel
theorem dX8_loose_28 : decode cX8_loose 28 = .ok (.if_icmp .le 10, 3) := by decide +kernel
theorem dX8_loose_31 : decode cX8_loose 31 = .ok (.aload_n 0, 1) := by decide +kernel
theorem dX8_loose_32 : decode cX8_loose 32 = .ok (.ldc 123, 2) := by decide +kernel
theorem dX8_loose_34 : decode cX8_loose 34 = .ok (.invokevirtual 101, 3) := by decide +kernel
theorem dX8_loose_37 : decode cX8_loose 37 = .ok (.ireturn, 1) := by decide +kernel
theorem dX8_loose_38 : decode cX8_loose 38 = .ok (.iconst 0, 1) := by decide +kernel
theorem dX8_loose_39 : decode cX8_loose 39 = .ok (.istore_n 2, 1) := by decide +kernel
theorem dX8_loose_40 : decode cX8_loose 40 = .ok (.iload_n 2, 1) := by decide +kernel
theorem dX8_loose_41 : decode cX8_loose 41 = .ok (.iload_n 1, 1) := by decide +kernel
theorem dX8_loose_42 : decode cX8_loose 42 = .ok (.if_icmp .ge 13, 3) := by decide +kernel
theorem dX8_loose_45 : decode cX8_loose 45 = .ok (.aload_n 0, 1) := by decide +kernel
theorem dX8_loose_46 : decode cX8_loose 46 = .ok (.invokevirtual 206, 3) := by decide +kernel
theorem dX8_loose_49 : decode cX8_loose 49 = .ok (.iinc 2 1, 3) := by decide +kernel
theorem dX8_loose_52 : decode cX8_loose 52 = .ok (.goto (-12), 3) := by decide +kernel
theorem dX8_loose_55 : decode cX8_loose 55 = .ok (.aload_n 0, 1) := by decide +kernel
theorem dX8_loose_56 : decode cX8_loose 56 = .ok (.bipush 70, 2) := by decide +kernel
theorem dX8_loose_58 : decode cX8_loose 58 = .ok (.invokevirtual 209, 3) := by decide +kernel
theorem dX8_loose_61 : decode cX8_loose 61 = .ok (.ireturn, 1) := by decide +kernel
theorem dX8_seed_0 : decode cX8_seed 0 = .ok (.aload_n 0, 1) := by decide +kernel
theorem dX8_seed_1 : decode cX8_seed 1 = .ok (.iconst 1, 1) := by decide +kernel
theorem dX8_seed_2 : decode cX8_seed 2 = .ok (.iload_n 1, 1) := by decide +kernel
theorem dX8_seed_3 : decode cX8_seed 3 = .ok (.invokevirtual 119, 3) := by decide +kernel
theorem dX8_seed_6 : decode cX8_seed 6 = .ok (.ireturn, 1) := by decide +kernel
theorem dX8_land_0 : decode cX8_land 0 = .ok (.aload_n 0, 1) := by decide +kernel
theorem dX8_land_1 : decode cX8_land 1 = .ok (.iload_n 1, 1) := by decide +kernel
theorem dX8_land_2 : decode cX8_land 2 = .ok (.invokevirtual 106, 3) := by decide +kernel
theorem dX8_land_5 : decode cX8_land 5 = .ok (.ifCond .eq 12, 3) := by decide +kernel
theorem dX8_land_8 : decode cX8_land 8 = .ok (.iload_n 2, 1) := by decide +kernel
theorem dX8_land_9 : decode cX8_land 9 = .ok (.iconst 0, 1) := by decide +kernel
theorem dX8_land_10 : decode cX8_land 10 = .ok (.iconst 1, 1) := by decide +kernel
theorem dX8_land_11 : decode cX8_land 11 = .ok (.invokestatic 51, 3) := by decide +kernel
theorem dX8_land_14 : decode cX8_land 14 = .ok (.ifCond .ne 11, 3) := by decide +kernel
theorem dX8_land_17 : decode cX8_land 17 = .ok (.aload_n 0, 1) := by decide +kernel
theorem dX8_land_18 : decode cX8_land 18 = .ok (.ldc 100, 2) := by decide +kernel
theorem dX8_land_20 : decode cX8_land 20 = .ok (.invokevirtual 101, 3) := by decide +kernel
theorem dX8_land_23 : decode cX8_land 23 = .ok (.i2l, 1) := by decide +kernel
theorem dX8_land_24 : decode cX8_land 24 = .ok (.lreturn, 1) := by decide +kernel
theorem dX8_land_25 : decode cX8_land 25 = .ok (.iload_n 2, 1) := by decide +kernel
theorem dX8_land_26 : decode cX8_land 26 = .ok (.ifCond .ne 11, 3) := by decide +kernel
theorem dX8_land_29 : decode cX8_land 29 = .ok (.aload_n 0, 1) := by decide +kernel
theorem dX8_land_30 : decode cX8_land 30 = .ok (.iload_n 1, 1) := by decide +kernel
theorem dX8_land_31 : decode cX8_land 31 = .ok (.invokevirtual 73, 3) := by decide +kernel
theorem dX8_land_34 : decode cX8_land 34 = .ok (.goto 8, 3) := by decide +kernel
theorem dX8_land_37 : decode cX8_land 37 = .ok (.aload_n 0, 1) := by decide +kernel
theorem dX8_land_38 : decode cX8_land 38 = .ok (.iload_n 1, 1) := by decide +kernel
theorem dX8_land_39 : decode cX8_land 39 = .ok (.invokevirtual 85, 3) := by decide +kernel
theorem dX8_land_42 : decode cX8_land 42 = .ok (.lreturn, 1) := by decide +kernel
theorem dX8_then_0 : decode cX8_then 0 = .ok (.aload_n 0, 1) := by decide +kernel
theorem dX8_then_1 : decode cX8_then 1 = .ok (.iload_n 1, 1) := by decide +kernel
theorem dX8_then_2 : decode cX8_then 2 = .ok (.invokevirtual 106, 3) := by decide +kernel
theorem dX8_then_5 : decode cX8_then 5 = .ok (.ifCond .eq 22, 3) := by decide +kernel
theorem dX8_then_8 : decode cX8_then 8 = .ok (.iload_n 2, 1) := by decide +kernel
theorem dX8_then_9 : decode cX8_then 9 = .ok (.iconst 0, 1) := by decide +kernel
theorem dX8_then_10 : decode cX8_then 10 = .ok (.bipush 60, 2) := by decide +kernel
theorem dX8_then_12 : decode cX8_then 12 = .ok (.invokestatic 51, 3) := by decide +kernel
theorem dX8_then_15 : decode cX8_then 15 = .ok (.ifCond .eq 12, 3) := by decide +kernel
theorem dX8_then_18 : decode cX8_then 18 = .ok (.iload_n 3, 1) := by decide +kernel
theorem dX8_then_19 : decode cX8_then 19 = .ok (.iconst 0, 1) := by decide +kernel
theorem dX8_then_20 : decode cX8_then 20 = .ok (.iconst 1, 1) := by decide +kernel
theorem dX8_then_21 : decode cX8_then 21 = .ok (.invokestatic 51, 3) := by decide +kernel
theorem dX8_then_24 : decode cX8_then 24 = .ok (.ifCond .ne 10, 3) := by decide +kernel
theorem dX8_then_27 : decode cX8_then 27 = .ok (.aload_n 0, 1) := by decide +kernel
theorem dX8_then_28 : decode cX8_then 28 = .ok (.ldc 100, 2) := by decide +kernel
theorem dX8_then_30 : decode cX8_then 30 = .ok (.invokevirtual 101, 3) := by decide +kernel
theorem dX8_then_33 : decode cX8_then 33 = .ok (.ireturn, 1) := by decide +kernel
theorem dX8_then_34 : decode cX8_then 34 = .ok (.aload_n 0, 1) := by decide +kernel
theorem dX8_then_35 : decode cX8_then 35 = .ok (.invokevirtual 212, 3) := by decide +kernel
theorem dX8_then_38 : decode cX8_then 38 = .ok (.iconst 0, 1) := by decide +kernel
theorem dX8_then_39 : decode cX8_then 39 = .ok (.istore 4, 2) := by decide +kernel
theorem dX8_then_41 : decode cX8_then 41 = .ok (.iload 4, 2) := by decide +kernel
theorem dX8_then_43 : decode cX8_then 43 = .ok (.iload_n 2, 1) := by decide +kernel
theorem dX8_then_44 : decode cX8_then 44 = .ok (.if_icmp .ge 13, 3) := by decide +kernel
theorem dX8_then_47 : decode cX8_then 47 = .ok (.aload_n 0, 1) := by decide +kernel
theorem dX8_then_48 : decode cX8_then 48 = .ok (.invokevirtual 199, 3) := by decide +kernel
theorem dX8_then_51 : decode cX8_then 51 = .ok (.iinc 4 1, 3) := by decide +kernel
theorem dX8_then_54 : decode cX8_then 54 = .ok (.goto (-13), 3) := by decide +kernel
theorem dX8_then_57 : decode cX8_then 57 = .ok (.iload_n 3, 1) := by decide +kernel
theorem dX8_then_58 : decode cX8_then 58 = .ok (.ifCond .ne 14, 3) := by decide +kernel
theorem dX8_then_61 : decode cX8_then 61 = .ok (.aload_n 0, 1) := by decide +kernel
theorem dX8_then_62 : decode cX8_then 62 = .ok (.iload_n 1, 1) := by decide +kernel
theorem dX8_then_63 : decode cX8_then 63 = .ok (.invokevirtual 85, 3) := by decide +kernel
theorem dX8_then_66 : decode cX8_then 66 = .ok (.invokestatic 88, 3) := by decide +kernel
theorem dX8_then_69 : decode cX8_then 69 = .ok (.goto 9, 3) := by decide +kernel
theorem dX8_then_72 : decode cX8_then 72 = .ok (.aload_n 0, 1) := by decide +kernel
theorem dX8_then_73 : decode cX8_then 73 = .ok (.iload_n 1, 1) := by decide +kernel
theorem dX8_then_74 : decode cX8_then 74 = .ok (.iconst 4, 1) := by decide +kernel
theorem dX8_then_75 : decode cX8_then 75 = .ok (.invokevirtual 55, 3) := by decide +kernel
theorem dX8_then_78 : decode cX8_then 78 = .ok (.istore 4, 2) := by decide +kernel
theorem dX8_then_80 : decode cX8_then 80 = .ok (.aload_n 0, 1) := by decide +kernel
theorem dX8_then_81 : decode cX8_then 81 = .ok (.invokevirtual 215, 3) := by decide +kernel
theorem dX8_then_84 : decode cX8_then 84 = .ok (.iload 4, 2) := by decide +kernel
theorem dX8_then_86 : decode cX8_then 86 = .ok (.ireturn, 1) := by decide +kernel
theorem dX8_first_0 : decode cX8_first 0 = .ok (.iload_n 1, 1) := by decide +kernel
theorem dX8_first_1 : decode cX8_first 1 = .ok (.invokestatic 109, 3) := by decide +kernel
theorem dX8_first_4 : decode cX8_first 4 = .ok (.ifCond .eq 12, 3) := by decide +kernel
theorem dX8_first_7 : decode cX8_first 7 = .ok (.iload_n 2, 1) := by decide +kernel
theorem dX8_first_8 : decode cX8_first 8 = .ok (.iconst 0, 1) := by decide +kernel
theorem dX8_first_9 : decode cX8_first 9 = .ok (.iconst 1, 1) := by decide +kernel
theorem dX8_first_10 : decode cX8_first 10 = .ok (.invokestatic 51, 3) := by decide +kernel
theorem dX8_first_13 : decode cX8_first 13 = .ok (.ifCond .ne 10, 3) := by decide +kernel
theorem dX8_first_16 : decode cX8_first 16 = .ok (.aload_n 0, 1) := by decide +kernel
theorem dX8_first_17 : decode cX8_first 17 = .ok (.ldc 100, 2) := by decide +kernel
theorem dX8_first_19 : decode cX8_first 19 = .ok (.invokevirtual 101, 3) := by decide +kernel
theorem dX8_first_22 : decode cX8_first 22 = .ok (.ireturn, 1) := by decide +kernel
theorem dX8_first_23 : decode cX8_first 23 = .ok (.aload_n 0, 1) := by decide +kernel
theorem dX8_first_24 : decode cX8_first 24 = .ok (.invokevirtual 212, 3) := by decide +kernel
theorem dX8_first_27 : decode cX8_first 27 = .ok (.iconst 0, 1) := by decide +kernel
theorem dX8_first_28 : decode cX8_first 28 = .ok (.istore_n 3, 1) := by decide +kernel
theorem dX8_first_29 : decode cX8_first 29 = .ok (.iload_n 3, 1) := by decide +kernel
theorem dX8_first_30 : decode cX8_first 30 = .ok (.bipush 60, 2) := by decide +kernel
theorem dX8_first_32 : decode cX8_first 32 = .ok (.if_icmp .gt 21, 3) := by decide +kernel
theorem dX8_first_35 : decode cX8_first 35 = .ok (.aload_n 0, 1) := by decide +kernel
theorem dX8_first_36 : decode cX8_first 36 = .ok (.iload_n 1, 1) := by decide +kernel
theorem dX8_first_37 : decode cX8_first 37 = .ok (.invokevirtual 127, 3) := by decide +kernel
theorem dX8_first_40 : decode cX8_first 40 = .ok (.ifCond .ge 13, 3) := by decide +kernel
theorem dX8_first_43 : decode cX8_first 43 = .ok (.aload_n 0, 1) := by decide +kernel
theorem dX8_first_44 : decode cX8_first 44 = .ok (.invokevirtual 195, 3) := by decide +kernel
theorem dX8_first_47 : decode cX8_first 47 = .ok (.iinc 3 1, 3) := by decide +kernel
theorem dX8_first_50 : decode cX8_first 50 = .ok (.goto (-21), 3) := by decide +kernel
theorem dX8_first_53 : decode cX8_first 53 = .ok (.aload_n 0, 1) := by decide +kernel
theorem dX8_first_54 : decode cX8_first 54 = .ok (.iload_n 1, 1) := by decide +kernel
theorem dX8_first_55 : decode cX8_first 55 = .ok (.invokevirtual 127, 3) := by decide +kernel
theorem dX8_first_58 : decode cX8_first 58 = .ok (.istore 4, 2) := by decide +kernel
theorem dX8_first_60 : decode cX8_first 60 = .ok (.aload_n 0, 1) := by decide +kernel
theorem dX8_first_61 : decode cX8_first 61 = .ok (.invokevirtual 215, 3) := by decide +kernel
theorem dX8_first_64 : decode cX8_first 64 = .ok (.iload_n 3, 1) := by decide +kernel
theorem dX8_first_65 : decode cX8_first 65 = .ok (.bipush 60, 2) := by decide +kernel
theorem dX8_first_67 : decode cX8_first 67 = .ok (.if_icmp .le 12, 3) := by decide +kernel
theorem dX8_first_70 : decode cX8_first 70 = .ok (.aload_n 0, 1) := by decide +kernel
theorem dX8_first_71 : decode cX8_first 71 = .ok (.ldc 218, 2) := by decide +kernel
theorem dX8_first_73 : decode cX8_first 73 = .ok (.invokevirtual 101, 3) := by decide +kernel
theorem dX8_first_76 : decode cX8_first 76 = .ok (.goto 13, 3) := by decide +kernel
theorem dX8_first_79 : decode cX8_first 79 = .ok (.iload_n 2, 1) := by decide +kernel
theorem dX8_first_80 : decode cX8_first 80 = .ok (.ifCond .ne 7, 3) := by decide +kernel
theorem dX8_first_83 : decode cX8_first 83 = .ok (.iload_n 3, 1) := by decide +kernel
theorem dX8_first_84 : decode cX8_first 84 = .ok (.goto 5, 3) := by decide +kernel
theorem dX8_first_87 : decode cX8_first 87 = .ok (.iload 4, 2) := by decide +kernel
theorem dX8_first_89 : decode cX8_first 89 = .ok (.ireturn, 1) := by decide +kernel
theorem dX8_isHad_0 : decode cX8_isHad 0 = .ok (.iload 4, 2) := by decide +kernel
theorem dX8_isHad_2 : decode cX8_isHad 2 = .ok (.ifCond .lt 14, 3) := by decide +kernel
theorem dX8_isHad_5 : decode cX8_isHad 5 = .ok (.aload_n 0, 1) := by decide +kernel
theorem dX8_isHad_6 : decode cX8_isHad 6 = .ok (.getfield 9, 3) := by decide +kernel
theorem dX8_isHad_9 : decode cX8_isHad 9 = .ok (.bipush 70, 2) := by decide +kernel
theorem dX8_isHad_11 : decode cX8_isHad 11 = .ok (.iload 4, 2) := by decide +kernel
theorem dX8_isHad_13 : decode cX8_isHad 13 = .ok (.iadd, 1) := by decide +kernel
theorem dX8_isHad_14 : decode cX8_isHad 14 = .ok (.iconst 1, 1) := by decide +kernel
theorem dX8_isHad_15 : decode cX8_isHad 15 = .ok (.iastore, 1) := by decide +kernel
theorem dX8_isHad_16 : decode cX8_isHad 16 = .ok (.iload 5, 2) := by decide +kernel
theorem dX8_isHad_18 : decode cX8_isHad 18 = .ok (.ifCond .lt 14, 3) := by decide +kernel
theorem dX8_isHad_21 : decode cX8_isHad 21 = .ok (.aload_n 0, 1) := by decide +kernel
theorem dX8_isHad_22 : decode cX8_isHad 22 = .ok (.getfield 9, 3) := by decide +kernel
theorem dX8_isHad_25 : decode cX8_isHad 25 = .ok (.bipush 70, 2) := by decide +kernel
theorem dX8_isHad_27 : decode cX8_isHad 27 = .ok (.iload 5, 2) := by decide +kernel
theorem dX8_isHad_29 : decode cX8_isHad 29 = .ok (.iadd, 1) := by decide +kernel
theorem dX8_isHad_30 : decode cX8_isHad 30 = .ok (.iconst 1, 1) := by decide +kernel
theorem dX8_isHad_31 : decode cX8_isHad 31 = .ok (.iastore, 1) := by decide +kernel
theorem dX8_isHad_32 : decode cX8_isHad 32 = .ok (.iconst 0, 1) := by decide +kernel
theorem dX8_isHad_33 : decode cX8_isHad 33 = .ok (.istore 6, 2) := by decide +kernel
theorem dX8_isHad_35 : decode cX8_isHad 35 = .ok (.iload 6, 2) := by decide +kernel
theorem dX8_isHad_37 : decode cX8_isHad 37 = .ok (.iload_n 3, 1) := by decide +kernel
theorem dX8_isHad_38 : decode cX8_isHad 38 = .ok (.if_icmp .ge 13, 3) := by decide +kernel
theorem dX8_isHad_41 : decode cX8_isHad 41 = .ok (.aload_n 0, 1) := by decide +kernel
theorem dX8_isHad_42 : decode cX8_isHad 42 = .ok (.invokevirtual 195, 3) := by decide +kernel
theorem dX8_isHad_45 : decode cX8_isHad 45 = .ok (.iinc 6 1, 3) := by decide +kernel
theorem dX8_isHad_48 : decode cX8_isHad 48 = .ok (.goto (-13), 3) := by decide +kernel
theorem dX8_isHad_51 : decode cX8_isHad 51 = .ok (.aload_n 0, 1) := by decide +kernel
theorem dX8_isHad_52 : decode cX8_isHad 52 = .ok (.iload_n 1, 1) := by decide +kernel
theorem dX8_isHad_53 : decode cX8_isHad 53 = .ok (.invokevirtual 85, 3) := by decide +kernel
theorem dX8_isHad_56 : decode cX8_isHad 56 = .ok (.iload_n 2, 1) := by decide +kernel
theorem dX8_isHad_57 : decode cX8_isHad 57 = .ok (.lushr, 1) := by decide +kernel
theorem dX8_isHad_58 : decode cX8_isHad 58 = .ok (.lconst 1, 1) := by decide +kernel
theorem dX8_isHad_59 : decode cX8_isHad 59 = .ok (.land, 1) := by decide +kernel
theorem dX8_isHad_60 : decode cX8_isHad 60 = .ok (.lconst 1, 1) := by decide +kernel
theorem dX8_isHad_61 : decode cX8_isHad 61 = .ok (.lcmp, 1) := by decide +kernel
theorem dX8_isHad_62 : decode cX8_isHad 62 = .ok (.ifCond .ne 7, 3) := by decide +kernel
theorem dX8_isHad_65 : decode cX8_isHad 65 = .ok (.iconst 1, 1) := by decide +kernel
theorem dX8_isHad_66 : decode cX8_isHad 66 = .ok (.goto 4, 3) := by decide +kernel
theorem dX8_isHad_69 : decode cX8_isHad 69 = .ok (.iconst 0, 1) := by decide +kernel
theorem dX8_isHad_70 : decode cX8_isHad 70 = .ok (.istore 6, 2) := by decide +kernel
theorem dX8_isHad_72 : decode cX8_isHad 72 = .ok (.aload_n 0, 1) := by decide +kernel
theorem dX8_isHad_73 : decode cX8_isHad 73 = .ok (.invokevirtual 215, 3) := by decide +kernel
theorem dX8_isHad_76 : decode cX8_isHad 76 = .ok (.iload 6, 2) := by decide +kernel
theorem dX8_isHad_78 : decode cX8_isHad 78 = .ok (.ireturn, 1) := by decide +kernel
theorem dX8_salts_0 : decode cX8_salts 0 = .ok (.aload_n 0, 1) := by decide +kernel
theorem dX8_salts_1 : decode cX8_salts 1 = .ok (.iload_n 1, 1) := by decide +kernel
theorem dX8_salts_2 : decode cX8_salts 2 = .ok (.invokevirtual 106, 3) := by decide +kernel
theorem dX8_salts_5 : decode cX8_salts 5 = .ok (.ifCond .eq 30, 3) := by decide +kernel
theorem dX8_salts_8 : decode cX8_salts 8 = .ok (.iload_n 2, 1) := by decide +kernel
theorem dX8_salts_9 : decode cX8_salts 9 = .ok (.invokestatic 109, 3) := by decide +kernel
theorem dX8_salts_12 : decode cX8_salts 12 = .ok (.ifCond .eq 23, 3) := by decide +kernel
theorem dX8_salts_15 : decode cX8_salts 15 = .ok (.iload_n 3, 1) := by decide +kernel
theorem dX8_salts_16 : decode cX8_salts 16 = .ok (.iconst 0, 1) := by decide +kernel
theorem dX8_salts_17 : decode cX8_salts 17 = .ok (.bipush 6, 2) := by decide +kernel
theorem dX8_salts_19 : decode cX8_salts 19 = .ok (.invokestatic 51, 3) := by decide +kernel
theorem dX8_salts_22 : decode cX8_salts 22 = .ok (.ifCond .eq 13, 3) := by decide +kernel
theorem dX8_salts_25 : decode cX8_salts 25 = .ok (.iload 4, 2) := by decide +kernel
theorem dX8_salts_27 : decode cX8_salts 27 = .ok (.iconst (-1), 1) := by decide +kernel
theorem dX8_salts_28 : decode cX8_salts 28 = .ok (.iconst 1, 1) := by decide +kernel
theorem dX8_salts_29 : decode cX8_salts 29 = .ok (.invokestatic 51, 3) := by decide +kernel
theorem dX8_salts_32 : decode cX8_salts 32 = .ok (.ifCond .ne 10, 3) := by decide +kernel
theorem dX8_salts_35 : decode cX8_salts 35 = .ok (.aload_n 0, 1) := by decide +kernel
theorem dX8_salts_36 : decode cX8_salts 36 = .ok (.ldc 100, 2) := by decide +kernel
theorem dX8_salts_38 : decode cX8_salts 38 = .ok (.invokevirtual 101, 3) := by decide +kernel
theorem dX8_salts_41 : decode cX8_salts 41 = .ok (.ireturn, 1) := by decide +kernel
theorem dX8_salts_42 : decode cX8_salts 42 = .ok (.aload_n 0, 1) := by decide +kernel
theorem dX8_salts_43 : decode cX8_salts 43 = .ok (.invokevirtual 212, 3) := by decide +kernel
theorem dX8_salts_46 : decode cX8_salts 46 = .ok (.aload_n 0, 1) := by decide +kernel
theorem dX8_salts_47 : decode cX8_salts 47 = .ok (.iload_n 1, 1) := by decide +kernel
theorem dX8_salts_48 : decode cX8_salts 48 = .ok (.iload_n 2, 1) := by decide +kernel
theorem dX8_salts_49 : decode cX8_salts 49 = .ok (.iload_n 3, 1) := by decide +kernel
theorem dX8_salts_50 : decode cX8_salts 50 = .ok (.iconst (-1), 1) := by decide +kernel
theorem dX8_salts_51 : decode cX8_salts 51 = .ok (.iconst (-1), 1) := by decide +kernel
theorem dX8_salts_52 : decode cX8_salts 52 = .ok (.invokevirtual 219, 3) := by decide +kernel
theorem dX8_salts_55 : decode cX8_salts 55 = .ok (.ifCond .eq 14, 3) := by decide +kernel
theorem dX8_salts_58 : decode cX8_salts 58 = .ok (.iload 4, 2) := by decide +kernel
theorem dX8_salts_60 : decode cX8_salts 60 = .ok (.ifCond .ge 7, 3) := by decide +kernel
theorem dX8_salts_63 : decode cX8_salts 63 = .ok (.iconst 0, 1) := by decide +kernel
theorem dX8_salts_64 : decode cX8_salts 64 = .ok (.goto 4, 3) := by decide +kernel
theorem dX8_salts_67 : decode cX8_salts 67 = .ok (.iconst (-1), 1) := by decide +kernel
theorem dX8_salts_68 : decode cX8_salts 68 = .ok (.ireturn, 1) := by decide +kernel
theorem dX8_salts_69 : decode cX8_salts 69 = .ok (.iconst 0, 1) := by decide +kernel
theorem dX8_salts_70 : decode cX8_salts 70 = .ok (.istore 5, 2) := by decide +kernel
theorem dX8_salts_72 : decode cX8_salts 72 = .ok (.iload 5, 2) := by decide +kernel
theorem dX8_salts_74 : decode cX8_salts 74 = .ok (.bipush 64, 2) := by decide +kernel
theorem dX8_salts_76 : decode cX8_salts 76 = .ok (.if_icmp .ge 43, 3) := by decide +kernel
theorem dX8_salts_79 : decode cX8_salts 79 = .ok (.aload_n 0, 1) := by decide +kernel
theorem dX8_salts_80 : decode cX8_salts 80 = .ok (.iload_n 1, 1) := by decide +kernel
theorem dX8_salts_81 : decode cX8_salts 81 = .ok (.iload_n 2, 1) := by decide +kernel
theorem dX8_salts_82 : decode cX8_salts 82 = .ok (.iload_n 3, 1) := by decide +kernel
theorem dX8_salts_83 : decode cX8_salts 83 = .ok (.iload 5, 2) := by decide +kernel
theorem dX8_salts_85 : decode cX8_salts 85 = .ok (.iconst (-1), 1) := by decide +kernel
theorem dX8_salts_86 : decode cX8_salts 86 = .ok (.invokevirtual 219, 3) := by decide +kernel
theorem dX8_salts_89 : decode cX8_salts 89 = .ok (.ifCond .eq 24, 3) := by decide +kernel
theorem dX8_salts_92 : decode cX8_salts 92 = .ok (.iload 4, 2) := by decide +kernel
theorem dX8_salts_94 : decode cX8_salts 94 = .ok (.ifCond .ge 7, 3) := by decide +kernel
theorem dX8_salts_97 : decode cX8_salts 97 = .ok (.iconst 1, 1) := by decide +kernel
theorem dX8_salts_98 : decode cX8_salts 98 = .ok (.goto 14, 3) := by decide +kernel
theorem dX8_salts_101 : decode cX8_salts 101 = .ok (.iload 4, 2) := by decide +kernel
theorem dX8_salts_103 : decode cX8_salts 103 = .ok (.ifCond .ne 8, 3) := by decide +kernel
theorem dX8_salts_106 : decode cX8_salts 106 = .ok (.iload 5, 2) := by decide +kernel
theorem dX8_salts_108 : decode cX8_salts 108 = .ok (.goto 4, 3) := by decide +kernel
theorem dX8_salts_111 : decode cX8_salts 111 = .ok (.iconst (-1), 1) := by decide +kernel
theorem dX8_salts_112 : decode cX8_salts 112 = .ok (.ireturn, 1) := by decide +kernel
theorem dX8_salts_113 : decode cX8_salts 113 = .ok (.iinc 5 1, 3) := by decide +kernel
theorem dX8_salts_116 : decode cX8_salts 116 = .ok (.goto (-44), 3) := by decide +kernel
theorem dX8_salts_119 : decode cX8_salts 119 = .ok (.iconst 0, 1) := by decide +kernel
theorem dX8_salts_120 : decode cX8_salts 120 = .ok (.istore 5, 2) := by decide +kernel
theorem dX8_salts_122 : decode cX8_salts 122 = .ok (.iload 5, 2) := by decide +kernel
theorem dX8_salts_124 : decode cX8_salts 124 = .ok (.bipush 64, 2) := by decide +kernel
theorem dX8_salts_126 : decode cX8_salts 126 = .ok (.if_icmp .ge 64, 3) := by decide +kernel
theorem dX8_salts_129 : decode cX8_salts 129 = .ok (.iload 5, 2) := by decide +kernel
theorem dX8_salts_131 : decode cX8_salts 131 = .ok (.iconst 1, 1) := by decide +kernel
theorem dX8_salts_132 : decode cX8_salts 132 = .ok (.iadd, 1) := by decide +kernel
theorem dX8_salts_133 : decode cX8_salts 133 = .ok (.istore 6, 2) := by decide +kernel
theorem dX8_salts_135 : decode cX8_salts 135 = .ok (.iload 6, 2) := by decide +kernel
theorem dX8_salts_137 : decode cX8_salts 137 = .ok (.bipush 64, 2) := by decide +kernel
theorem dX8_salts_139 : decode cX8_salts 139 = .ok (.if_icmp .ge 45, 3) := by decide +kernel
theorem dX8_salts_142 : decode cX8_salts 142 = .ok (.aload_n 0, 1) := by decide +kernel
theorem dX8_salts_143 : decode cX8_salts 143 = .ok (.iload_n 1, 1) := by decide +kernel
theorem dX8_salts_144 : decode cX8_salts 144 = .ok (.iload_n 2, 1) := by decide +kernel
theorem dX8_salts_145 : decode cX8_salts 145 = .ok (.iload_n 3, 1) := by decide +kernel
theorem dX8_salts_146 : decode cX8_salts 146 = .ok (.iload 5, 2) := by decide +kernel
theorem dX8_salts_148 : decode cX8_salts 148 = .ok (.iload 6, 2) := by decide +kernel
theorem dX8_salts_150 : decode cX8_salts 150 = .ok (.invokevirtual 219, 3) := by decide +kernel
theorem dX8_salts_153 : decode cX8_salts 153 = .ok (.ifCond .eq 25, 3) := by decide +kernel
theorem dX8_salts_156 : decode cX8_salts 156 = .ok (.iload 4, 2) := by decide +kernel
theorem dX8_salts_158 : decode cX8_salts 158 = .ok (.ifCond .ge 7, 3) := by decide +kernel
theorem dX8_salts_161 : decode cX8_salts 161 = .ok (.iconst 2, 1) := by decide +kernel
theorem dX8_salts_162 : decode cX8_salts 162 = .ok (.goto 15, 3) := by decide +kernel
theorem dX8_salts_165 : decode cX8_salts 165 = .ok (.iload 4, 2) := by decide +kernel
theorem dX8_salts_167 : decode cX8_salts 167 = .ok (.ifCond .ne 8, 3) := by decide +kernel
theorem dX8_salts_170 : decode cX8_salts 170 = .ok (.iload 5, 2) := by decide +kernel
theorem dX8_salts_172 : decode cX8_salts 172 = .ok (.goto 5, 3) := by decide +kernel
theorem dX8_salts_175 : decode cX8_salts 175 = .ok (.iload 6, 2) := by decide +kernel
theorem dX8_salts_177 : decode cX8_salts 177 = .ok (.ireturn, 1) := by decide +kernel
theorem dX8_salts_178 : decode cX8_salts 178 = .ok (.iinc 6 1, 3) := by decide +kernel
theorem dX8_salts_181 : decode cX8_salts 181 = .ok (.goto (-46), 3) := by decide +kernel
theorem dX8_salts_184 : decode cX8_salts 184 = .ok (.iinc 5 1, 3) := by decide +kernel
theorem dX8_salts_187 : decode cX8_salts 187 = .ok (.goto (-65), 3) := by decide +kernel
theorem dX8_salts_190 : decode cX8_salts 190 = .ok (.aload_n 0, 1) := by decide +kernel
theorem dX8_salts_191 : decode cX8_salts 191 = .ok (.ldc 218, 2) := by decide +kernel
theorem dX8_salts_193 : decode cX8_salts 193 = .ok (.invokevirtual 101, 3) := by decide +kernel
theorem dX8_salts_196 : decode cX8_salts 196 = .ok (.ireturn, 1) := by decide +kernel
theorem dX8_allPosts_0 : decode cX8_allPosts 0 = .ok (.lconst 0, 1) := by decide +kernel
theorem dX8_allPosts_1 : decode cX8_allPosts 1 = .ok (.lstore_n 1, 1) := by decide +kernel
theorem dX8_allPosts_2 : decode cX8_allPosts 2 = .ok (.iconst 0, 1) := by decide +kernel
theorem dX8_allPosts_3 : decode cX8_allPosts 3 = .ok (.istore_n 3, 1) := by decide +kernel
theorem dX8_allPosts_4 : decode cX8_allPosts 4 = .ok (.iload_n 3, 1) := by decide +kernel
theorem dX8_allPosts_5 : decode cX8_allPosts 5 = .ok (.aload_n 0, 1) := by decide +kernel
theorem dX8_allPosts_6 : decode cX8_allPosts 6 = .ok (.getfield 9, 3) := by decide +kernel
theorem dX8_allPosts_9 : decode cX8_allPosts 9 = .ok (.iconst 2, 1) := by decide +kernel
theorem dX8_allPosts_10 : decode cX8_allPosts 10 = .ok (.iaload, 1) := by decide +kernel
theorem dX8_allPosts_11 : decode cX8_allPosts 11 = .ok (.if_icmp .ge 17, 3) := by decide +kernel
theorem dX8_allPosts_14 : decode cX8_allPosts 14 = .ok (.lload_n 1, 1) := by decide +kernel
theorem dX8_allPosts_15 : decode cX8_allPosts 15 = .ok (.aload_n 0, 1) := by decide +kernel
theorem dX8_allPosts_16 : decode cX8_allPosts 16 = .ok (.iload_n 3, 1) := by decide +kernel
theorem dX8_allPosts_17 : decode cX8_allPosts 17 = .ok (.invokevirtual 73, 3) := by decide +kernel
theorem dX8_allPosts_20 : decode cX8_allPosts 20 = .ok (.lor, 1) := by decide +kernel
theorem dX8_allPosts_21 : decode cX8_allPosts 21 = .ok (.lstore_n 1, 1) := by decide +kernel
theorem dX8_allPosts_22 : decode cX8_allPosts 22 = .ok (.iinc 3 1, 3) := by decide +kernel
theorem dX8_allPosts_25 : decode cX8_allPosts 25 = .ok (.goto (-21), 3) := by decide +kernel
theorem dX8_allPosts_28 : decode cX8_allPosts 28 = .ok (.lload_n 1, 1) := by decide +kernel
theorem dX8_allPosts_29 : decode cX8_allPosts 29 = .ok (.lreturn, 1) := by decide +kernel
theorem dX8_way_0 : decode cX8_way 0 = .ok (.aload_n 0, 1) := by decide +kernel
theorem dX8_way_1 : decode cX8_way 1 = .ok (.iload_n 1, 1) := by decide +kernel
theorem dX8_way_2 : decode cX8_way 2 = .ok (.invokevirtual 124, 3) := by decide +kernel
theorem dX8_way_5 : decode cX8_way 5 = .ok (.ifCond .eq 10, 3) := by decide +kernel
theorem dX8_way_8 : decode cX8_way 8 = .ok (.iload_n 2, 1) := by decide +kernel
theorem dX8_way_9 : decode cX8_way 9 = .ok (.invokestatic 109, 3) := by decide +kernel
theorem dX8_way_12 : decode cX8_way 12 = .ok (.ifCond .ne 10, 3) := by decide +kernel
theorem dX8_way_15 : decode cX8_way 15 = .ok (.aload_n 0, 1) := by decide +kernel
theorem dX8_way_16 : decode cX8_way 16 = .ok (.ldc 100, 2) := by decide +kernel
theorem dX8_way_18 : decode cX8_way 18 = .ok (.invokevirtual 101, 3) := by decide +kernel
theorem dX8_way_21 : decode cX8_way 21 = .ok (.ireturn, 1) := by decide +kernel
theorem dX8_way_22 : decode cX8_way 22 = .ok (.aload_n 0, 1) := by decide +kernel
theorem dX8_way_23 : decode cX8_way 23 = .ok (.invokevirtual 212, 3) := by decide +kernel
theorem dX8_way_26 : decode cX8_way 26 = .ok (.lconst 1, 1) := by decide +kernel
theorem dX8_way_27 : decode cX8_way 27 = .ok (.aload_n 0, 1) := by decide +kernel
theorem dX8_way_28 : decode cX8_way 28 = .ok (.getfield 9, 3) := by decide +kernel
theorem dX8_way_31 : decode cX8_way 31 = .ok (.bipush 58, 2) := by decide +kernel
theorem dX8_way_33 : decode cX8_way 33 = .ok (.iconst 2, 1) := by decide +kernel
theorem dX8_way_34 : decode cX8_way 34 = .ok (.iload_n 1, 1) := by decide +kernel
theorem dX8_way_35 : decode cX8_way 35 = .ok (.imul, 1) := by decide +kernel
theorem dX8_way_36 : decode cX8_way 36 = .ok (.iadd, 1) := by decide +kernel
theorem dX8_way_37 : decode cX8_way 37 = .ok (.iaload, 1) := by decide +kernel
theorem dX8_way_38 : decode cX8_way 38 = .ok (.lshl, 1) := by decide +kernel
theorem dX8_way_39 : decode cX8_way 39 = .ok (.lstore_n 3, 1) := by decide +kernel
theorem dX8_way_40 : decode cX8_way 40 = .ok (.iconst 0, 1) := by decide +kernel
theorem dX8_way_41 : decode cX8_way 41 = .ok (.istore 5, 2) := by decide +kernel
theorem dX8_way_43 : decode cX8_way 43 = .ok (.iload 5, 2) := by decide +kernel
theorem dX8_way_45 : decode cX8_way 45 = .ok (.bipush 60, 2) := by decide +kernel
theorem dX8_way_47 : decode cX8_way 47 = .ok (.if_icmp .gt 39, 3) := by decide +kernel
theorem dX8_way_50 : decode cX8_way 50 = .ok (.lload_n 3, 1) := by decide +kernel
theorem dX8_way_51 : decode cX8_way 51 = .ok (.iload_n 2, 1) := by decide +kernel
theorem dX8_way_52 : decode cX8_way 52 = .ok (.lushr, 1) := by decide +kernel
theorem dX8_way_53 : decode cX8_way 53 = .ok (.lconst 1, 1) := by decide +kernel
theorem dX8_way_54 : decode cX8_way 54 = .ok (.land, 1) := by decide +kernel
theorem dX8_way_55 : decode cX8_way 55 = .ok (.lconst 0, 1) := by decide +kernel
theorem dX8_way_56 : decode cX8_way 56 = .ok (.lcmp, 1) := by decide +kernel
theorem dX8_way_57 : decode cX8_way 57 = .ok (.ifCond .ne 29, 3) := by decide +kernel
theorem dX8_way_60 : decode cX8_way 60 = .ok (.aload_n 0, 1) := by decide +kernel
theorem dX8_way_61 : decode cX8_way 61 = .ok (.invokevirtual 195, 3) := by decide +kernel
theorem dX8_way_64 : decode cX8_way 64 = .ok (.lload_n 3, 1) := by decide +kernel
theorem dX8_way_65 : decode cX8_way 65 = .ok (.lload_n 3, 1) := by decide +kernel
theorem dX8_way_66 : decode cX8_way 66 = .ok (.invokestatic 81, 3) := by decide +kernel
theorem dX8_way_69 : decode cX8_way 69 = .ok (.aload_n 0, 1) := by decide +kernel
theorem dX8_way_70 : decode cX8_way 70 = .ok (.invokevirtual 223, 3) := by decide +kernel
theorem dX8_way_73 : decode cX8_way 73 = .ok (.ldc2_w 77, 3) := by decide +kernel
theorem dX8_way_76 : decode cX8_way 76 = .ok (.lxor, 1) := by decide +kernel
theorem dX8_way_77 : decode cX8_way 77 = .ok (.land, 1) := by decide +kernel
theorem dX8_way_78 : decode cX8_way 78 = .ok (.lor, 1) := by decide +kernel
theorem dX8_way_79 : decode cX8_way 79 = .ok (.lstore_n 3, 1) := by decide +kernel
theorem dX8_way_80 : decode cX8_way 80 = .ok (.iinc 5 1, 3) := by decide +kernel
theorem dX8_way_83 : decode cX8_way 83 = .ok (.goto (-40), 3) := by decide +kernel
theorem dX8_way_86 : decode cX8_way 86 = .ok (.aload_n 0, 1) := by decide +kernel
theorem dX8_way_87 : decode cX8_way 87 = .ok (.invokevirtual 215, 3) := by decide +kernel
theorem dX8_way_90 : decode cX8_way 90 = .ok (.iload 5, 2) := by decide +kernel
theorem dX8_way_92 : decode cX8_way 92 = .ok (.bipush 60, 2) := by decide +kernel
theorem dX8_way_94 : decode cX8_way 94 = .ok (.if_icmp .le 12, 3) := by decide +kernel
theorem dX8_way_97 : decode cX8_way 97 = .ok (.aload_n 0, 1) := by decide +kernel
theorem dX8_way_98 : decode cX8_way 98 = .ok (.ldc 218, 2) := by decide +kernel
theorem dX8_way_100 : decode cX8_way 100 = .ok (.invokevirtual 101, 3) := by decide +kernel
theorem dX8_way_103 : decode cX8_way 103 = .ok (.goto 5, 3) := by decide +kernel
theorem dX8_way_106 : decode cX8_way 106 = .ok (.iload 5, 2) := by decide +kernel
theorem dX8_way_108 : decode cX8_way 108 = .ok (.ireturn, 1) := by decide +kernel
theorem dX8_odds_0 : decode cX8_odds 0 = .ok (.iload_n 1, 1) := by decide +kernel
theorem dX8_odds_1 : decode cX8_odds 1 = .ok (.iconst 0, 1) := by decide +kernel
theorem dX8_odds_2 : decode cX8_odds 2 = .ok (.iconst 1, 1) := by decide +kernel
theorem dX8_odds_3 : decode cX8_odds 3 = .ok (.invokestatic 51, 3) := by decide +kernel
theorem dX8_odds_6 : decode cX8_odds 6 = .ok (.ifCond .ne 10, 3) := by decide +kernel
theorem dX8_odds_9 : decode cX8_odds 9 = .ok (.aload_n 0, 1) := by decide +kernel
theorem dX8_odds_10 : decode cX8_odds 10 = .ok (.ldc 100, 2) := by decide +kernel
theorem dX8_odds_12 : decode cX8_odds 12 = .ok (.invokevirtual 101, 3) := by decide +kernel
theorem dX8_odds_15 : decode cX8_odds 15 = .ok (.ireturn, 1) := by decide +kernel
theorem dX8_odds_16 : decode cX8_odds 16 = .ok (.lconst 0, 1) := by decide +kernel
theorem dX8_odds_17 : decode cX8_odds 17 = .ok (.lstore_n 2, 1) := by decide +kernel
theorem dX8_odds_18 : decode cX8_odds 18 = .ok (.iconst 0, 1) := by decide +kernel
theorem dX8_odds_19 : decode cX8_odds 19 = .ok (.istore 4, 2) := by decide +kernel
theorem dX8_odds_21 : decode cX8_odds 21 = .ok (.iload 4, 2) := by decide +kernel
theorem dX8_odds_23 : decode cX8_odds 23 = .ok (.aload_n 0, 1) := by decide +kernel
theorem dX8_odds_24 : decode cX8_odds 24 = .ok (.getfield 9, 3) := by decide +kernel
theorem dX8_odds_27 : decode cX8_odds 27 = .ok (.iconst 2, 1) := by decide +kernel
theorem dX8_odds_28 : decode cX8_odds 28 = .ok (.iaload, 1) := by decide +kernel
theorem dX8_odds_29 : decode cX8_odds 29 = .ok (.if_icmp .ge 18, 3) := by decide +kernel
theorem dX8_odds_32 : decode cX8_odds 32 = .ok (.lload_n 2, 1) := by decide +kernel
theorem dX8_odds_33 : decode cX8_odds 33 = .ok (.aload_n 0, 1) := by decide +kernel
theorem dX8_odds_34 : decode cX8_odds 34 = .ok (.iload 4, 2) := by decide +kernel
theorem dX8_odds_36 : decode cX8_odds 36 = .ok (.invokevirtual 85, 3) := by decide +kernel
theorem dX8_odds_39 : decode cX8_odds 39 = .ok (.lor, 1) := by decide +kernel
theorem dX8_odds_40 : decode cX8_odds 40 = .ok (.lstore_n 2, 1) := by decide +kernel
theorem dX8_odds_41 : decode cX8_odds 41 = .ok (.iinc 4 1, 3) := by decide +kernel
theorem dX8_odds_44 : decode cX8_odds 44 = .ok (.goto (-23), 3) := by decide +kernel
theorem dX8_odds_47 : decode cX8_odds 47 = .ok (.lload_n 2, 1) := by decide +kernel
theorem dX8_odds_48 : decode cX8_odds 48 = .ok (.invokestatic 88, 3) := by decide +kernel
theorem dX8_odds_51 : decode cX8_odds 51 = .ok (.istore 4, 2) := by decide +kernel
theorem dX8_odds_53 : decode cX8_odds 53 = .ok (.bipush 64, 2) := by decide +kernel
theorem dX8_odds_55 : decode cX8_odds 55 = .ok (.istore 5, 2) := by decide +kernel
theorem dX8_odds_57 : decode cX8_odds 57 = .ok (.iload 4, 2) := by decide +kernel
theorem dX8_odds_59 : decode cX8_odds 59 = .ok (.iconst 2, 1) := by decide +kernel
theorem dX8_odds_60 : decode cX8_odds 60 = .ok (.irem, 1) := by decide +kernel
theorem dX8_odds_61 : decode cX8_odds 61 = .ok (.ifCond .ne 24, 3) := by decide +kernel
theorem dX8_odds_64 : decode cX8_odds 64 = .ok (.iload 5, 2) := by decide +kernel
theorem dX8_odds_66 : decode cX8_odds 66 = .ok (.iconst 1, 1) := by decide +kernel
theorem dX8_odds_67 : decode cX8_odds 67 = .ok (.if_icmp .le 18, 3) := by decide +kernel
theorem dX8_odds_70 : decode cX8_odds 70 = .ok (.iload 4, 2) := by decide +kernel
theorem dX8_odds_72 : decode cX8_odds 72 = .ok (.iconst 2, 1) := by decide +kernel
theorem dX8_odds_73 : decode cX8_odds 73 = .ok (.idiv, 1) := by decide +kernel
theorem dX8_odds_74 : decode cX8_odds 74 = .ok (.istore 4, 2) := by decide +kernel
theorem dX8_odds_76 : decode cX8_odds 76 = .ok (.iload 5, 2) := by decide +kernel
theorem dX8_odds_78 : decode cX8_odds 78 = .ok (.iconst 2, 1) := by decide +kernel
theorem dX8_odds_79 : decode cX8_odds 79 = .ok (.idiv, 1) := by decide +kernel
theorem dX8_odds_80 : decode cX8_odds 80 = .ok (.istore 5, 2) := by decide +kernel
theorem dX8_odds_82 : decode cX8_odds 82 = .ok (.goto (-25), 3) := by decide +kernel
theorem dX8_odds_85 : decode cX8_odds 85 = .ok (.iload_n 1, 1) := by decide +kernel
theorem dX8_odds_86 : decode cX8_odds 86 = .ok (.ifCond .ne 8, 3) := by decide +kernel
theorem dX8_odds_89 : decode cX8_odds 89 = .ok (.iload 4, 2) := by decide +kernel
theorem dX8_odds_91 : decode cX8_odds 91 = .ok (.goto 5, 3) := by decide +kernel
theorem dX8_odds_94 : decode cX8_odds 94 = .ok (.iload 5, 2) := by decide +kernel
theorem dX8_odds_96 : decode cX8_odds 96 = .ok (.ireturn, 1) := by decide +kernel
theorem dX8_isSo_0 : decode cX8_isSo 0 = .ok (.iconst 1, 1) := by decide +kernel
theorem dX8_isSo_1 : decode cX8_isSo 1 = .ok (.istore_n 3, 1) := by decide +kernel
theorem dX8_isSo_2 : decode cX8_isSo 2 = .ok (.iconst 0, 1) := by decide +kernel
theorem dX8_isSo_3 : decode cX8_isSo 3 = .ok (.istore 4, 2) := by decide +kernel
theorem dX8_isSo_5 : decode cX8_isSo 5 = .ok (.iload 4, 2) := by decide +kernel
theorem dX8_isSo_7 : decode cX8_isSo 7 = .ok (.aload_n 0, 1) := by decide +kernel
theorem dX8_isSo_8 : decode cX8_isSo 8 = .ok (.getfield 25, 3) := by decide +kernel
theorem dX8_isSo_11 : decode cX8_isSo 11 = .ok (.iload_n 1, 1) := by decide +kernel
theorem dX8_isSo_12 : decode cX8_isSo 12 = .ok (.iaload, 1) := by decide +kernel
theorem dX8_isSo_13 : decode cX8_isSo 13 = .ok (.if_icmp .ge 43, 3) := by decide +kernel
theorem dX8_isSo_16 : decode cX8_isSo 16 = .ok (.iload_n 3, 1) := by decide +kernel
theorem dX8_isSo_17 : decode cX8_isSo 17 = .ok (.ifCond .eq 39, 3) := by decide +kernel
theorem dX8_isSo_20 : decode cX8_isSo 20 = .ok (.aload_n 0, 1) := by decide +kernel
theorem dX8_isSo_21 : decode cX8_isSo 21 = .ok (.getfield 28, 3) := by decide +kernel
theorem dX8_isSo_24 : decode cX8_isSo 24 = .ok (.bipush 24, 2) := by decide +kernel
theorem dX8_isSo_26 : decode cX8_isSo 26 = .ok (.iload_n 1, 1) := by decide +kernel
theorem dX8_isSo_27 : decode cX8_isSo 27 = .ok (.imul, 1) := by decide +kernel
theorem dX8_isSo_28 : decode cX8_isSo 28 = .ok (.iload 4, 2) := by decide +kernel
theorem dX8_isSo_30 : decode cX8_isSo 30 = .ok (.iadd, 1) := by decide +kernel
theorem dX8_isSo_31 : decode cX8_isSo 31 = .ok (.iaload, 1) := by decide +kernel
theorem dX8_isSo_32 : decode cX8_isSo 32 = .ok (.aload_n 0, 1) := by decide +kernel
theorem dX8_isSo_33 : decode cX8_isSo 33 = .ok (.iload_n 2, 1) := by decide +kernel
theorem dX8_isSo_34 : decode cX8_isSo 34 = .ok (.iconst 5, 1) := by decide +kernel
theorem dX8_isSo_35 : decode cX8_isSo 35 = .ok (.iload 4, 2) := by decide +kernel
theorem dX8_isSo_37 : decode cX8_isSo 37 = .ok (.iadd, 1) := by decide +kernel
theorem dX8_isSo_38 : decode cX8_isSo 38 = .ok (.invokevirtual 55, 3) := by decide +kernel
theorem dX8_isSo_41 : decode cX8_isSo 41 = .ok (.if_icmp .ne 7, 3) := by decide +kernel
theorem dX8_isSo_44 : decode cX8_isSo 44 = .ok (.iconst 1, 1) := by decide +kernel
theorem dX8_isSo_45 : decode cX8_isSo 45 = .ok (.goto 4, 3) := by decide +kernel
theorem dX8_isSo_48 : decode cX8_isSo 48 = .ok (.iconst 0, 1) := by decide +kernel
theorem dX8_isSo_49 : decode cX8_isSo 49 = .ok (.istore_n 3, 1) := by decide +kernel
theorem dX8_isSo_50 : decode cX8_isSo 50 = .ok (.iinc 4 1, 3) := by decide +kernel
theorem dX8_isSo_53 : decode cX8_isSo 53 = .ok (.goto (-48), 3) := by decide +kernel
theorem dX8_isSo_56 : decode cX8_isSo 56 = .ok (.iload_n 3, 1) := by decide +kernel
theorem dX8_isSo_57 : decode cX8_isSo 57 = .ok (.ireturn, 1) := by decide +kernel
theorem dX8_fits_0 : decode cX8_fits 0 = .ok (.iload_n 1, 1) := by decide +kernel
theorem dX8_fits_1 : decode cX8_fits 1 = .ok (.invokestatic 227, 3) := by decide +kernel
theorem dX8_fits_4 : decode cX8_fits 4 = .ok (.ifCond .eq 11, 3) := by decide +kernel
theorem dX8_fits_7 : decode cX8_fits 7 = .ok (.aload_n 0, 1) := by decide +kernel
theorem dX8_fits_8 : decode cX8_fits 8 = .ok (.iload_n 2, 1) := by decide +kernel
theorem dX8_fits_9 : decode cX8_fits 9 = .ok (.invokevirtual 106, 3) := by decide +kernel
theorem dX8_fits_12 : decode cX8_fits 12 = .ok (.ifCond .ne 10, 3) := by decide +kernel
theorem dX8_fits_15 : decode cX8_fits 15 = .ok (.aload_n 0, 1) := by decide +kernel
theorem dX8_fits_16 : decode cX8_fits 16 = .ok (.ldc 100, 2) := by decide +kernel
theorem dX8_fits_18 : decode cX8_fits 18 = .ok (.invokevirtual 101, 3) := by decide +kernel
theorem dX8_fits_21 : decode cX8_fits 21 = .ok (.ireturn, 1) := by decide +kernel
theorem dX8_fits_22 : decode cX8_fits 22 = .ok (.aload_n 0, 1) := by decide +kernel
theorem dX8_fits_23 : decode cX8_fits 23 = .ok (.getfield 22, 3) := by decide +kernel
theorem dX8_fits_26 : decode cX8_fits 26 = .ok (.iload_n 1, 1) := by decide +kernel
theorem dX8_fits_27 : decode cX8_fits 27 = .ok (.iaload, 1) := by decide +kernel
theorem dX8_fits_28 : decode cX8_fits 28 = .ok (.ifCond .eq 18, 3) := by decide +kernel
theorem dX8_fits_31 : decode cX8_fits 31 = .ok (.aload_n 0, 1) := by decide +kernel
theorem dX8_fits_32 : decode cX8_fits 32 = .ok (.getfield 25, 3) := by decide +kernel
theorem dX8_fits_35 : decode cX8_fits 35 = .ok (.iload_n 1, 1) := by decide +kernel
theorem dX8_fits_36 : decode cX8_fits 36 = .ok (.iaload, 1) := by decide +kernel
theorem dX8_fits_37 : decode cX8_fits 37 = .ok (.aload_n 0, 1) := by decide +kernel
theorem dX8_fits_38 : decode cX8_fits 38 = .ok (.iload_n 2, 1) := by decide +kernel
theorem dX8_fits_39 : decode cX8_fits 39 = .ok (.iconst 3, 1) := by decide +kernel
theorem dX8_fits_40 : decode cX8_fits 40 = .ok (.invokevirtual 55, 3) := by decide +kernel
theorem dX8_fits_43 : decode cX8_fits 43 = .ok (.if_icmp .eq 10, 3) := by decide +kernel
theorem dX8_fits_46 : decode cX8_fits 46 = .ok (.aload_n 0, 1) := by decide +kernel
theorem dX8_fits_47 : decode cX8_fits 47 = .ok (.ldc 218, 2) := by decide +kernel
theorem dX8_fits_49 : decode cX8_fits 49 = .ok (.invokevirtual 101, 3) := by decide +kernel
theorem dX8_fits_52 : decode cX8_fits 52 = .ok (.ireturn, 1) := by decide +kernel
theorem dX8_fits_53 : decode cX8_fits 53 = .ok (.aload_n 0, 1) := by decide +kernel
theorem dX8_fits_54 : decode cX8_fits 54 = .ok (.invokevirtual 212, 3) := by decide +kernel
theorem dX8_fits_57 : decode cX8_fits 57 = .ok (.iconst 0, 1) := by decide +kernel
theorem dX8_fits_58 : decode cX8_fits 58 = .ok (.istore_n 3, 1) := by decide +kernel
theorem dX8_fits_59 : decode cX8_fits 59 = .ok (.iload_n 3, 1) := by decide +kernel
theorem dX8_fits_60 : decode cX8_fits 60 = .ok (.bipush 60, 2) := by decide +kernel
theorem dX8_fits_62 : decode cX8_fits 62 = .ok (.if_icmp .gt 22, 3) := by decide +kernel
theorem dX8_fits_65 : decode cX8_fits 65 = .ok (.aload_n 0, 1) := by decide +kernel
theorem dX8_fits_66 : decode cX8_fits 66 = .ok (.iload_n 1, 1) := by decide +kernel
theorem dX8_fits_67 : decode cX8_fits 67 = .ok (.iload_n 2, 1) := by decide +kernel
theorem dX8_fits_68 : decode cX8_fits 68 = .ok (.invokevirtual 230, 3) := by decide +kernel
theorem dX8_fits_71 : decode cX8_fits 71 = .ok (.ifCond .ne 13, 3) := by decide +kernel
theorem dX8_fits_74 : decode cX8_fits 74 = .ok (.aload_n 0, 1) := by decide +kernel
theorem dX8_fits_75 : decode cX8_fits 75 = .ok (.invokevirtual 195, 3) := by decide +kernel
theorem dX8_fits_78 : decode cX8_fits 78 = .ok (.iinc 3 1, 3) := by decide +kernel
theorem dX8_fits_81 : decode cX8_fits 81 = .ok (.goto (-22), 3) := by decide +kernel
theorem dX8_fits_84 : decode cX8_fits 84 = .ok (.aload_n 0, 1) := by decide +kernel
theorem dX8_fits_85 : decode cX8_fits 85 = .ok (.invokevirtual 215, 3) := by decide +kernel
theorem dX8_fits_88 : decode cX8_fits 88 = .ok (.iload_n 3, 1) := by decide +kernel
theorem dX8_fits_89 : decode cX8_fits 89 = .ok (.bipush 60, 2) := by decide +kernel
theorem dX8_fits_91 : decode cX8_fits 91 = .ok (.if_icmp .le 12, 3) := by decide +kernel
theorem dX8_fits_94 : decode cX8_fits 94 = .ok (.aload_n 0, 1) := by decide +kernel
theorem dX8_fits_95 : decode cX8_fits 95 = .ok (.ldc 218, 2) := by decide +kernel
theorem dX8_fits_97 : decode cX8_fits 97 = .ok (.invokevirtual 101, 3) := by decide +kernel
theorem dX8_fits_100 : decode cX8_fits 100 = .ok (.goto 4, 3) := by decide +kernel
theorem dX8_fits_103 : decode cX8_fits 103 = .ok (.iload_n 3, 1) := by decide +kernel
theorem dX8_fits_104 : decode cX8_fits 104 = .ok (.ireturn, 1) := by decide +kernel
theorem dX8_begins_0 : decode cX8_begins 0 = .ok (.aload_n 0, 1) := by decide +kernel
theorem dX8_begins_1 : decode cX8_begins 1 = .ok (.getfield 233, 3) := by decide +kernel
theorem dX8_begins_4 : decode cX8_begins 4 = .ok (.bipush 30, 2) := by decide +kernel
theorem dX8_begins_6 : decode cX8_begins 6 = .ok (.if_icmp .ge 23, 3) := by decide +kernel
theorem dX8_begins_9 : decode cX8_begins 9 = .ok (.aload_n 0, 1) := by decide +kernel
theorem dX8_begins_10 : decode cX8_begins 10 = .ok (.getfield 43, 3) := by decide +kernel
theorem dX8_begins_13 : decode cX8_begins 13 = .ok (.aload_n 0, 1) := by decide +kernel
theorem dX8_begins_14 : decode cX8_begins 14 = .ok (.getfield 233, 3) := by decide +kernel
theorem dX8_begins_17 : decode cX8_begins 17 = .ok (.iload_n 1, 1) := by decide +kernel
theorem dX8_begins_18 : decode cX8_begins 18 = .ok (.iastore, 1) := by decide +kernel
theorem dX8_begins_19 : decode cX8_begins 19 = .ok (.aload_n 0, 1) := by decide +kernel
theorem dX8_begins_20 : decode cX8_begins 20 = .ok (.dup, 1) := by decide +kernel
theorem dX8_begins_21 : decode cX8_begins 21 = .ok (.getfield 233, 3) := by decide +kernel
theorem dX8_begins_24 : decode cX8_begins 24 = .ok (.iconst 1, 1) := by decide +kernel
theorem dX8_begins_25 : decode cX8_begins 25 = .ok (.iadd, 1) := by decide +kernel
theorem dX8_begins_26 : decode cX8_begins 26 = .ok (.putfield 233, 3) := by decide +kernel
theorem dX8_begins_29 : decode cX8_begins 29 = .ok (.return_, 1) := by decide +kernel
theorem dX8_plainSings_0 : decode cX8_plainSings 0 = .ok (.aload_n 0, 1) := by decide +kernel
theorem dX8_plainSings_1 : decode cX8_plainSings 1 = .ok (.bipush 10, 2) := by decide +kernel
theorem dX8_plainSings_3 : decode cX8_plainSings 3 = .ok (.invokevirtual 236, 3) := by decide +kernel
theorem dX8_plainSings_6 : decode cX8_plainSings 6 = .ok (.iload_n 2, 1) := by decide +kernel
theorem dX8_plainSings_7 : decode cX8_plainSings 7 = .ok (.iload_n 1, 1) := by decide +kernel
theorem dX8_plainSings_8 : decode cX8_plainSings 8 = .ok (.iadd, 1) := by decide +kernel
theorem dX8_plainSings_9 : decode cX8_plainSings 9 = .ok (.ireturn, 1) := by decide +kernel
theorem dX8_northernSings_0 : decode cX8_northernSings 0 = .ok (.aload_n 0, 1) := by decide +kernel
theorem dX8_northernSings_1 : decode cX8_northernSings 1 = .ok (.bipush 20, 2) := by decide +kernel
theorem dX8_northernSings_3 : decode cX8_northernSings 3 = .ok (.invokevirtual 236, 3) := by decide +kernel
theorem dX8_northernSings_6 : decode cX8_northernSings 6 = .ok (.aload_n 0, 1) := by decide +kernel
theorem dX8_northernSings_7 : decode cX8_northernSings 7 = .ok (.iload_n 1, 1) := by decide +kernel
theorem dX8_northernSings_8 : decode cX8_northernSings 8 = .ok (.iload_n 2, 1) := by decide +kernel
theorem dX8_northernSings_9 : decode cX8_northernSings 9 = .ok (.invokevirtual 239, 3) := by decide +kernel
theorem dX8_northernSings_12 : decode cX8_northernSings 12 = .ok (.iconst 4, 1) := by decide +kernel
theorem dX8_northernSings_13 : decode cX8_northernSings 13 = .ok (.isub, 1) := by decide +kernel
theorem dX8_northernSings_14 : decode cX8_northernSings 14 = .ok (.ireturn, 1) := by decide +kernel
theorem dX8_sings_0 : decode cX8_sings 0 = .ok (.aload_n 0, 1) := by decide +kernel
theorem dX8_sings_1 : decode cX8_sings 1 = .ok (.iload_n 1, 1) := by decide +kernel
theorem dX8_sings_2 : decode cX8_sings 2 = .ok (.iconst 0, 1) := by decide +kernel
theorem dX8_sings_3 : decode cX8_sings 3 = .ok (.invokevirtual 55, 3) := by decide +kernel
theorem dX8_sings_6 : decode cX8_sings 6 = .ok (.lookupswitch 65 #[(1, 34), (4, 41), (6, 56)], 34) := by decide +kernel
theorem dX8_sings_40 : decode cX8_sings 40 = .ok (.aload_n 0, 1) := by decide +kernel
theorem dX8_sings_41 : decode cX8_sings 41 = .ok (.iload_n 1, 1) := by decide +kernel
theorem dX8_sings_42 : decode cX8_sings 42 = .ok (.iload_n 2, 1) := by decide +kernel
theorem dX8_sings_43 : decode cX8_sings 43 = .ok (.invokevirtual 242, 3) := by decide +kernel
theorem dX8_sings_46 : decode cX8_sings 46 = .ok (.ireturn, 1) := by decide +kernel
theorem dX8_sings_47 : decode cX8_sings 47 = .ok (.aload_n 0, 1) := by decide +kernel
theorem dX8_sings_48 : decode cX8_sings 48 = .ok (.bipush 50, 2) := by decide +kernel
theorem dX8_sings_50 : decode cX8_sings 50 = .ok (.invokevirtual 236, 3) := by decide +kernel
theorem dX8_sings_53 : decode cX8_sings 53 = .ok (.aload_n 0, 1) := by decide +kernel
theorem dX8_sings_54 : decode cX8_sings 54 = .ok (.iload_n 1, 1) := by decide +kernel
theorem dX8_sings_55 : decode cX8_sings 55 = .ok (.iload_n 2, 1) := by decide +kernel
theorem dX8_sings_56 : decode cX8_sings 56 = .ok (.invokevirtual 242, 3) := by decide +kernel
theorem dX8_sings_59 : decode cX8_sings 59 = .ok (.iconst 3, 1) := by decide +kernel
theorem dX8_sings_60 : decode cX8_sings 60 = .ok (.imul, 1) := by decide +kernel
theorem dX8_sings_61 : decode cX8_sings 61 = .ok (.ireturn, 1) := by decide +kernel
theorem dX8_sings_62 : decode cX8_sings 62 = .ok (.aload_n 0, 1) := by decide +kernel
theorem dX8_sings_63 : decode cX8_sings 63 = .ok (.bipush 70, 2) := by decide +kernel
theorem dX8_sings_65 : decode cX8_sings 65 = .ok (.invokevirtual 236, 3) := by decide +kernel
theorem dX8_sings_68 : decode cX8_sings 68 = .ok (.bipush 9, 2) := by decide +kernel
theorem dX8_sings_70 : decode cX8_sings 70 = .ok (.ireturn, 1) := by decide +kernel
theorem dX8_sings_71 : decode cX8_sings 71 = .ok (.aload_n 0, 1) := by decide +kernel
theorem dX8_sings_72 : decode cX8_sings 72 = .ok (.iload_n 1, 1) := by decide +kernel
theorem dX8_sings_73 : decode cX8_sings 73 = .ok (.iload_n 2, 1) := by decide +kernel
theorem dX8_sings_74 : decode cX8_sings 74 = .ok (.invokevirtual 239, 3) := by decide +kernel
theorem dX8_sings_77 : decode cX8_sings 77 = .ok (.ireturn, 1) := by decide +kernel
theorem dX8_plainLeans_0 : decode cX8_plainLeans 0 = .ok (.aload_n 0, 1) := by decide +kernel
theorem dX8_plainLeans_1 : decode cX8_plainLeans 1 = .ok (.bipush 11, 2) := by decide +kernel
theorem dX8_plainLeans_3 : decode cX8_plainLeans 3 = .ok (.invokevirtual 236, 3) := by decide +kernel
theorem dX8_plainLeans_6 : decode cX8_plainLeans 6 = .ok (.aload_n 0, 1) := by decide +kernel
theorem dX8_plainLeans_7 : decode cX8_plainLeans 7 = .ok (.iload_n 1, 1) := by decide +kernel
theorem dX8_plainLeans_8 : decode cX8_plainLeans 8 = .ok (.iload_n 2, 1) := by decide +kernel
theorem dX8_plainLeans_9 : decode cX8_plainLeans 9 = .ok (.invokevirtual 245, 3) := by decide +kernel
theorem dX8_plainLeans_12 : decode cX8_plainLeans 12 = .ok (.iconst 2, 1) := by decide +kernel
theorem dX8_plainLeans_13 : decode cX8_plainLeans 13 = .ok (.imul, 1) := by decide +kernel
theorem dX8_plainLeans_14 : decode cX8_plainLeans 14 = .ok (.ireturn, 1) := by decide +kernel
theorem dX8_laggingLeans_0 : decode cX8_laggingLeans 0 = .ok (.aload_n 0, 1) := by decide +kernel
theorem dX8_laggingLeans_1 : decode cX8_laggingLeans 1 = .ok (.bipush 30, 2) := by decide +kernel
theorem dX8_laggingLeans_3 : decode cX8_laggingLeans 3 = .ok (.invokevirtual 236, 3) := by decide +kernel
theorem dX8_laggingLeans_6 : decode cX8_laggingLeans 6 = .ok (.aload_n 0, 1) := by decide +kernel
theorem dX8_laggingLeans_7 : decode cX8_laggingLeans 7 = .ok (.iload_n 1, 1) := by decide +kernel
theorem dX8_laggingLeans_8 : decode cX8_laggingLeans 8 = .ok (.iload_n 2, 1) := by decide +kernel
theorem dX8_laggingLeans_9 : decode cX8_laggingLeans 9 = .ok (.invokevirtual 248, 3) := by decide +kernel
theorem dX8_laggingLeans_12 : decode cX8_laggingLeans 12 = .ok (.ineg, 1) := by decide +kernel
theorem dX8_laggingLeans_13 : decode cX8_laggingLeans 13 = .ok (.ireturn, 1) := by decide +kernel
theorem dX8_leans_0 : decode cX8_leans 0 = .ok (.aload_n 0, 1) := by decide +kernel
theorem dX8_leans_1 : decode cX8_leans 1 = .ok (.iload_n 1, 1) := by decide +kernel
theorem dX8_leans_2 : decode cX8_leans 2 = .ok (.iconst 0, 1) := by decide +kernel
theorem dX8_leans_3 : decode cX8_leans 3 = .ok (.invokevirtual 55, 3) := by decide +kernel
theorem dX8_leans_6 : decode cX8_leans 6 = .ok (.tableswitch 76 2 6 #[34, 76, 76, 41, 56], 34) := by decide +kernel
theorem dX8_leans_40 : decode cX8_leans 40 = .ok (.aload_n 0, 1) := by decide +kernel
theorem dX8_leans_41 : decode cX8_leans 41 = .ok (.iload_n 1, 1) := by decide +kernel
theorem dX8_leans_42 : decode cX8_leans 42 = .ok (.iload_n 2, 1) := by decide +kernel
theorem dX8_leans_43 : decode cX8_leans 43 = .ok (.invokevirtual 251, 3) := by decide +kernel
theorem dX8_leans_46 : decode cX8_leans 46 = .ok (.ireturn, 1) := by decide +kernel
theorem dX8_leans_47 : decode cX8_leans 47 = .ok (.aload_n 0, 1) := by decide +kernel
theorem dX8_leans_48 : decode cX8_leans 48 = .ok (.bipush 60, 2) := by decide +kernel
theorem dX8_leans_50 : decode cX8_leans 50 = .ok (.invokevirtual 236, 3) := by decide +kernel
theorem dX8_leans_53 : decode cX8_leans 53 = .ok (.aload_n 0, 1) := by decide +kernel
theorem dX8_leans_54 : decode cX8_leans 54 = .ok (.iload_n 1, 1) := by decide +kernel
theorem dX8_leans_55 : decode cX8_leans 55 = .ok (.iload_n 2, 1) := by decide +kernel
theorem dX8_leans_56 : decode cX8_leans 56 = .ok (.iconst 1, 1) := by decide +kernel
theorem dX8_leans_57 : decode cX8_leans 57 = .ok (.iadd, 1) := by decide +kernel
theorem dX8_leans_58 : decode cX8_leans 58 = .ok (.invokevirtual 251, 3) := by decide +kernel
theorem dX8_leans_61 : decode cX8_leans 61 = .ok (.ireturn, 1) := by decide +kernel
theorem dX8_leans_62 : decode cX8_leans 62 = .ok (.aload_n 0, 1) := by decide +kernel
theorem dX8_leans_63 : decode cX8_leans 63 = .ok (.bipush 71, 2) := by decide +kernel
theorem dX8_leans_65 : decode cX8_leans 65 = .ok (.invokevirtual 236, 3) := by decide +kernel
theorem dX8_leans_68 : decode cX8_leans 68 = .ok (.aload_n 0, 1) := by decide +kernel
theorem dX8_leans_69 : decode cX8_leans 69 = .ok (.iload_n 1, 1) := by decide +kernel
theorem dX8_leans_70 : decode cX8_leans 70 = .ok (.iload_n 2, 1) := by decide +kernel
theorem dX8_leans_71 : decode cX8_leans 71 = .ok (.invokevirtual 248, 3) := by decide +kernel
theorem dX8_leans_74 : decode cX8_leans 74 = .ok (.aload_n 0, 1) := by decide +kernel
theorem dX8_leans_75 : decode cX8_leans 75 = .ok (.iload_n 1, 1) := by decide +kernel
theorem dX8_leans_76 : decode cX8_leans 76 = .ok (.iconst 1, 1) := by decide +kernel
theorem dX8_leans_77 : decode cX8_leans 77 = .ok (.invokevirtual 55, 3) := by decide +kernel
theorem dX8_leans_80 : decode cX8_leans 80 = .ok (.iadd, 1) := by decide +kernel
theorem dX8_leans_81 : decode cX8_leans 81 = .ok (.ireturn, 1) := by decide +kernel
theorem dX8_leans_82 : decode cX8_leans 82 = .ok (.aload_n 0, 1) := by decide +kernel
theorem dX8_leans_83 : decode cX8_leans 83 = .ok (.iload_n 1, 1) := by decide +kernel
theorem dX8_leans_84 : decode cX8_leans 84 = .ok (.iload_n 2, 1) := by decide +kernel
theorem dX8_leans_85 : decode cX8_leans 85 = .ok (.invokevirtual 248, 3) := by decide +kernel
theorem dX8_leans_88 : decode cX8_leans 88 = .ok (.ireturn, 1) := by decide +kernel
theorem dX8_plainSprouts_0 : decode cX8_plainSprouts 0 = .ok (.aload_n 0, 1) := by decide +kernel
theorem dX8_plainSprouts_1 : decode cX8_plainSprouts 1 = .ok (.bipush 12, 2) := by decide +kernel
theorem dX8_plainSprouts_3 : decode cX8_plainSprouts 3 = .ok (.invokevirtual 236, 3) := by decide +kernel
theorem dX8_plainSprouts_6 : decode cX8_plainSprouts 6 = .ok (.aload_n 0, 1) := by decide +kernel
theorem dX8_plainSprouts_7 : decode cX8_plainSprouts 7 = .ok (.iload_n 1, 1) := by decide +kernel
theorem dX8_plainSprouts_8 : decode cX8_plainSprouts 8 = .ok (.iload_n 2, 1) := by decide +kernel
theorem dX8_plainSprouts_9 : decode cX8_plainSprouts 9 = .ok (.invokevirtual 254, 3) := by decide +kernel
theorem dX8_plainSprouts_12 : decode cX8_plainSprouts 12 = .ok (.aload_n 0, 1) := by decide +kernel
theorem dX8_plainSprouts_13 : decode cX8_plainSprouts 13 = .ok (.iload_n 1, 1) := by decide +kernel
theorem dX8_plainSprouts_14 : decode cX8_plainSprouts 14 = .ok (.iconst 1, 1) := by decide +kernel
theorem dX8_plainSprouts_15 : decode cX8_plainSprouts 15 = .ok (.invokevirtual 55, 3) := by decide +kernel
theorem dX8_plainSprouts_18 : decode cX8_plainSprouts 18 = .ok (.isub, 1) := by decide +kernel
theorem dX8_plainSprouts_19 : decode cX8_plainSprouts 19 = .ok (.ireturn, 1) := by decide +kernel
theorem dX8_sprouts_0 : decode cX8_sprouts 0 = .ok (.aload_n 0, 1) := by decide +kernel
theorem dX8_sprouts_1 : decode cX8_sprouts 1 = .ok (.iload_n 1, 1) := by decide +kernel
theorem dX8_sprouts_2 : decode cX8_sprouts 2 = .ok (.iconst 0, 1) := by decide +kernel
theorem dX8_sprouts_3 : decode cX8_sprouts 3 = .ok (.invokevirtual 55, 3) := by decide +kernel
theorem dX8_sprouts_6 : decode cX8_sprouts 6 = .ok (.lookupswitch 56 #[(3, 26), (4, 41)], 26) := by decide +kernel
theorem dX8_sprouts_32 : decode cX8_sprouts 32 = .ok (.aload_n 0, 1) := by decide +kernel
theorem dX8_sprouts_33 : decode cX8_sprouts 33 = .ok (.bipush 40, 2) := by decide +kernel
theorem dX8_sprouts_35 : decode cX8_sprouts 35 = .ok (.invokevirtual 236, 3) := by decide +kernel
theorem dX8_sprouts_38 : decode cX8_sprouts 38 = .ok (.aload_n 0, 1) := by decide +kernel
theorem dX8_sprouts_39 : decode cX8_sprouts 39 = .ok (.iload_n 1, 1) := by decide +kernel
theorem dX8_sprouts_40 : decode cX8_sprouts 40 = .ok (.iload_n 2, 1) := by decide +kernel
theorem dX8_sprouts_41 : decode cX8_sprouts 41 = .ok (.iconst 2, 1) := by decide +kernel
theorem dX8_sprouts_42 : decode cX8_sprouts 42 = .ok (.idiv, 1) := by decide +kernel
theorem dX8_sprouts_43 : decode cX8_sprouts 43 = .ok (.invokevirtual 257, 3) := by decide +kernel
theorem dX8_sprouts_46 : decode cX8_sprouts 46 = .ok (.ireturn, 1) := by decide +kernel
theorem dX8_sprouts_47 : decode cX8_sprouts 47 = .ok (.aload_n 0, 1) := by decide +kernel
theorem dX8_sprouts_48 : decode cX8_sprouts 48 = .ok (.bipush 51, 2) := by decide +kernel
theorem dX8_sprouts_50 : decode cX8_sprouts 50 = .ok (.invokevirtual 236, 3) := by decide +kernel
theorem dX8_sprouts_53 : decode cX8_sprouts 53 = .ok (.aload_n 0, 1) := by decide +kernel
theorem dX8_sprouts_54 : decode cX8_sprouts 54 = .ok (.iload_n 1, 1) := by decide +kernel
theorem dX8_sprouts_55 : decode cX8_sprouts 55 = .ok (.iload_n 2, 1) := by decide +kernel
theorem dX8_sprouts_56 : decode cX8_sprouts 56 = .ok (.invokevirtual 257, 3) := by decide +kernel
theorem dX8_sprouts_59 : decode cX8_sprouts 59 = .ok (.iload_n 1, 1) := by decide +kernel
theorem dX8_sprouts_60 : decode cX8_sprouts 60 = .ok (.ixor, 1) := by decide +kernel
theorem dX8_sprouts_61 : decode cX8_sprouts 61 = .ok (.ireturn, 1) := by decide +kernel
theorem dX8_sprouts_62 : decode cX8_sprouts 62 = .ok (.aload_n 0, 1) := by decide +kernel
theorem dX8_sprouts_63 : decode cX8_sprouts 63 = .ok (.iload_n 1, 1) := by decide +kernel
theorem dX8_sprouts_64 : decode cX8_sprouts 64 = .ok (.iload_n 2, 1) := by decide +kernel
theorem dX8_sprouts_65 : decode cX8_sprouts 65 = .ok (.invokevirtual 257, 3) := by decide +kernel
theorem dX8_sprouts_68 : decode cX8_sprouts 68 = .ok (.ireturn, 1) := by decide +kernel
theorem dX8_plainParts_0 : decode cX8_plainParts 0 = .ok (.aload_n 0, 1) := by decide +kernel
theorem dX8_plainParts_1 : decode cX8_plainParts 1 = .ok (.bipush 13, 2) := by decide +kernel
theorem dX8_plainParts_3 : decode cX8_plainParts 3 = .ok (.invokevirtual 236, 3) := by decide +kernel
theorem dX8_plainParts_6 : decode cX8_plainParts 6 = .ok (.aload_n 0, 1) := by decide +kernel
theorem dX8_plainParts_7 : decode cX8_plainParts 7 = .ok (.iload_n 1, 1) := by decide +kernel
theorem dX8_plainParts_8 : decode cX8_plainParts 8 = .ok (.iconst 1, 1) := by decide +kernel
theorem dX8_plainParts_9 : decode cX8_plainParts 9 = .ok (.invokevirtual 55, 3) := by decide +kernel
theorem dX8_plainParts_12 : decode cX8_plainParts 12 = .ok (.iload_n 1, 1) := by decide +kernel
theorem dX8_plainParts_13 : decode cX8_plainParts 13 = .ok (.isub, 1) := by decide +kernel
theorem dX8_plainParts_14 : decode cX8_plainParts 14 = .ok (.istore_n 3, 1) := by decide +kernel
theorem dX8_plainParts_15 : decode cX8_plainParts 15 = .ok (.aload_n 0, 1) := by decide +kernel
theorem dX8_plainParts_16 : decode cX8_plainParts 16 = .ok (.iload_n 3, 1) := by decide +kernel
theorem dX8_plainParts_17 : decode cX8_plainParts 17 = .ok (.ifCond .ne 7, 3) := by decide +kernel
theorem dX8_plainParts_20 : decode cX8_plainParts 20 = .ok (.iconst 1, 1) := by decide +kernel
theorem dX8_plainParts_21 : decode cX8_plainParts 21 = .ok (.goto 4, 3) := by decide +kernel
theorem dX8_plainParts_24 : decode cX8_plainParts 24 = .ok (.iconst 0, 1) := by decide +kernel
theorem dX8_plainParts_25 : decode cX8_plainParts 25 = .ok (.putfield 260, 3) := by decide +kernel
theorem dX8_plainParts_28 : decode cX8_plainParts 28 = .ok (.aload_n 0, 1) := by decide +kernel
theorem dX8_plainParts_29 : decode cX8_plainParts 29 = .ok (.getfield 260, 3) := by decide +kernel
theorem dX8_plainParts_32 : decode cX8_plainParts 32 = .ok (.ifCond .eq 7, 3) := by decide +kernel
theorem dX8_plainParts_35 : decode cX8_plainParts 35 = .ok (.iconst 0, 1) := by decide +kernel
theorem dX8_plainParts_36 : decode cX8_plainParts 36 = .ok (.goto 6, 3) := by decide +kernel
theorem dX8_plainParts_39 : decode cX8_plainParts 39 = .ok (.iload_n 2, 1) := by decide +kernel
theorem dX8_plainParts_40 : decode cX8_plainParts 40 = .ok (.iload_n 3, 1) := by decide +kernel
theorem dX8_plainParts_41 : decode cX8_plainParts 41 = .ok (.idiv, 1) := by decide +kernel
theorem dX8_plainParts_42 : decode cX8_plainParts 42 = .ok (.ireturn, 1) := by decide +kernel
theorem dX8_parts_0 : decode cX8_parts 0 = .ok (.aload_n 0, 1) := by decide +kernel
theorem dX8_parts_1 : decode cX8_parts 1 = .ok (.iload_n 1, 1) := by decide +kernel
theorem dX8_parts_2 : decode cX8_parts 2 = .ok (.iconst 0, 1) := by decide +kernel
theorem dX8_parts_3 : decode cX8_parts 3 = .ok (.invokevirtual 55, 3) := by decide +kernel
theorem dX8_parts_6 : decode cX8_parts 6 = .ok (.iconst 1, 1) := by decide +kernel
theorem dX8_parts_7 : decode cX8_parts 7 = .ok (.if_icmp .eq 13, 3) := by decide +kernel
theorem dX8_parts_10 : decode cX8_parts 10 = .ok (.aload_n 0, 1) := by decide +kernel
theorem dX8_parts_11 : decode cX8_parts 11 = .ok (.iload_n 1, 1) := by decide +kernel
theorem dX8_parts_12 : decode cX8_parts 12 = .ok (.iconst 0, 1) := by decide +kernel
theorem dX8_parts_13 : decode cX8_parts 13 = .ok (.invokevirtual 55, 3) := by decide +kernel
theorem dX8_parts_16 : decode cX8_parts 16 = .ok (.iconst 4, 1) := by decide +kernel
theorem dX8_parts_17 : decode cX8_parts 17 = .ok (.if_icmp .ne 36, 3) := by decide +kernel
theorem dX8_parts_20 : decode cX8_parts 20 = .ok (.aload_n 0, 1) := by decide +kernel
theorem dX8_parts_21 : decode cX8_parts 21 = .ok (.bipush 21, 2) := by decide +kernel
theorem dX8_parts_23 : decode cX8_parts 23 = .ok (.invokevirtual 236, 3) := by decide +kernel
theorem dX8_parts_26 : decode cX8_parts 26 = .ok (.aload_n 0, 1) := by decide +kernel
theorem dX8_parts_27 : decode cX8_parts 27 = .ok (.iload_n 1, 1) := by decide +kernel
theorem dX8_parts_28 : decode cX8_parts 28 = .ok (.iload_n 2, 1) := by decide +kernel
theorem dX8_parts_29 : decode cX8_parts 29 = .ok (.invokevirtual 263, 3) := by decide +kernel
theorem dX8_parts_32 : decode cX8_parts 32 = .ok (.istore_n 3, 1) := by decide +kernel
theorem dX8_parts_33 : decode cX8_parts 33 = .ok (.aload_n 0, 1) := by decide +kernel
theorem dX8_parts_34 : decode cX8_parts 34 = .ok (.getfield 260, 3) := by decide +kernel
theorem dX8_parts_37 : decode cX8_parts 37 = .ok (.ifCond .eq 7, 3) := by decide +kernel
theorem dX8_parts_40 : decode cX8_parts 40 = .ok (.iconst 0, 1) := by decide +kernel
theorem dX8_parts_41 : decode cX8_parts 41 = .ok (.goto 11, 3) := by decide +kernel
theorem dX8_parts_44 : decode cX8_parts 44 = .ok (.iload_n 3, 1) := by decide +kernel
theorem dX8_parts_45 : decode cX8_parts 45 = .ok (.aload_n 0, 1) := by decide +kernel
theorem dX8_parts_46 : decode cX8_parts 46 = .ok (.iload_n 1, 1) := by decide +kernel
theorem dX8_parts_47 : decode cX8_parts 47 = .ok (.iconst 1, 1) := by decide +kernel
theorem dX8_parts_48 : decode cX8_parts 48 = .ok (.invokevirtual 254, 3) := by decide +kernel
theorem dX8_parts_51 : decode cX8_parts 51 = .ok (.iadd, 1) := by decide +kernel
theorem dX8_parts_52 : decode cX8_parts 52 = .ok (.ireturn, 1) := by decide +kernel
theorem dX8_parts_53 : decode cX8_parts 53 = .ok (.aload_n 0, 1) := by decide +kernel
theorem dX8_parts_54 : decode cX8_parts 54 = .ok (.iload_n 1, 1) := by decide +kernel
theorem dX8_parts_55 : decode cX8_parts 55 = .ok (.iload_n 2, 1) := by decide +kernel
theorem dX8_parts_56 : decode cX8_parts 56 = .ok (.invokevirtual 263, 3) := by decide +kernel
theorem dX8_parts_59 : decode cX8_parts 59 = .ok (.ireturn, 1) := by decide +kernel
theorem dX8_voice_0 : decode cX8_voice 0 = .ok (.aload_n 0, 1) := by decide +kernel
theorem dX8_voice_1 : decode cX8_voice 1 = .ok (.iload_n 1, 1) := by decide +kernel
theorem dX8_voice_2 : decode cX8_voice 2 = .ok (.invokevirtual 106, 3) := by decide +kernel
theorem dX8_voice_5 : decode cX8_voice 5 = .ok (.ifCond .eq 12, 3) := by decide +kernel
theorem dX8_voice_8 : decode cX8_voice 8 = .ok (.iload_n 2, 1) := by decide +kernel
theorem dX8_voice_9 : decode cX8_voice 9 = .ok (.iconst 0, 1) := by decide +kernel
theorem dX8_voice_10 : decode cX8_voice 10 = .ok (.iconst 3, 1) := by decide +kernel
theorem dX8_voice_11 : decode cX8_voice 11 = .ok (.invokestatic 51, 3) := by decide +kernel
theorem dX8_voice_14 : decode cX8_voice 14 = .ok (.ifCond .ne 10, 3) := by decide +kernel
theorem dX8_voice_17 : decode cX8_voice 17 = .ok (.aload_n 0, 1) := by decide +kernel
theorem dX8_voice_18 : decode cX8_voice 18 = .ok (.ldc 100, 2) := by decide +kernel
theorem dX8_voice_20 : decode cX8_voice 20 = .ok (.invokevirtual 101, 3) := by decide +kernel
theorem dX8_voice_23 : decode cX8_voice 23 = .ok (.ireturn, 1) := by decide +kernel
theorem dX8_voice_24 : decode cX8_voice 24 = .ok (.aload_n 0, 1) := by decide +kernel
theorem dX8_voice_25 : decode cX8_voice 25 = .ok (.iconst 0, 1) := by decide +kernel
theorem dX8_voice_26 : decode cX8_voice 26 = .ok (.putfield 233, 3) := by decide +kernel
theorem dX8_voice_29 : decode cX8_voice 29 = .ok (.aload_n 0, 1) := by decide +kernel
theorem dX8_voice_30 : decode cX8_voice 30 = .ok (.iconst 0, 1) := by decide +kernel
theorem dX8_voice_31 : decode cX8_voice 31 = .ok (.putfield 260, 3) := by decide +kernel
theorem dX8_voice_34 : decode cX8_voice 34 = .ok (.iload_n 2, 1) := by decide +kernel
theorem dX8_voice_35 : decode cX8_voice 35 = .ok (.ifCond .ne 12, 3) := by decide +kernel
theorem dX8_voice_38 : decode cX8_voice 38 = .ok (.aload_n 0, 1) := by decide +kernel
theorem dX8_voice_39 : decode cX8_voice 39 = .ok (.iload_n 1, 1) := by decide +kernel
theorem dX8_voice_40 : decode cX8_voice 40 = .ok (.iload_n 3, 1) := by decide +kernel
theorem dX8_voice_41 : decode cX8_voice 41 = .ok (.invokevirtual 245, 3) := by decide +kernel
theorem dX8_voice_44 : decode cX8_voice 44 = .ok (.goto 37, 3) := by decide +kernel
theorem dX8_voice_47 : decode cX8_voice 47 = .ok (.iload_n 2, 1) := by decide +kernel
theorem dX8_voice_48 : decode cX8_voice 48 = .ok (.iconst 1, 1) := by decide +kernel
theorem dX8_voice_49 : decode cX8_voice 49 = .ok (.if_icmp .ne 12, 3) := by decide +kernel
theorem dX8_voice_52 : decode cX8_voice 52 = .ok (.aload_n 0, 1) := by decide +kernel
theorem dX8_voice_53 : decode cX8_voice 53 = .ok (.iload_n 1, 1) := by decide +kernel
theorem dX8_voice_54 : decode cX8_voice 54 = .ok (.iload_n 3, 1) := by decide +kernel
theorem dX8_voice_55 : decode cX8_voice 55 = .ok (.invokevirtual 254, 3) := by decide +kernel
theorem dX8_voice_58 : decode cX8_voice 58 = .ok (.goto 23, 3) := by decide +kernel
theorem dX8_voice_61 : decode cX8_voice 61 = .ok (.iload_n 2, 1) := by decide +kernel
theorem dX8_voice_62 : decode cX8_voice 62 = .ok (.iconst 2, 1) := by decide +kernel
theorem dX8_voice_63 : decode cX8_voice 63 = .ok (.if_icmp .ne 12, 3) := by decide +kernel
theorem dX8_voice_66 : decode cX8_voice 66 = .ok (.aload_n 0, 1) := by decide +kernel
theorem dX8_voice_67 : decode cX8_voice 67 = .ok (.iload_n 1, 1) := by decide +kernel
theorem dX8_voice_68 : decode cX8_voice 68 = .ok (.iload_n 3, 1) := by decide +kernel
theorem dX8_voice_69 : decode cX8_voice 69 = .ok (.invokevirtual 266, 3) := by decide +kernel
theorem dX8_voice_72 : decode cX8_voice 72 = .ok (.goto 9, 3) := by decide +kernel
theorem dX8_voice_75 : decode cX8_voice 75 = .ok (.aload_n 0, 1) := by decide +kernel
theorem dX8_voice_76 : decode cX8_voice 76 = .ok (.iload_n 1, 1) := by decide +kernel
theorem dX8_voice_77 : decode cX8_voice 77 = .ok (.iload_n 3, 1) := by decide +kernel
theorem dX8_voice_78 : decode cX8_voice 78 = .ok (.invokevirtual 269, 3) := by decide +kernel
theorem dX8_voice_81 : decode cX8_voice 81 = .ok (.istore 4, 2) := by decide +kernel
theorem dX8_voice_83 : decode cX8_voice 83 = .ok (.aload_n 0, 1) := by decide +kernel
theorem dX8_voice_84 : decode cX8_voice 84 = .ok (.getfield 260, 3) := by decide +kernel
theorem dX8_voice_87 : decode cX8_voice 87 = .ok (.ifCond .eq 13, 3) := by decide +kernel
theorem dX8_voice_90 : decode cX8_voice 90 = .ok (.aload_n 0, 1) := by decide +kernel
theorem dX8_voice_91 : decode cX8_voice 91 = .ok (.ldc_w 272, 3) := by decide +kernel
theorem dX8_voice_94 : decode cX8_voice 94 = .ok (.invokevirtual 101, 3) := by decide +kernel
theorem dX8_voice_97 : decode cX8_voice 97 = .ok (.goto 5, 3) := by decide +kernel
theorem dX8_voice_100 : decode cX8_voice 100 = .ok (.iload 4, 2) := by decide +kernel
theorem dX8_voice_102 : decode cX8_voice 102 = .ok (.ireturn, 1) := by decide +kernel
theorem dX8_body_0 : decode cX8_body 0 = .ok (.iload_n 1, 1) := by decide +kernel
theorem dX8_body_1 : decode cX8_body 1 = .ok (.iconst 0, 1) := by decide +kernel
theorem dX8_body_2 : decode cX8_body 2 = .ok (.aload_n 0, 1) := by decide +kernel
theorem dX8_body_3 : decode cX8_body 3 = .ok (.getfield 233, 3) := by decide +kernel
theorem dX8_body_6 : decode cX8_body 6 = .ok (.iconst 1, 1) := by decide +kernel
theorem dX8_body_7 : decode cX8_body 7 = .ok (.isub, 1) := by decide +kernel
theorem dX8_body_8 : decode cX8_body 8 = .ok (.invokestatic 51, 3) := by decide +kernel
theorem dX8_body_11 : decode cX8_body 11 = .ok (.ifCond .eq 12, 3) := by decide +kernel
theorem dX8_body_14 : decode cX8_body 14 = .ok (.aload_n 0, 1) := by decide +kernel
theorem dX8_body_15 : decode cX8_body 15 = .ok (.getfield 43, 3) := by decide +kernel
theorem dX8_body_18 : decode cX8_body 18 = .ok (.iload_n 1, 1) := by decide +kernel
theorem dX8_body_19 : decode cX8_body 19 = .ok (.iaload, 1) := by decide +kernel
theorem dX8_body_20 : decode cX8_body 20 = .ok (.goto 9, 3) := by decide +kernel
theorem dX8_body_23 : decode cX8_body 23 = .ok (.aload_n 0, 1) := by decide +kernel
theorem dX8_body_24 : decode cX8_body 24 = .ok (.ldc 218, 2) := by decide +kernel
theorem dX8_body_26 : decode cX8_body 26 = .ok (.invokevirtual 101, 3) := by decide +kernel
theorem dX8_body_29 : decode cX8_body 29 = .ok (.ireturn, 1) := by decide +kernel
theorem dX8_isSheet_0 : decode cX8_isSheet 0 = .ok (.iload_n 0, 1) := by decide +kernel
theorem dX8_isSheet_1 : decode cX8_isSheet 1 = .ok (.iconst 0, 1) := by decide +kernel
theorem dX8_isSheet_2 : decode cX8_isSheet 2 = .ok (.iconst 3, 1) := by decide +kernel
theorem dX8_isSheet_3 : decode cX8_isSheet 3 = .ok (.invokestatic 51, 3) := by decide +kernel
theorem dX8_isSheet_6 : decode cX8_isSheet 6 = .ok (.ireturn, 1) := by decide +kernel
theorem dX8_sheet_0 : decode cX8_sheet 0 = .ok (.iload_n 1, 1) := by decide +kernel
theorem dX8_sheet_1 : decode cX8_sheet 1 = .ok (.invokestatic 227, 3) := by decide +kernel
theorem dX8_sheet_4 : decode cX8_sheet 4 = .ok (.ifCond .eq 25, 3) := by decide +kernel
theorem dX8_sheet_7 : decode cX8_sheet 7 = .ok (.iload_n 2, 1) := by decide +kernel
theorem dX8_sheet_8 : decode cX8_sheet 8 = .ok (.ifCond .eq 28, 3) := by decide +kernel
theorem dX8_sheet_11 : decode cX8_sheet 11 = .ok (.iload_n 2, 1) := by decide +kernel
theorem dX8_sheet_12 : decode cX8_sheet 12 = .ok (.bipush 8, 2) := by decide +kernel
theorem dX8_sheet_14 : decode cX8_sheet 14 = .ok (.if_icmp .eq 22, 3) := by decide +kernel
theorem dX8_sheet_17 : decode cX8_sheet 17 = .ok (.iload_n 2, 1) := by decide +kernel
theorem dX8_sheet_18 : decode cX8_sheet 18 = .ok (.bipush 16, 2) := by decide +kernel
theorem dX8_sheet_20 : decode cX8_sheet 20 = .ok (.if_icmp .eq 16, 3) := by decide +kernel
theorem dX8_sheet_23 : decode cX8_sheet 23 = .ok (.iload_n 2, 1) := by decide +kernel
theorem dX8_sheet_24 : decode cX8_sheet 24 = .ok (.bipush 32, 2) := by decide +kernel
theorem dX8_sheet_26 : decode cX8_sheet 26 = .ok (.if_icmp .eq 10, 3) := by decide +kernel
theorem dX8_sheet_29 : decode cX8_sheet 29 = .ok (.aload_n 0, 1) := by decide +kernel
theorem dX8_sheet_30 : decode cX8_sheet 30 = .ok (.ldc 100, 2) := by decide +kernel
theorem dX8_sheet_32 : decode cX8_sheet 32 = .ok (.invokevirtual 101, 3) := by decide +kernel
theorem dX8_sheet_35 : decode cX8_sheet 35 = .ok (.ireturn, 1) := by decide +kernel
theorem dX8_sheet_36 : decode cX8_sheet 36 = .ok (.iload_n 2, 1) := by decide +kernel
theorem dX8_sheet_37 : decode cX8_sheet 37 = .ok (.ifCond .le 14, 3) := by decide +kernel
theorem dX8_sheet_40 : decode cX8_sheet 40 = .ok (.iload_n 3, 1) := by decide +kernel
theorem dX8_sheet_41 : decode cX8_sheet 41 = .ok (.ifCond .ge 10, 3) := by decide +kernel
theorem dX8_sheet_44 : decode cX8_sheet 44 = .ok (.aload_n 0, 1) := by decide +kernel
theorem dX8_sheet_45 : decode cX8_sheet 45 = .ok (.ldc 123, 2) := by decide +kernel
theorem dX8_sheet_47 : decode cX8_sheet 47 = .ok (.invokevirtual 101, 3) := by decide +kernel
theorem dX8_sheet_50 : decode cX8_sheet 50 = .ok (.ireturn, 1) := by decide +kernel
theorem dX8_sheet_51 : decode cX8_sheet 51 = .ok (.iload_n 2, 1) := by decide +kernel
theorem dX8_sheet_52 : decode cX8_sheet 52 = .ok (.ifCond .le 16, 3) := by decide +kernel
theorem dX8_sheet_55 : decode cX8_sheet 55 = .ok (.iload_n 3, 1) := by decide +kernel
theorem dX8_sheet_56 : decode cX8_sheet 56 = .ok (.bipush 24, 2) := by decide +kernel
theorem dX8_sheet_58 : decode cX8_sheet 58 = .ok (.if_icmp .le 10, 3) := by decide +kernel
theorem dX8_sheet_61 : decode cX8_sheet 61 = .ok (.aload_n 0, 1) := by decide +kernel
theorem dX8_sheet_62 : decode cX8_sheet 62 = .ok (.ldc 100, 2) := by decide +kernel
theorem dX8_sheet_64 : decode cX8_sheet 64 = .ok (.invokevirtual 101, 3) := by decide +kernel
theorem dX8_sheet_67 : decode cX8_sheet 67 = .ok (.ireturn, 1) := by decide +kernel
theorem dX8_sheet_68 : decode cX8_sheet 68 = .ok (.aload_n 0, 1) := by decide +kernel
theorem dX8_sheet_69 : decode cX8_sheet 69 = .ok (.getfield 22, 3) := by decide +kernel
theorem dX8_sheet_72 : decode cX8_sheet 72 = .ok (.iload_n 1, 1) := by decide +kernel
theorem dX8_sheet_73 : decode cX8_sheet 73 = .ok (.iload_n 2, 1) := by decide +kernel
theorem dX8_sheet_74 : decode cX8_sheet 74 = .ok (.iastore, 1) := by decide +kernel
theorem dX8_sheet_75 : decode cX8_sheet 75 = .ok (.aload_n 0, 1) := by decide +kernel
theorem dX8_sheet_76 : decode cX8_sheet 76 = .ok (.getfield 25, 3) := by decide +kernel
theorem dX8_sheet_79 : decode cX8_sheet 79 = .ok (.iload_n 1, 1) := by decide +kernel
theorem dX8_sheet_80 : decode cX8_sheet 80 = .ok (.iload_n 2, 1) := by decide +kernel
theorem dX8_sheet_81 : decode cX8_sheet 81 = .ok (.ifCond .ne 7, 3) := by decide +kernel
theorem dX8_sheet_84 : decode cX8_sheet 84 = .ok (.iconst 0, 1) := by decide +kernel
theorem dX8_sheet_85 : decode cX8_sheet 85 = .ok (.goto 4, 3) := by decide +kernel
theorem dX8_sheet_88 : decode cX8_sheet 88 = .ok (.iload_n 3, 1) := by decide +kernel
theorem dX8_sheet_89 : decode cX8_sheet 89 = .ok (.iastore, 1) := by decide +kernel
theorem dX8_sheet_90 : decode cX8_sheet 90 = .ok (.iconst 0, 1) := by decide +kernel
theorem dX8_sheet_91 : decode cX8_sheet 91 = .ok (.istore 4, 2) := by decide +kernel
theorem dX8_sheet_93 : decode cX8_sheet 93 = .ok (.iload 4, 2) := by decide +kernel
theorem dX8_sheet_95 : decode cX8_sheet 95 = .ok (.bipush 24, 2) := by decide +kernel
theorem dX8_sheet_97 : decode cX8_sheet 97 = .ok (.if_icmp .ge 22, 3) := by decide +kernel
theorem dX8_sheet_100 : decode cX8_sheet 100 = .ok (.aload_n 0, 1) := by decide +kernel
theorem dX8_sheet_101 : decode cX8_sheet 101 = .ok (.getfield 28, 3) := by decide +kernel
theorem dX8_sheet_104 : decode cX8_sheet 104 = .ok (.bipush 24, 2) := by decide +kernel
theorem dX8_sheet_106 : decode cX8_sheet 106 = .ok (.iload_n 1, 1) := by decide +kernel
theorem dX8_sheet_107 : decode cX8_sheet 107 = .ok (.imul, 1) := by decide +kernel
theorem dX8_sheet_108 : decode cX8_sheet 108 = .ok (.iload 4, 2) := by decide +kernel
theorem dX8_sheet_110 : decode cX8_sheet 110 = .ok (.iadd, 1) := by decide +kernel
theorem dX8_sheet_111 : decode cX8_sheet 111 = .ok (.iconst 0, 1) := by decide +kernel
theorem dX8_sheet_112 : decode cX8_sheet 112 = .ok (.iastore, 1) := by decide +kernel
theorem dX8_sheet_113 : decode cX8_sheet 113 = .ok (.iinc 4 1, 3) := by decide +kernel
theorem dX8_sheet_116 : decode cX8_sheet 116 = .ok (.goto (-23), 3) := by decide +kernel
theorem dX8_sheet_119 : decode cX8_sheet 119 = .ok (.iconst 1, 1) := by decide +kernel
theorem dX8_sheet_120 : decode cX8_sheet 120 = .ok (.ireturn, 1) := by decide +kernel
theorem dX8_notThere_0 : decode cX8_notThere 0 = .ok (.iload_n 1, 1) := by decide +kernel
theorem dX8_notThere_1 : decode cX8_notThere 1 = .ok (.invokestatic 227, 3) := by decide +kernel
theorem dX8_notThere_4 : decode cX8_notThere 4 = .ok (.ifCond .ne 8, 3) := by decide +kernel
theorem dX8_notThere_7 : decode cX8_notThere 7 = .ok (.ldc 100, 2) := by decide +kernel
theorem dX8_notThere_9 : decode cX8_notThere 9 = .ok (.goto 18, 3) := by decide +kernel
theorem dX8_notThere_12 : decode cX8_notThere 12 = .ok (.aload_n 0, 1) := by decide +kernel
theorem dX8_notThere_13 : decode cX8_notThere 13 = .ok (.getfield 22, 3) := by decide +kernel
theorem dX8_notThere_16 : decode cX8_notThere 16 = .ok (.iload_n 1, 1) := by decide +kernel
theorem dX8_notThere_17 : decode cX8_notThere 17 = .ok (.iaload, 1) := by decide +kernel
theorem dX8_notThere_18 : decode cX8_notThere 18 = .ok (.ifCond .ne 8, 3) := by decide +kernel
theorem dX8_notThere_21 : decode cX8_notThere 21 = .ok (.ldc 218, 2) := by decide +kernel
theorem dX8_notThere_23 : decode cX8_notThere 23 = .ok (.goto 4, 3) := by decide +kernel
theorem dX8_notThere_26 : decode cX8_notThere 26 = .ok (.iconst 0, 1) := by decide +kernel
theorem dX8_notThere_27 : decode cX8_notThere 27 = .ok (.ireturn, 1) := by decide +kernel
theorem dX8_put_0 : decode cX8_put 0 = .ok (.aload_n 0, 1) := by decide +kernel
theorem dX8_put_1 : decode cX8_put 1 = .ok (.iload_n 1, 1) := by decide +kernel
theorem dX8_put_2 : decode cX8_put 2 = .ok (.invokevirtual 273, 3) := by decide +kernel
theorem dX8_put_5 : decode cX8_put 5 = .ok (.istore 4, 2) := by decide +kernel
theorem dX8_put_7 : decode cX8_put 7 = .ok (.iload 4, 2) := by decide +kernel
theorem dX8_put_9 : decode cX8_put 9 = .ok (.ifCond .ne 24, 3) := by decide +kernel
theorem dX8_put_12 : decode cX8_put 12 = .ok (.iload_n 2, 1) := by decide +kernel
theorem dX8_put_13 : decode cX8_put 13 = .ok (.iconst 0, 1) := by decide +kernel
theorem dX8_put_14 : decode cX8_put 14 = .ok (.aload_n 0, 1) := by decide +kernel
theorem dX8_put_15 : decode cX8_put 15 = .ok (.getfield 25, 3) := by decide +kernel
theorem dX8_put_18 : decode cX8_put 18 = .ok (.iload_n 1, 1) := by decide +kernel
theorem dX8_put_19 : decode cX8_put 19 = .ok (.iaload, 1) := by decide +kernel
theorem dX8_put_20 : decode cX8_put 20 = .ok (.iconst 1, 1) := by decide +kernel
theorem dX8_put_21 : decode cX8_put 21 = .ok (.isub, 1) := by decide +kernel
theorem dX8_put_22 : decode cX8_put 22 = .ok (.invokestatic 51, 3) := by decide +kernel
theorem dX8_put_25 : decode cX8_put 25 = .ok (.ifCond .ne 8, 3) := by decide +kernel
theorem dX8_put_28 : decode cX8_put 28 = .ok (.ldc 100, 2) := by decide +kernel
theorem dX8_put_30 : decode cX8_put 30 = .ok (.goto 5, 3) := by decide +kernel
theorem dX8_put_33 : decode cX8_put 33 = .ok (.iload 4, 2) := by decide +kernel
theorem dX8_put_35 : decode cX8_put 35 = .ok (.istore 4, 2) := by decide +kernel
theorem dX8_put_37 : decode cX8_put 37 = .ok (.iload 4, 2) := by decide +kernel
theorem dX8_put_39 : decode cX8_put 39 = .ok (.ifCond .eq 10, 3) := by decide +kernel
theorem dX8_put_42 : decode cX8_put 42 = .ok (.aload_n 0, 1) := by decide +kernel
theorem dX8_put_43 : decode cX8_put 43 = .ok (.iload 4, 2) := by decide +kernel
theorem dX8_put_45 : decode cX8_put 45 = .ok (.invokevirtual 101, 3) := by decide +kernel
theorem dX8_put_48 : decode cX8_put 48 = .ok (.ireturn, 1) := by decide +kernel
theorem dX8_put_49 : decode cX8_put 49 = .ok (.aload_n 0, 1) := by decide +kernel
theorem dX8_put_50 : decode cX8_put 50 = .ok (.getfield 28, 3) := by decide +kernel
theorem dX8_put_53 : decode cX8_put 53 = .ok (.bipush 24, 2) := by decide +kernel
theorem dX8_put_55 : decode cX8_put 55 = .ok (.iload_n 1, 1) := by decide +kernel
theorem dX8_put_56 : decode cX8_put 56 = .ok (.imul, 1) := by decide +kernel
theorem dX8_put_57 : decode cX8_put 57 = .ok (.iload_n 2, 1) := by decide +kernel
theorem dX8_put_58 : decode cX8_put 58 = .ok (.iadd, 1) := by decide +kernel
theorem dX8_put_59 : decode cX8_put 59 = .ok (.aload_n 0, 1) := by decide +kernel
theorem dX8_put_60 : decode cX8_put 60 = .ok (.getfield 22, 3) := by decide +kernel
theorem dX8_put_63 : decode cX8_put 63 = .ok (.iload_n 1, 1) := by decide +kernel
theorem dX8_put_64 : decode cX8_put 64 = .ok (.iaload, 1) := by decide +kernel
theorem dX8_put_65 : decode cX8_put 65 = .ok (.bipush 8, 2) := by decide +kernel
theorem dX8_put_67 : decode cX8_put 67 = .ok (.if_icmp .ne 8, 3) := by decide +kernel
theorem dX8_put_70 : decode cX8_put 70 = .ok (.iload_n 3, 1) := by decide +kernel
theorem dX8_put_71 : decode cX8_put 71 = .ok (.i2b, 1) := by decide +kernel
theorem dX8_put_72 : decode cX8_put 72 = .ok (.goto 20, 3) := by decide +kernel
theorem dX8_put_75 : decode cX8_put 75 = .ok (.aload_n 0, 1) := by decide +kernel
theorem dX8_put_76 : decode cX8_put 76 = .ok (.getfield 22, 3) := by decide +kernel
theorem dX8_put_79 : decode cX8_put 79 = .ok (.iload_n 1, 1) := by decide +kernel
theorem dX8_put_80 : decode cX8_put 80 = .ok (.iaload, 1) := by decide +kernel
theorem dX8_put_81 : decode cX8_put 81 = .ok (.bipush 16, 2) := by decide +kernel
theorem dX8_put_83 : decode cX8_put 83 = .ok (.if_icmp .ne 8, 3) := by decide +kernel
theorem dX8_put_86 : decode cX8_put 86 = .ok (.iload_n 3, 1) := by decide +kernel
theorem dX8_put_87 : decode cX8_put 87 = .ok (.i2s, 1) := by decide +kernel
theorem dX8_put_88 : decode cX8_put 88 = .ok (.goto 4, 3) := by decide +kernel
theorem dX8_put_91 : decode cX8_put 91 = .ok (.iload_n 3, 1) := by decide +kernel
theorem dX8_put_92 : decode cX8_put 92 = .ok (.iastore, 1) := by decide +kernel
theorem dX8_put_93 : decode cX8_put 93 = .ok (.iconst 1, 1) := by decide +kernel
theorem dX8_put_94 : decode cX8_put 94 = .ok (.ireturn, 1) := by decide +kernel
theorem dX8_notMoved_0 : decode cX8_notMoved 0 = .ok (.iload_n 1, 1) := by decide +kernel
theorem dX8_notMoved_1 : decode cX8_notMoved 1 = .ok (.invokestatic 227, 3) := by decide +kernel
theorem dX8_notMoved_4 : decode cX8_notMoved 4 = .ok (.ifCond .eq 10, 3) := by decide +kernel
theorem dX8_notMoved_7 : decode cX8_notMoved 7 = .ok (.iload_n 3, 1) := by decide +kernel
theorem dX8_notMoved_8 : decode cX8_notMoved 8 = .ok (.invokestatic 227, 3) := by decide +kernel
theorem dX8_notMoved_11 : decode cX8_notMoved 11 = .ok (.ifCond .ne 6, 3) := by decide +kernel
theorem dX8_notMoved_14 : decode cX8_notMoved 14 = .ok (.ldc 100, 2) := by decide +kernel
theorem dX8_notMoved_16 : decode cX8_notMoved 16 = .ok (.ireturn, 1) := by decide +kernel
theorem dX8_notMoved_17 : decode cX8_notMoved 17 = .ok (.aload_n 0, 1) := by decide +kernel
theorem dX8_notMoved_18 : decode cX8_notMoved 18 = .ok (.getfield 22, 3) := by decide +kernel
theorem dX8_notMoved_21 : decode cX8_notMoved 21 = .ok (.iload_n 1, 1) := by decide +kernel
theorem dX8_notMoved_22 : decode cX8_notMoved 22 = .ok (.iaload, 1) := by decide +kernel
theorem dX8_notMoved_23 : decode cX8_notMoved 23 = .ok (.ifCond .eq 12, 3) := by decide +kernel
theorem dX8_notMoved_26 : decode cX8_notMoved 26 = .ok (.aload_n 0, 1) := by decide +kernel
theorem dX8_notMoved_27 : decode cX8_notMoved 27 = .ok (.getfield 22, 3) := by decide +kernel
theorem dX8_notMoved_30 : decode cX8_notMoved 30 = .ok (.iload_n 3, 1) := by decide +kernel
theorem dX8_notMoved_31 : decode cX8_notMoved 31 = .ok (.iaload, 1) := by decide +kernel
theorem dX8_notMoved_32 : decode cX8_notMoved 32 = .ok (.ifCond .ne 6, 3) := by decide +kernel
theorem dX8_notMoved_35 : decode cX8_notMoved 35 = .ok (.ldc 218, 2) := by decide +kernel
theorem dX8_notMoved_37 : decode cX8_notMoved 37 = .ok (.ireturn, 1) := by decide +kernel
theorem dX8_notMoved_38 : decode cX8_notMoved 38 = .ok (.aload_n 0, 1) := by decide +kernel
theorem dX8_notMoved_39 : decode cX8_notMoved 39 = .ok (.getfield 22, 3) := by decide +kernel
theorem dX8_notMoved_42 : decode cX8_notMoved 42 = .ok (.iload_n 1, 1) := by decide +kernel
theorem dX8_notMoved_43 : decode cX8_notMoved 43 = .ok (.iaload, 1) := by decide +kernel
theorem dX8_notMoved_44 : decode cX8_notMoved 44 = .ok (.aload_n 0, 1) := by decide +kernel
theorem dX8_notMoved_45 : decode cX8_notMoved 45 = .ok (.getfield 22, 3) := by decide +kernel
theorem dX8_notMoved_48 : decode cX8_notMoved 48 = .ok (.iload_n 3, 1) := by decide +kernel
theorem dX8_notMoved_49 : decode cX8_notMoved 49 = .ok (.iaload, 1) := by decide +kernel
theorem dX8_notMoved_50 : decode cX8_notMoved 50 = .ok (.if_icmp .eq 6, 3) := by decide +kernel
theorem dX8_notMoved_53 : decode cX8_notMoved 53 = .ok (.ldc 122, 2) := by decide +kernel
theorem dX8_notMoved_55 : decode cX8_notMoved 55 = .ok (.ireturn, 1) := by decide +kernel
theorem dX8_notMoved_56 : decode cX8_notMoved 56 = .ok (.iload 5, 2) := by decide +kernel
theorem dX8_notMoved_58 : decode cX8_notMoved 58 = .ok (.ifCond .lt 43, 3) := by decide +kernel
theorem dX8_notMoved_61 : decode cX8_notMoved 61 = .ok (.iload_n 2, 1) := by decide +kernel
theorem dX8_notMoved_62 : decode cX8_notMoved 62 = .ok (.ifCond .lt 39, 3) := by decide +kernel
theorem dX8_notMoved_65 : decode cX8_notMoved 65 = .ok (.iload 4, 2) := by decide +kernel
theorem dX8_notMoved_67 : decode cX8_notMoved 67 = .ok (.ifCond .lt 34, 3) := by decide +kernel
theorem dX8_notMoved_70 : decode cX8_notMoved 70 = .ok (.iload 5, 2) := by decide +kernel
theorem dX8_notMoved_72 : decode cX8_notMoved 72 = .ok (.aload_n 0, 1) := by decide +kernel
theorem dX8_notMoved_73 : decode cX8_notMoved 73 = .ok (.getfield 25, 3) := by decide +kernel
theorem dX8_notMoved_76 : decode cX8_notMoved 76 = .ok (.iload_n 1, 1) := by decide +kernel
theorem dX8_notMoved_77 : decode cX8_notMoved 77 = .ok (.iaload, 1) := by decide +kernel
theorem dX8_notMoved_78 : decode cX8_notMoved 78 = .ok (.iload_n 2, 1) := by decide +kernel
theorem dX8_notMoved_79 : decode cX8_notMoved 79 = .ok (.isub, 1) := by decide +kernel
theorem dX8_notMoved_80 : decode cX8_notMoved 80 = .ok (.if_icmp .gt 21, 3) := by decide +kernel
theorem dX8_notMoved_83 : decode cX8_notMoved 83 = .ok (.iload 5, 2) := by decide +kernel
theorem dX8_notMoved_85 : decode cX8_notMoved 85 = .ok (.aload_n 0, 1) := by decide +kernel
theorem dX8_notMoved_86 : decode cX8_notMoved 86 = .ok (.getfield 25, 3) := by decide +kernel
theorem dX8_notMoved_89 : decode cX8_notMoved 89 = .ok (.iload_n 3, 1) := by decide +kernel
theorem dX8_notMoved_90 : decode cX8_notMoved 90 = .ok (.iaload, 1) := by decide +kernel
theorem dX8_notMoved_91 : decode cX8_notMoved 91 = .ok (.iload 4, 2) := by decide +kernel
theorem dX8_notMoved_93 : decode cX8_notMoved 93 = .ok (.isub, 1) := by decide +kernel
theorem dX8_notMoved_94 : decode cX8_notMoved 94 = .ok (.if_icmp .gt 7, 3) := by decide +kernel
theorem dX8_notMoved_97 : decode cX8_notMoved 97 = .ok (.iconst 1, 1) := by decide +kernel
theorem dX8_notMoved_98 : decode cX8_notMoved 98 = .ok (.goto 4, 3) := by decide +kernel
theorem dX8_notMoved_101 : decode cX8_notMoved 101 = .ok (.iconst 0, 1) := by decide +kernel
theorem dX8_notMoved_102 : decode cX8_notMoved 102 = .ok (.istore 6, 2) := by decide +kernel
theorem dX8_notMoved_104 : decode cX8_notMoved 104 = .ok (.iload 6, 2) := by decide +kernel
theorem dX8_notMoved_106 : decode cX8_notMoved 106 = .ok (.ifCond .eq 7, 3) := by decide +kernel
theorem dX8_notMoved_109 : decode cX8_notMoved 109 = .ok (.iconst 0, 1) := by decide +kernel
theorem dX8_notMoved_110 : decode cX8_notMoved 110 = .ok (.goto 5, 3) := by decide +kernel
theorem dX8_notMoved_113 : decode cX8_notMoved 113 = .ok (.ldc 100, 2) := by decide +kernel
theorem dX8_notMoved_115 : decode cX8_notMoved 115 = .ok (.ireturn, 1) := by decide +kernel
theorem dX8_move_0 : decode cX8_move 0 = .ok (.aload_n 0, 1) := by decide +kernel
theorem dX8_move_1 : decode cX8_move 1 = .ok (.iload_n 1, 1) := by decide +kernel
theorem dX8_move_2 : decode cX8_move 2 = .ok (.iload_n 2, 1) := by decide +kernel
theorem dX8_move_3 : decode cX8_move 3 = .ok (.iload_n 3, 1) := by decide +kernel
theorem dX8_move_4 : decode cX8_move 4 = .ok (.iload 4, 2) := by decide +kernel
theorem dX8_move_6 : decode cX8_move 6 = .ok (.iload 5, 2) := by decide +kernel
theorem dX8_move_8 : decode cX8_move 8 = .ok (.invokevirtual 276, 3) := by decide +kernel
theorem dX8_move_11 : decode cX8_move 11 = .ok (.istore 6, 2) := by decide +kernel
theorem dX8_move_13 : decode cX8_move 13 = .ok (.iload 6, 2) := by decide +kernel
theorem dX8_move_15 : decode cX8_move 15 = .ok (.ifCond .eq 10, 3) := by decide +kernel
theorem dX8_move_18 : decode cX8_move 18 = .ok (.aload_n 0, 1) := by decide +kernel
theorem dX8_move_19 : decode cX8_move 19 = .ok (.iload 6, 2) := by decide +kernel
theorem dX8_move_21 : decode cX8_move 21 = .ok (.invokevirtual 101, 3) := by decide +kernel
theorem dX8_move_24 : decode cX8_move 24 = .ok (.ireturn, 1) := by decide +kernel
theorem dX8_move_25 : decode cX8_move 25 = .ok (.iconst 0, 1) := by decide +kernel
theorem dX8_move_26 : decode cX8_move 26 = .ok (.istore 7, 2) := by decide +kernel
theorem dX8_move_28 : decode cX8_move 28 = .ok (.iload 7, 2) := by decide +kernel
theorem dX8_move_30 : decode cX8_move 30 = .ok (.iload 5, 2) := by decide +kernel
theorem dX8_move_32 : decode cX8_move 32 = .ok (.if_icmp .ge 58, 3) := by decide +kernel
theorem dX8_move_35 : decode cX8_move 35 = .ok (.iload_n 2, 1) := by decide +kernel
theorem dX8_move_36 : decode cX8_move 36 = .ok (.iload 4, 2) := by decide +kernel
theorem dX8_move_38 : decode cX8_move 38 = .ok (.if_icmp .ge 13, 3) := by decide +kernel
theorem dX8_move_41 : decode cX8_move 41 = .ok (.iload 5, 2) := by decide +kernel
theorem dX8_move_43 : decode cX8_move 43 = .ok (.iconst 1, 1) := by decide +kernel
theorem dX8_move_44 : decode cX8_move 44 = .ok (.isub, 1) := by decide +kernel
theorem dX8_move_45 : decode cX8_move 45 = .ok (.iload 7, 2) := by decide +kernel
theorem dX8_move_47 : decode cX8_move 47 = .ok (.isub, 1) := by decide +kernel
theorem dX8_move_48 : decode cX8_move 48 = .ok (.goto 5, 3) := by decide +kernel
theorem dX8_move_51 : decode cX8_move 51 = .ok (.iload 7, 2) := by decide +kernel
theorem dX8_move_53 : decode cX8_move 53 = .ok (.istore 8, 2) := by decide +kernel
theorem dX8_move_55 : decode cX8_move 55 = .ok (.aload_n 0, 1) := by decide +kernel
theorem dX8_move_56 : decode cX8_move 56 = .ok (.getfield 28, 3) := by decide +kernel
theorem dX8_move_59 : decode cX8_move 59 = .ok (.bipush 24, 2) := by decide +kernel
theorem dX8_move_61 : decode cX8_move 61 = .ok (.iload_n 3, 1) := by decide +kernel
theorem dX8_move_62 : decode cX8_move 62 = .ok (.imul, 1) := by decide +kernel
theorem dX8_move_63 : decode cX8_move 63 = .ok (.iload 4, 2) := by decide +kernel
theorem dX8_move_65 : decode cX8_move 65 = .ok (.iadd, 1) := by decide +kernel
theorem dX8_move_66 : decode cX8_move 66 = .ok (.iload 8, 2) := by decide +kernel
theorem dX8_move_68 : decode cX8_move 68 = .ok (.iadd, 1) := by decide +kernel
theorem dX8_move_69 : decode cX8_move 69 = .ok (.aload_n 0, 1) := by decide +kernel
theorem dX8_move_70 : decode cX8_move 70 = .ok (.getfield 28, 3) := by decide +kernel
theorem dX8_move_73 : decode cX8_move 73 = .ok (.bipush 24, 2) := by decide +kernel
theorem dX8_move_75 : decode cX8_move 75 = .ok (.iload_n 1, 1) := by decide +kernel
theorem dX8_move_76 : decode cX8_move 76 = .ok (.imul, 1) := by decide +kernel
theorem dX8_move_77 : decode cX8_move 77 = .ok (.iload_n 2, 1) := by decide +kernel
theorem dX8_move_78 : decode cX8_move 78 = .ok (.iadd, 1) := by decide +kernel
theorem dX8_move_79 : decode cX8_move 79 = .ok (.iload 8, 2) := by decide +kernel
theorem dX8_move_81 : decode cX8_move 81 = .ok (.iadd, 1) := by decide +kernel
theorem dX8_move_82 : decode cX8_move 82 = .ok (.iaload, 1) := by decide +kernel
theorem dX8_move_83 : decode cX8_move 83 = .ok (.iastore, 1) := by decide +kernel
theorem dX8_move_84 : decode cX8_move 84 = .ok (.iinc 7 1, 3) := by decide +kernel
theorem dX8_move_87 : decode cX8_move 87 = .ok (.goto (-59), 3) := by decide +kernel
theorem dX8_move_90 : decode cX8_move 90 = .ok (.iload 5, 2) := by decide +kernel
theorem dX8_move_92 : decode cX8_move 92 = .ok (.ireturn, 1) := by decide +kernel
theorem dX8_sets_0 : decode cX8_sets 0 = .ok (.aload_n 0, 1) := by decide +kernel
theorem dX8_sets_1 : decode cX8_sets 1 = .ok (.iload_n 1, 1) := by decide +kernel
theorem dX8_sets_2 : decode cX8_sets 2 = .ok (.invokevirtual 106, 3) := by decide +kernel
theorem dX8_sets_5 : decode cX8_sets 5 = .ok (.ifCond .eq 10, 3) := by decide +kernel
theorem dX8_sets_8 : decode cX8_sets 8 = .ok (.iload_n 2, 1) := by decide +kernel
theorem dX8_sets_9 : decode cX8_sets 9 = .ok (.invokestatic 227, 3) := by decide +kernel
theorem dX8_sets_12 : decode cX8_sets 12 = .ok (.ifCond .ne 10, 3) := by decide +kernel
theorem dX8_sets_15 : decode cX8_sets 15 = .ok (.aload_n 0, 1) := by decide +kernel
theorem dX8_sets_16 : decode cX8_sets 16 = .ok (.ldc 100, 2) := by decide +kernel
theorem dX8_sets_18 : decode cX8_sets 18 = .ok (.invokevirtual 101, 3) := by decide +kernel
theorem dX8_sets_21 : decode cX8_sets 21 = .ok (.ireturn, 1) := by decide +kernel
theorem dX8_sets_22 : decode cX8_sets 22 = .ok (.aload_n 0, 1) := by decide +kernel
theorem dX8_sets_23 : decode cX8_sets 23 = .ok (.getfield 22, 3) := by decide +kernel
theorem dX8_sets_26 : decode cX8_sets 26 = .ok (.iload_n 2, 1) := by decide +kernel
theorem dX8_sets_27 : decode cX8_sets 27 = .ok (.iaload, 1) := by decide +kernel
theorem dX8_sets_28 : decode cX8_sets 28 = .ok (.ifCond .ne 10, 3) := by decide +kernel
theorem dX8_sets_31 : decode cX8_sets 31 = .ok (.aload_n 0, 1) := by decide +kernel
theorem dX8_sets_32 : decode cX8_sets 32 = .ok (.ldc 218, 2) := by decide +kernel
theorem dX8_sets_34 : decode cX8_sets 34 = .ok (.invokevirtual 101, 3) := by decide +kernel
theorem dX8_sets_37 : decode cX8_sets 37 = .ok (.ireturn, 1) := by decide +kernel
theorem dX8_sets_38 : decode cX8_sets 38 = .ok (.iconst 0, 1) := by decide +kernel
theorem dX8_sets_39 : decode cX8_sets 39 = .ok (.istore_n 3, 1) := by decide +kernel
theorem dX8_sets_40 : decode cX8_sets 40 = .ok (.iload_n 3, 1) := by decide +kernel
theorem dX8_sets_41 : decode cX8_sets 41 = .ok (.aload_n 0, 1) := by decide +kernel
theorem dX8_sets_42 : decode cX8_sets 42 = .ok (.getfield 25, 3) := by decide +kernel
theorem dX8_sets_45 : decode cX8_sets 45 = .ok (.iload_n 2, 1) := by decide +kernel
theorem dX8_sets_46 : decode cX8_sets 46 = .ok (.iaload, 1) := by decide +kernel
theorem dX8_sets_47 : decode cX8_sets 47 = .ok (.if_icmp .ge 51, 3) := by decide +kernel
theorem dX8_sets_50 : decode cX8_sets 50 = .ok (.iload_n 3, 1) := by decide +kernel
theorem dX8_sets_51 : decode cX8_sets 51 = .ok (.bipush 8, 2) := by decide +kernel
theorem dX8_sets_53 : decode cX8_sets 53 = .ok (.if_icmp .ge 45, 3) := by decide +kernel
theorem dX8_sets_56 : decode cX8_sets 56 = .ok (.aload_n 0, 1) := by decide +kernel
theorem dX8_sets_57 : decode cX8_sets 57 = .ok (.getfield 28, 3) := by decide +kernel
theorem dX8_sets_60 : decode cX8_sets 60 = .ok (.bipush 24, 2) := by decide +kernel
theorem dX8_sets_62 : decode cX8_sets 62 = .ok (.iload_n 2, 1) := by decide +kernel
theorem dX8_sets_63 : decode cX8_sets 63 = .ok (.imul, 1) := by decide +kernel
theorem dX8_sets_64 : decode cX8_sets 64 = .ok (.iload_n 3, 1) := by decide +kernel
theorem dX8_sets_65 : decode cX8_sets 65 = .ok (.iadd, 1) := by decide +kernel
theorem dX8_sets_66 : decode cX8_sets 66 = .ok (.iaload, 1) := by decide +kernel
theorem dX8_sets_67 : decode cX8_sets 67 = .ok (.invokestatic 109, 3) := by decide +kernel
theorem dX8_sets_70 : decode cX8_sets 70 = .ok (.ifCond .eq 28, 3) := by decide +kernel
theorem dX8_sets_73 : decode cX8_sets 73 = .ok (.aload_n 0, 1) := by decide +kernel
theorem dX8_sets_74 : decode cX8_sets 74 = .ok (.iload_n 1, 1) := by decide +kernel
theorem dX8_sets_75 : decode cX8_sets 75 = .ok (.iconst 5, 1) := by decide +kernel
theorem dX8_sets_76 : decode cX8_sets 76 = .ok (.iload_n 3, 1) := by decide +kernel
theorem dX8_sets_77 : decode cX8_sets 77 = .ok (.iadd, 1) := by decide +kernel
theorem dX8_sets_78 : decode cX8_sets 78 = .ok (.aload_n 0, 1) := by decide +kernel
theorem dX8_sets_79 : decode cX8_sets 79 = .ok (.getfield 28, 3) := by decide +kernel
theorem dX8_sets_82 : decode cX8_sets 82 = .ok (.bipush 24, 2) := by decide +kernel
theorem dX8_sets_84 : decode cX8_sets 84 = .ok (.iload_n 2, 1) := by decide +kernel
theorem dX8_sets_85 : decode cX8_sets 85 = .ok (.imul, 1) := by decide +kernel
theorem dX8_sets_86 : decode cX8_sets 86 = .ok (.iload_n 3, 1) := by decide +kernel
theorem dX8_sets_87 : decode cX8_sets 87 = .ok (.iadd, 1) := by decide +kernel
theorem dX8_sets_88 : decode cX8_sets 88 = .ok (.iaload, 1) := by decide +kernel
theorem dX8_sets_89 : decode cX8_sets 89 = .ok (.invokevirtual 65, 3) := by decide +kernel
theorem dX8_sets_92 : decode cX8_sets 92 = .ok (.iinc 3 1, 3) := by decide +kernel
theorem dX8_sets_95 : decode cX8_sets 95 = .ok (.goto (-55), 3) := by decide +kernel
theorem dX8_sets_98 : decode cX8_sets 98 = .ok (.aload_n 0, 1) := by decide +kernel
theorem dX8_sets_99 : decode cX8_sets 99 = .ok (.iload_n 1, 1) := by decide +kernel
theorem dX8_sets_100 : decode cX8_sets 100 = .ok (.iconst 3, 1) := by decide +kernel
theorem dX8_sets_101 : decode cX8_sets 101 = .ok (.iload_n 3, 1) := by decide +kernel
theorem dX8_sets_102 : decode cX8_sets 102 = .ok (.invokevirtual 65, 3) := by decide +kernel
theorem dX8_sets_105 : decode cX8_sets 105 = .ok (.iload_n 3, 1) := by decide +kernel
theorem dX8_sets_106 : decode cX8_sets 106 = .ok (.ireturn, 1) := by decide +kernel
theorem dX8_judge_0 : decode cX8_judge 0 = .ok (.aload_n 0, 1) := by decide +kernel
theorem dX8_judge_1 : decode cX8_judge 1 = .ok (.iload_n 1, 1) := by decide +kernel
theorem dX8_judge_2 : decode cX8_judge 2 = .ok (.invokevirtual 273, 3) := by decide +kernel
theorem dX8_judge_5 : decode cX8_judge 5 = .ok (.istore_n 2, 1) := by decide +kernel
theorem dX8_judge_6 : decode cX8_judge 6 = .ok (.iload_n 2, 1) := by decide +kernel
theorem dX8_judge_7 : decode cX8_judge 7 = .ok (.ifCond .eq 9, 3) := by decide +kernel
theorem dX8_judge_10 : decode cX8_judge 10 = .ok (.aload_n 0, 1) := by decide +kernel
theorem dX8_judge_11 : decode cX8_judge 11 = .ok (.iload_n 2, 1) := by decide +kernel
theorem dX8_judge_12 : decode cX8_judge 12 = .ok (.invokevirtual 101, 3) := by decide +kernel
theorem dX8_judge_15 : decode cX8_judge 15 = .ok (.ireturn, 1) := by decide +kernel
theorem dX8_judge_16 : decode cX8_judge 16 = .ok (.iconst 0, 1) := by decide +kernel
theorem dX8_judge_17 : decode cX8_judge 17 = .ok (.istore_n 3, 1) := by decide +kernel
theorem dX8_judge_18 : decode cX8_judge 18 = .ok (.iload_n 3, 1) := by decide +kernel
theorem dX8_judge_19 : decode cX8_judge 19 = .ok (.aload_n 0, 1) := by decide +kernel
theorem dX8_judge_20 : decode cX8_judge 20 = .ok (.getfield 25, 3) := by decide +kernel
theorem dX8_judge_23 : decode cX8_judge 23 = .ok (.iload_n 1, 1) := by decide +kernel
theorem dX8_judge_24 : decode cX8_judge 24 = .ok (.iaload, 1) := by decide +kernel
theorem dX8_judge_25 : decode cX8_judge 25 = .ok (.if_icmp .ge 48, 3) := by decide +kernel
theorem dX8_judge_28 : decode cX8_judge 28 = .ok (.iload_n 3, 1) := by decide +kernel
theorem dX8_judge_29 : decode cX8_judge 29 = .ok (.aload_n 0, 1) := by decide +kernel
theorem dX8_judge_30 : decode cX8_judge 30 = .ok (.getfield 9, 3) := by decide +kernel
theorem dX8_judge_33 : decode cX8_judge 33 = .ok (.iconst 3, 1) := by decide +kernel
theorem dX8_judge_34 : decode cX8_judge 34 = .ok (.iaload, 1) := by decide +kernel
theorem dX8_judge_35 : decode cX8_judge 35 = .ok (.if_icmp .ge 38, 3) := by decide +kernel
theorem dX8_judge_38 : decode cX8_judge 38 = .ok (.aload_n 0, 1) := by decide +kernel
theorem dX8_judge_39 : decode cX8_judge 39 = .ok (.getfield 28, 3) := by decide +kernel
theorem dX8_judge_42 : decode cX8_judge 42 = .ok (.bipush 24, 2) := by decide +kernel
theorem dX8_judge_44 : decode cX8_judge 44 = .ok (.iload_n 1, 1) := by decide +kernel
theorem dX8_judge_45 : decode cX8_judge 45 = .ok (.imul, 1) := by decide +kernel
theorem dX8_judge_46 : decode cX8_judge 46 = .ok (.iload_n 3, 1) := by decide +kernel
theorem dX8_judge_47 : decode cX8_judge 47 = .ok (.iadd, 1) := by decide +kernel
theorem dX8_judge_48 : decode cX8_judge 48 = .ok (.iaload, 1) := by decide +kernel
theorem dX8_judge_49 : decode cX8_judge 49 = .ok (.aload_n 0, 1) := by decide +kernel
theorem dX8_judge_50 : decode cX8_judge 50 = .ok (.aload_n 0, 1) := by decide +kernel
theorem dX8_judge_51 : decode cX8_judge 51 = .ok (.getfield 9, 3) := by decide +kernel
theorem dX8_judge_54 : decode cX8_judge 54 = .ok (.bipush 58, 2) := by decide +kernel
theorem dX8_judge_56 : decode cX8_judge 56 = .ok (.iconst 2, 1) := by decide +kernel
theorem dX8_judge_57 : decode cX8_judge 57 = .ok (.iload_n 3, 1) := by decide +kernel
theorem dX8_judge_58 : decode cX8_judge 58 = .ok (.imul, 1) := by decide +kernel
theorem dX8_judge_59 : decode cX8_judge 59 = .ok (.iadd, 1) := by decide +kernel
theorem dX8_judge_60 : decode cX8_judge 60 = .ok (.iaload, 1) := by decide +kernel
theorem dX8_judge_61 : decode cX8_judge 61 = .ok (.invokevirtual 127, 3) := by decide +kernel
theorem dX8_judge_64 : decode cX8_judge 64 = .ok (.if_icmp .ne 9, 3) := by decide +kernel
theorem dX8_judge_67 : decode cX8_judge 67 = .ok (.iinc 3 1, 3) := by decide +kernel
theorem dX8_judge_70 : decode cX8_judge 70 = .ok (.goto (-52), 3) := by decide +kernel
theorem dX8_judge_73 : decode cX8_judge 73 = .ok (.iload_n 3, 1) := by decide +kernel
theorem dX8_judge_74 : decode cX8_judge 74 = .ok (.ireturn, 1) := by decide +kernel
theorem dX8_image_0 : decode cX8_image 0 = .ok (.aload_n 0, 1) := by decide +kernel
theorem dX8_image_1 : decode cX8_image 1 = .ok (.getfield 9, 3) := by decide +kernel
theorem dX8_image_4 : decode cX8_image 4 = .ok (.aload_n 0, 1) := by decide +kernel
theorem dX8_image_5 : decode cX8_image 5 = .ok (.getfield 13, 3) := by decide +kernel
theorem dX8_image_8 : decode cX8_image 8 = .ok (.invokestatic 47, 3) := by decide +kernel
theorem dX8_image_11 : decode cX8_image 11 = .ok (.aload_n 0, 1) := by decide +kernel
theorem dX8_image_12 : decode cX8_image 12 = .ok (.dup, 1) := by decide +kernel
theorem dX8_image_13 : decode cX8_image 13 = .ok (.getfield 280, 3) := by decide +kernel
theorem dX8_image_16 : decode cX8_image 16 = .ok (.iconst 1, 1) := by decide +kernel
theorem dX8_image_17 : decode cX8_image 17 = .ok (.iadd, 1) := by decide +kernel
theorem dX8_image_18 : decode cX8_image 18 = .ok (.putfield 280, 3) := by decide +kernel
theorem dX8_image_21 : decode cX8_image 21 = .ok (.aload_n 0, 1) := by decide +kernel
theorem dX8_image_22 : decode cX8_image 22 = .ok (.getfield 280, 3) := by decide +kernel
theorem dX8_image_25 : decode cX8_image 25 = .ok (.ireturn, 1) := by decide +kernel
theorem dX8_restore_0 : decode cX8_restore 0 = .ok (.aload_n 0, 1) := by decide +kernel
theorem dX8_restore_1 : decode cX8_restore 1 = .ok (.getfield 280, 3) := by decide +kernel
theorem dX8_restore_4 : decode cX8_restore 4 = .ok (.ifCond .ne 10, 3) := by decide +kernel
theorem dX8_restore_7 : decode cX8_restore 7 = .ok (.aload_n 0, 1) := by decide +kernel
theorem dX8_restore_8 : decode cX8_restore 8 = .ok (.ldc 218, 2) := by decide +kernel
theorem dX8_restore_10 : decode cX8_restore 10 = .ok (.invokevirtual 101, 3) := by decide +kernel
theorem dX8_restore_13 : decode cX8_restore 13 = .ok (.ireturn, 1) := by decide +kernel
theorem dX8_restore_14 : decode cX8_restore 14 = .ok (.aload_n 0, 1) := by decide +kernel
theorem dX8_restore_15 : decode cX8_restore 15 = .ok (.getfield 13, 3) := by decide +kernel
theorem dX8_restore_18 : decode cX8_restore 18 = .ok (.aload_n 0, 1) := by decide +kernel
theorem dX8_restore_19 : decode cX8_restore 19 = .ok (.getfield 9, 3) := by decide +kernel
theorem dX8_restore_22 : decode cX8_restore 22 = .ok (.invokestatic 47, 3) := by decide +kernel
theorem dX8_restore_25 : decode cX8_restore 25 = .ok (.aload_n 0, 1) := by decide +kernel
theorem dX8_restore_26 : decode cX8_restore 26 = .ok (.getfield 9, 3) := by decide +kernel
theorem dX8_restore_29 : decode cX8_restore 29 = .ok (.iconst 0, 1) := by decide +kernel
theorem dX8_restore_30 : decode cX8_restore 30 = .ok (.iaload, 1) := by decide +kernel
theorem dX8_restore_31 : decode cX8_restore 31 = .ok (.ireturn, 1) := by decide +kernel
theorem dX8_tell_0 : decode cX8_tell 0 = .ok (.aload_n 0, 1) := by decide +kernel
theorem dX8_tell_1 : decode cX8_tell 1 = .ok (.getfield 9, 3) := by decide +kernel
theorem dX8_tell_4 : decode cX8_tell 4 = .ok (.iconst 5, 1) := by decide +kernel
theorem dX8_tell_5 : decode cX8_tell 5 = .ok (.iaload, 1) := by decide +kernel
theorem dX8_tell_6 : decode cX8_tell 6 = .ok (.bipush 24, 2) := by decide +kernel
theorem dX8_tell_8 : decode cX8_tell 8 = .ok (.if_icmp .ne 10, 3) := by decide +kernel
theorem dX8_tell_11 : decode cX8_tell 11 = .ok (.aload_n 0, 1) := by decide +kernel
theorem dX8_tell_12 : decode cX8_tell 12 = .ok (.ldc 105, 2) := by decide +kernel
theorem dX8_tell_14 : decode cX8_tell 14 = .ok (.invokevirtual 101, 3) := by decide +kernel
theorem dX8_tell_17 : decode cX8_tell 17 = .ok (.ireturn, 1) := by decide +kernel
theorem dX8_tell_18 : decode cX8_tell 18 = .ok (.aload_n 0, 1) := by decide +kernel
theorem dX8_tell_19 : decode cX8_tell 19 = .ok (.getfield 9, 3) := by decide +kernel
theorem dX8_tell_22 : decode cX8_tell 22 = .ok (.sipush 258, 3) := by decide +kernel
theorem dX8_tell_25 : decode cX8_tell 25 = .ok (.aload_n 0, 1) := by decide +kernel
theorem dX8_tell_26 : decode cX8_tell 26 = .ok (.getfield 9, 3) := by decide +kernel
theorem dX8_tell_29 : decode cX8_tell 29 = .ok (.iconst 5, 1) := by decide +kernel
theorem dX8_tell_30 : decode cX8_tell 30 = .ok (.iaload, 1) := by decide +kernel
theorem dX8_tell_31 : decode cX8_tell 31 = .ok (.iadd, 1) := by decide +kernel
theorem dX8_tell_32 : decode cX8_tell 32 = .ok (.iload_n 1, 1) := by decide +kernel
theorem dX8_tell_33 : decode cX8_tell 33 = .ok (.iastore, 1) := by decide +kernel
theorem dX8_tell_34 : decode cX8_tell 34 = .ok (.aload_n 0, 1) := by decide +kernel
theorem dX8_tell_35 : decode cX8_tell 35 = .ok (.getfield 9, 3) := by decide +kernel
theorem dX8_tell_38 : decode cX8_tell 38 = .ok (.iconst 5, 1) := by decide +kernel
theorem dX8_tell_39 : decode cX8_tell 39 = .ok (.dup2, 1) := by decide +kernel
theorem dX8_tell_40 : decode cX8_tell 40 = .ok (.iaload, 1) := by decide +kernel
theorem dX8_tell_41 : decode cX8_tell 41 = .ok (.iconst 1, 1) := by decide +kernel
theorem dX8_tell_42 : decode cX8_tell 42 = .ok (.iadd, 1) := by decide +kernel
theorem dX8_tell_43 : decode cX8_tell 43 = .ok (.iastore, 1) := by decide +kernel
theorem dX8_tell_44 : decode cX8_tell 44 = .ok (.aload_n 0, 1) := by decide +kernel
theorem dX8_tell_45 : decode cX8_tell 45 = .ok (.getfield 9, 3) := by decide +kernel
theorem dX8_tell_48 : decode cX8_tell 48 = .ok (.iconst 5, 1) := by decide +kernel
theorem dX8_tell_49 : decode cX8_tell 49 = .ok (.iaload, 1) := by decide +kernel
theorem dX8_tell_50 : decode cX8_tell 50 = .ok (.ireturn, 1) := by decide +kernel
theorem dX8_check_0 : decode cX8_check 0 = .ok (.aload_n 0, 1) := by decide +kernel
theorem dX8_check_1 : decode cX8_check 1 = .ok (.getfield 9, 3) := by decide +kernel
theorem dX8_check_4 : decode cX8_check 4 = .ok (.iconst 5, 1) := by decide +kernel
theorem dX8_check_5 : decode cX8_check 5 = .ok (.iaload, 1) := by decide +kernel
theorem dX8_check_6 : decode cX8_check 6 = .ok (.istore_n 1, 1) := by decide +kernel
theorem dX8_check_7 : decode cX8_check 7 = .ok (.aload_n 0, 1) := by decide +kernel
theorem dX8_check_8 : decode cX8_check 8 = .ok (.getfield 9, 3) := by decide +kernel
theorem dX8_check_11 : decode cX8_check 11 = .ok (.iconst 5, 1) := by decide +kernel
theorem dX8_check_12 : decode cX8_check 12 = .ok (.iconst 0, 1) := by decide +kernel
theorem dX8_check_13 : decode cX8_check 13 = .ok (.iastore, 1) := by decide +kernel
theorem dX8_check_14 : decode cX8_check 14 = .ok (.iconst 0, 1) := by decide +kernel
theorem dX8_check_15 : decode cX8_check 15 = .ok (.istore_n 2, 1) := by decide +kernel
theorem dX8_check_16 : decode cX8_check 16 = .ok (.iload_n 2, 1) := by decide +kernel
theorem dX8_check_17 : decode cX8_check 17 = .ok (.iload_n 1, 1) := by decide +kernel
theorem dX8_check_18 : decode cX8_check 18 = .ok (.if_icmp .ge 40, 3) := by decide +kernel
theorem dX8_check_21 : decode cX8_check 21 = .ok (.aload_n 0, 1) := by decide +kernel
theorem dX8_check_22 : decode cX8_check 22 = .ok (.iload_n 2, 1) := by decide +kernel
theorem dX8_check_23 : decode cX8_check 23 = .ok (.invokevirtual 106, 3) := by decide +kernel
theorem dX8_check_26 : decode cX8_check 26 = .ok (.ifCond .eq 22, 3) := by decide +kernel
theorem dX8_check_29 : decode cX8_check 29 = .ok (.aload_n 0, 1) := by decide +kernel
theorem dX8_check_30 : decode cX8_check 30 = .ok (.getfield 9, 3) := by decide +kernel
theorem dX8_check_33 : decode cX8_check 33 = .ok (.sipush 258, 3) := by decide +kernel
theorem dX8_check_36 : decode cX8_check 36 = .ok (.iload_n 2, 1) := by decide +kernel
theorem dX8_check_37 : decode cX8_check 37 = .ok (.iadd, 1) := by decide +kernel
theorem dX8_check_38 : decode cX8_check 38 = .ok (.iaload, 1) := by decide +kernel
theorem dX8_check_39 : decode cX8_check 39 = .ok (.aload_n 0, 1) := by decide +kernel
theorem dX8_check_40 : decode cX8_check 40 = .ok (.iload_n 2, 1) := by decide +kernel
theorem dX8_check_41 : decode cX8_check 41 = .ok (.iconst 4, 1) := by decide +kernel
theorem dX8_check_42 : decode cX8_check 42 = .ok (.invokevirtual 55, 3) := by decide +kernel
theorem dX8_check_45 : decode cX8_check 45 = .ok (.if_icmp .eq 7, 3) := by decide +kernel
theorem dX8_check_48 : decode cX8_check 48 = .ok (.iconst 1, 1) := by decide +kernel
theorem dX8_check_49 : decode cX8_check 49 = .ok (.iload_n 2, 1) := by decide +kernel
theorem dX8_check_50 : decode cX8_check 50 = .ok (.iadd, 1) := by decide +kernel
theorem dX8_check_51 : decode cX8_check 51 = .ok (.ireturn, 1) := by decide +kernel
theorem dX8_check_52 : decode cX8_check 52 = .ok (.iinc 2 1, 3) := by decide +kernel
theorem dX8_check_55 : decode cX8_check 55 = .ok (.goto (-39), 3) := by decide +kernel
theorem dX8_check_58 : decode cX8_check 58 = .ok (.iconst 0, 1) := by decide +kernel
theorem dX8_check_59 : decode cX8_check 59 = .ok (.ireturn, 1) := by decide +kernel
theorem dX8_count_0 : decode cX8_count 0 = .ok (.iload_n 1, 1) := by decide +kernel
theorem dX8_count_1 : decode cX8_count 1 = .ok (.tableswitch 113 0 8 #[51, 58, 65, 72, 79, 87, 94, 101, 106], 51) := by decide +kernel
theorem dX8_count_52 : decode cX8_count 52 = .ok (.aload_n 0, 1) := by decide +kernel
theorem dX8_count_53 : decode cX8_count 53 = .ok (.getfield 9, 3) := by decide +kernel
theorem dX8_count_56 : decode cX8_count 56 = .ok (.iconst 2, 1) := by decide +kernel
theorem dX8_count_57 : decode cX8_count 57 = .ok (.iaload, 1) := by decide +kernel
theorem dX8_count_58 : decode cX8_count 58 = .ok (.ireturn, 1) := by decide +kernel
theorem dX8_count_59 : decode cX8_count 59 = .ok (.aload_n 0, 1) := by decide +kernel
theorem dX8_count_60 : decode cX8_count 60 = .ok (.getfield 9, 3) := by decide +kernel
theorem dX8_count_63 : decode cX8_count 63 = .ok (.iconst 3, 1) := by decide +kernel
theorem dX8_count_64 : decode cX8_count 64 = .ok (.iaload, 1) := by decide +kernel
theorem dX8_count_65 : decode cX8_count 65 = .ok (.ireturn, 1) := by decide +kernel
theorem dX8_count_66 : decode cX8_count 66 = .ok (.aload_n 0, 1) := by decide +kernel
theorem dX8_count_67 : decode cX8_count 67 = .ok (.getfield 9, 3) := by decide +kernel
theorem dX8_count_70 : decode cX8_count 70 = .ok (.iconst 0, 1) := by decide +kernel
theorem dX8_count_71 : decode cX8_count 71 = .ok (.iaload, 1) := by decide +kernel
theorem dX8_count_72 : decode cX8_count 72 = .ok (.ireturn, 1) := by decide +kernel
theorem dX8_count_73 : decode cX8_count 73 = .ok (.aload_n 0, 1) := by decide +kernel
theorem dX8_count_74 : decode cX8_count 74 = .ok (.bipush 70, 2) := by decide +kernel
theorem dX8_count_76 : decode cX8_count 76 = .ok (.invokevirtual 209, 3) := by decide +kernel
theorem dX8_count_79 : decode cX8_count 79 = .ok (.ireturn, 1) := by decide +kernel
theorem dX8_count_80 : decode cX8_count 80 = .ok (.aload_n 0, 1) := by decide +kernel
theorem dX8_count_81 : decode cX8_count 81 = .ok (.sipush 134, 3) := by decide +kernel
theorem dX8_count_84 : decode cX8_count 84 = .ok (.invokevirtual 209, 3) := by decide +kernel
theorem dX8_count_87 : decode cX8_count 87 = .ok (.ireturn, 1) := by decide +kernel
theorem dX8_count_88 : decode cX8_count 88 = .ok (.aload_n 0, 1) := by decide +kernel
theorem dX8_count_89 : decode cX8_count 89 = .ok (.getfield 9, 3) := by decide +kernel
theorem dX8_count_92 : decode cX8_count 92 = .ok (.iconst 4, 1) := by decide +kernel
theorem dX8_count_93 : decode cX8_count 93 = .ok (.iaload, 1) := by decide +kernel
theorem dX8_count_94 : decode cX8_count 94 = .ok (.ireturn, 1) := by decide +kernel
theorem dX8_count_95 : decode cX8_count 95 = .ok (.aload_n 0, 1) := by decide +kernel
theorem dX8_count_96 : decode cX8_count 96 = .ok (.getfield 9, 3) := by decide +kernel
theorem dX8_count_99 : decode cX8_count 99 = .ok (.iconst 5, 1) := by decide +kernel
theorem dX8_count_100 : decode cX8_count 100 = .ok (.iaload, 1) := by decide +kernel
theorem dX8_count_101 : decode cX8_count 101 = .ok (.ireturn, 1) := by decide +kernel
theorem dX8_count_102 : decode cX8_count 102 = .ok (.aload_n 0, 1) := by decide +kernel
theorem dX8_count_103 : decode cX8_count 103 = .ok (.getfield 233, 3) := by decide +kernel
theorem dX8_count_106 : decode cX8_count 106 = .ok (.ireturn, 1) := by decide +kernel
theorem dX8_count_107 : decode cX8_count 107 = .ok (.aload_n 0, 1) := by decide +kernel
theorem dX8_count_108 : decode cX8_count 108 = .ok (.getfield 9, 3) := by decide +kernel
theorem dX8_count_111 : decode cX8_count 111 = .ok (.iconst 1, 1) := by decide +kernel
theorem dX8_count_112 : decode cX8_count 112 = .ok (.iaload, 1) := by decide +kernel
theorem dX8_count_113 : decode cX8_count 113 = .ok (.ireturn, 1) := by decide +kernel
theorem dX8_count_114 : decode cX8_count 114 = .ok (.aload_n 0, 1) := by decide +kernel
theorem dX8_count_115 : decode cX8_count 115 = .ok (.ldc 100, 2) := by decide +kernel
theorem dX8_count_117 : decode cX8_count 117 = .ok (.invokevirtual 101, 3) := by decide +kernel
theorem dX8_count_120 : decode cX8_count 120 = .ok (.ireturn, 1) := by decide +kernel
theorem dX8_told_0 : decode cX8_told 0 = .ok (.iload_n 1, 1) := by decide +kernel
theorem dX8_told_1 : decode cX8_told 1 = .ok (.iconst 1, 1) := by decide +kernel
theorem dX8_told_2 : decode cX8_told 2 = .ok (.bipush 6, 2) := by decide +kernel
theorem dX8_told_4 : decode cX8_told 4 = .ok (.invokestatic 51, 3) := by decide +kernel
theorem dX8_told_7 : decode cX8_told 7 = .ok (.ifCond .eq 12, 3) := by decide +kernel
theorem dX8_told_10 : decode cX8_told 10 = .ok (.aload_n 0, 1) := by decide +kernel
theorem dX8_told_11 : decode cX8_told 11 = .ok (.getfield 19, 3) := by decide +kernel
theorem dX8_told_14 : decode cX8_told 14 = .ok (.iload_n 1, 1) := by decide +kernel
theorem dX8_told_15 : decode cX8_told 15 = .ok (.iaload, 1) := by decide +kernel
theorem dX8_told_16 : decode cX8_told 16 = .ok (.goto 9, 3) := by decide +kernel
theorem dX8_told_19 : decode cX8_told 19 = .ok (.aload_n 0, 1) := by decide +kernel
theorem dX8_told_20 : decode cX8_told 20 = .ok (.ldc 100, 2) := by decide +kernel
theorem dX8_told_22 : decode cX8_told 22 = .ok (.invokevirtual 101, 3) := by decide +kernel
theorem dX8_told_25 : decode cX8_told 25 = .ok (.ireturn, 1) := by decide +kernel
end
section
theorem dL_law_0 : decode cL_law 0 = .ok (.new 7, 3) := by decide +kernel
theorem dL_law_3 : decode cL_law 3 = .ok (.dup, 1) := by decide +kernel
theorem dL_law_4 : decode cL_law 4 = .ok (.invokespecial 9, 3) := by decide +kernel
theorem dL_law_7 : decode cL_law 7 = .ok (.astore_n 1, 1) := by decide +kernel
theorem dL_law_8 : decode cL_law 8 = .ok (.new 10, 3) := by decide +kernel
theorem dL_law_11 : decode cL_law 11 = .ok (.dup, 1) := by decide +kernel
theorem dL_law_12 : decode cL_law 12 = .ok (.invokespecial 12, 3) := by decide +kernel
theorem dL_law_15 : decode cL_law 15 = .ok (.astore_n 2, 1) := by decide +kernel
theorem dL_law_16 : decode cL_law 16 = .ok (.iconst 0, 1) := by decide +kernel
theorem dL_law_17 : decode cL_law 17 = .ok (.istore_n 3, 1) := by decide +kernel
theorem dL_law_18 : decode cL_law 18 = .ok (.iload_n 3, 1) := by decide +kernel
theorem dL_law_19 : decode cL_law 19 = .ok (.aload_n 0, 1) := by decide +kernel
theorem dL_law_20 : decode cL_law 20 = .ok (.arraylength, 1) := by decide +kernel
theorem dL_law_21 : decode cL_law 21 = .ok (.bipush 6, 2) := by decide +kernel
theorem dL_law_23 : decode cL_law 23 = .ok (.isub, 1) := by decide +kernel
theorem dL_law_24 : decode cL_law 24 = .ok (.if_icmp .gt 1471, 3) := by decide +kernel
theorem dL_law_27 : decode cL_law 27 = .ok (.aload_n 0, 1) := by decide +kernel
theorem dL_law_28 : decode cL_law 28 = .ok (.iload_n 3, 1) := by decide +kernel
theorem dL_law_29 : decode cL_law 29 = .ok (.iaload, 1) := by decide +kernel
theorem dL_law_30 : decode cL_law 30 = .ok (.bipush 63, 2) := by decide +kernel
theorem dL_law_32 : decode cL_law 32 = .ok (.iand, 1) := by decide +kernel
theorem dL_law_33 : decode cL_law 33 = .ok (.tableswitch 1456 0 39 #[175, 208, 241, 274, 307, 340, 373, 406, 439, 462, 505, 528, 561, 594, 657, 680, 703, 756, 779, 802, 825, 859, 902, 935, 988, 1021, 1044, 1077, 1120, 1143, 1186, 1229, 1292, 1325, 1348, 1361, 1374, 1397, 1410, 1433], 175) := by decide +kernel
theorem dL_law_208 : decode cL_law 208 = .ok (.aload_n 1, 1) := by decide +kernel
theorem dL_law_209 : decode cL_law 209 = .ok (.aload_n 0, 1) := by decide +kernel
theorem dL_law_210 : decode cL_law 210 = .ok (.iload_n 3, 1) := by decide +kernel
theorem dL_law_211 : decode cL_law 211 = .ok (.iconst 1, 1) := by decide +kernel
theorem dL_law_212 : decode cL_law 212 = .ok (.iadd, 1) := by decide +kernel
theorem dL_law_213 : decode cL_law 213 = .ok (.iaload, 1) := by decide +kernel
theorem dL_law_214 : decode cL_law 214 = .ok (.aload_n 0, 1) := by decide +kernel
theorem dL_law_215 : decode cL_law 215 = .ok (.iload_n 3, 1) := by decide +kernel
theorem dL_law_216 : decode cL_law 216 = .ok (.iconst 2, 1) := by decide +kernel
theorem dL_law_217 : decode cL_law 217 = .ok (.iadd, 1) := by decide +kernel
theorem dL_law_218 : decode cL_law 218 = .ok (.iaload, 1) := by decide +kernel
theorem dL_law_219 : decode cL_law 219 = .ok (.invokevirtual 13, 3) := by decide +kernel
theorem dL_law_222 : decode cL_law 222 = .ok (.aload_n 2, 1) := by decide +kernel
theorem dL_law_223 : decode cL_law 223 = .ok (.aload_n 0, 1) := by decide +kernel
theorem dL_law_224 : decode cL_law 224 = .ok (.iload_n 3, 1) := by decide +kernel
theorem dL_law_225 : decode cL_law 225 = .ok (.iconst 1, 1) := by decide +kernel
theorem dL_law_226 : decode cL_law 226 = .ok (.iadd, 1) := by decide +kernel
theorem dL_law_227 : decode cL_law 227 = .ok (.iaload, 1) := by decide +kernel
theorem dL_law_228 : decode cL_law 228 = .ok (.aload_n 0, 1) := by decide +kernel
theorem dL_law_229 : decode cL_law 229 = .ok (.iload_n 3, 1) := by decide +kernel
theorem dL_law_230 : decode cL_law 230 = .ok (.iconst 2, 1) := by decide +kernel
theorem dL_law_231 : decode cL_law 231 = .ok (.iadd, 1) := by decide +kernel
theorem dL_law_232 : decode cL_law 232 = .ok (.iaload, 1) := by decide +kernel
theorem dL_law_233 : decode cL_law 233 = .ok (.invokevirtual 17, 3) := by decide +kernel
theorem dL_law_236 : decode cL_law 236 = .ok (.if_icmp .eq 1253, 3) := by decide +kernel
theorem dL_law_239 : decode cL_law 239 = .ok (.iconst 0, 1) := by decide +kernel
theorem dL_law_240 : decode cL_law 240 = .ok (.ireturn, 1) := by decide +kernel
theorem dL_law_241 : decode cL_law 241 = .ok (.aload_n 1, 1) := by decide +kernel
theorem dL_law_242 : decode cL_law 242 = .ok (.aload_n 0, 1) := by decide +kernel
theorem dL_law_243 : decode cL_law 243 = .ok (.iload_n 3, 1) := by decide +kernel
theorem dL_law_244 : decode cL_law 244 = .ok (.iconst 1, 1) := by decide +kernel
theorem dL_law_245 : decode cL_law 245 = .ok (.iadd, 1) := by decide +kernel
theorem dL_law_246 : decode cL_law 246 = .ok (.iaload, 1) := by decide +kernel
theorem dL_law_247 : decode cL_law 247 = .ok (.aload_n 0, 1) := by decide +kernel
theorem dL_law_248 : decode cL_law 248 = .ok (.iload_n 3, 1) := by decide +kernel
theorem dL_law_249 : decode cL_law 249 = .ok (.iconst 2, 1) := by decide +kernel
theorem dL_law_250 : decode cL_law 250 = .ok (.iadd, 1) := by decide +kernel
theorem dL_law_251 : decode cL_law 251 = .ok (.iaload, 1) := by decide +kernel
theorem dL_law_252 : decode cL_law 252 = .ok (.invokevirtual 18, 3) := by decide +kernel
theorem dL_law_255 : decode cL_law 255 = .ok (.aload_n 2, 1) := by decide +kernel
theorem dL_law_256 : decode cL_law 256 = .ok (.aload_n 0, 1) := by decide +kernel
theorem dL_law_257 : decode cL_law 257 = .ok (.iload_n 3, 1) := by decide +kernel
theorem dL_law_258 : decode cL_law 258 = .ok (.iconst 1, 1) := by decide +kernel
theorem dL_law_259 : decode cL_law 259 = .ok (.iadd, 1) := by decide +kernel
theorem dL_law_260 : decode cL_law 260 = .ok (.iaload, 1) := by decide +kernel
theorem dL_law_261 : decode cL_law 261 = .ok (.aload_n 0, 1) := by decide +kernel
theorem dL_law_262 : decode cL_law 262 = .ok (.iload_n 3, 1) := by decide +kernel
theorem dL_law_263 : decode cL_law 263 = .ok (.iconst 2, 1) := by decide +kernel
theorem dL_law_264 : decode cL_law 264 = .ok (.iadd, 1) := by decide +kernel
theorem dL_law_265 : decode cL_law 265 = .ok (.iaload, 1) := by decide +kernel
theorem dL_law_266 : decode cL_law 266 = .ok (.invokevirtual 21, 3) := by decide +kernel
theorem dL_law_269 : decode cL_law 269 = .ok (.if_icmp .eq 1220, 3) := by decide +kernel
theorem dL_law_272 : decode cL_law 272 = .ok (.iconst 0, 1) := by decide +kernel
theorem dL_law_273 : decode cL_law 273 = .ok (.ireturn, 1) := by decide +kernel
theorem dL_law_274 : decode cL_law 274 = .ok (.aload_n 1, 1) := by decide +kernel
theorem dL_law_275 : decode cL_law 275 = .ok (.aload_n 0, 1) := by decide +kernel
theorem dL_law_276 : decode cL_law 276 = .ok (.iload_n 3, 1) := by decide +kernel
theorem dL_law_277 : decode cL_law 277 = .ok (.iconst 1, 1) := by decide +kernel
theorem dL_law_278 : decode cL_law 278 = .ok (.iadd, 1) := by decide +kernel
theorem dL_law_279 : decode cL_law 279 = .ok (.iaload, 1) := by decide +kernel
theorem dL_law_280 : decode cL_law 280 = .ok (.aload_n 0, 1) := by decide +kernel
theorem dL_law_281 : decode cL_law 281 = .ok (.iload_n 3, 1) := by decide +kernel
theorem dL_law_282 : decode cL_law 282 = .ok (.iconst 2, 1) := by decide +kernel
theorem dL_law_283 : decode cL_law 283 = .ok (.iadd, 1) := by decide +kernel
theorem dL_law_284 : decode cL_law 284 = .ok (.iaload, 1) := by decide +kernel
theorem dL_law_285 : decode cL_law 285 = .ok (.invokevirtual 22, 3) := by decide +kernel
theorem dL_law_288 : decode cL_law 288 = .ok (.aload_n 2, 1) := by decide +kernel
theorem dL_law_289 : decode cL_law 289 = .ok (.aload_n 0, 1) := by decide +kernel
theorem dL_law_290 : decode cL_law 290 = .ok (.iload_n 3, 1) := by decide +kernel
theorem dL_law_291 : decode cL_law 291 = .ok (.iconst 1, 1) := by decide +kernel
theorem dL_law_292 : decode cL_law 292 = .ok (.iadd, 1) := by decide +kernel
theorem dL_law_293 : decode cL_law 293 = .ok (.iaload, 1) := by decide +kernel
theorem dL_law_294 : decode cL_law 294 = .ok (.aload_n 0, 1) := by decide +kernel
theorem dL_law_295 : decode cL_law 295 = .ok (.iload_n 3, 1) := by decide +kernel
theorem dL_law_296 : decode cL_law 296 = .ok (.iconst 2, 1) := by decide +kernel
theorem dL_law_297 : decode cL_law 297 = .ok (.iadd, 1) := by decide +kernel
theorem dL_law_298 : decode cL_law 298 = .ok (.iaload, 1) := by decide +kernel
theorem dL_law_299 : decode cL_law 299 = .ok (.invokevirtual 25, 3) := by decide +kernel
theorem dL_law_302 : decode cL_law 302 = .ok (.if_icmp .eq 1187, 3) := by decide +kernel
theorem dL_law_305 : decode cL_law 305 = .ok (.iconst 0, 1) := by decide +kernel
theorem dL_law_306 : decode cL_law 306 = .ok (.ireturn, 1) := by decide +kernel
theorem dL_law_307 : decode cL_law 307 = .ok (.aload_n 1, 1) := by decide +kernel
theorem dL_law_308 : decode cL_law 308 = .ok (.aload_n 0, 1) := by decide +kernel
theorem dL_law_309 : decode cL_law 309 = .ok (.iload_n 3, 1) := by decide +kernel
theorem dL_law_310 : decode cL_law 310 = .ok (.iconst 1, 1) := by decide +kernel
theorem dL_law_311 : decode cL_law 311 = .ok (.iadd, 1) := by decide +kernel
theorem dL_law_312 : decode cL_law 312 = .ok (.iaload, 1) := by decide +kernel
theorem dL_law_313 : decode cL_law 313 = .ok (.aload_n 0, 1) := by decide +kernel
theorem dL_law_314 : decode cL_law 314 = .ok (.iload_n 3, 1) := by decide +kernel
theorem dL_law_315 : decode cL_law 315 = .ok (.iconst 2, 1) := by decide +kernel
theorem dL_law_316 : decode cL_law 316 = .ok (.iadd, 1) := by decide +kernel
theorem dL_law_317 : decode cL_law 317 = .ok (.iaload, 1) := by decide +kernel
theorem dL_law_318 : decode cL_law 318 = .ok (.invokevirtual 26, 3) := by decide +kernel
theorem dL_law_321 : decode cL_law 321 = .ok (.aload_n 2, 1) := by decide +kernel
theorem dL_law_322 : decode cL_law 322 = .ok (.aload_n 0, 1) := by decide +kernel
theorem dL_law_323 : decode cL_law 323 = .ok (.iload_n 3, 1) := by decide +kernel
theorem dL_law_324 : decode cL_law 324 = .ok (.iconst 1, 1) := by decide +kernel
theorem dL_law_325 : decode cL_law 325 = .ok (.iadd, 1) := by decide +kernel
theorem dL_law_326 : decode cL_law 326 = .ok (.iaload, 1) := by decide +kernel
theorem dL_law_327 : decode cL_law 327 = .ok (.aload_n 0, 1) := by decide +kernel
theorem dL_law_328 : decode cL_law 328 = .ok (.iload_n 3, 1) := by decide +kernel
theorem dL_law_329 : decode cL_law 329 = .ok (.iconst 2, 1) := by decide +kernel
theorem dL_law_330 : decode cL_law 330 = .ok (.iadd, 1) := by decide +kernel
theorem dL_law_331 : decode cL_law 331 = .ok (.iaload, 1) := by decide +kernel
theorem dL_law_332 : decode cL_law 332 = .ok (.invokevirtual 29, 3) := by decide +kernel
theorem dL_law_335 : decode cL_law 335 = .ok (.if_icmp .eq 1154, 3) := by decide +kernel
theorem dL_law_338 : decode cL_law 338 = .ok (.iconst 0, 1) := by decide +kernel
theorem dL_law_339 : decode cL_law 339 = .ok (.ireturn, 1) := by decide +kernel
theorem dL_law_340 : decode cL_law 340 = .ok (.aload_n 1, 1) := by decide +kernel
theorem dL_law_341 : decode cL_law 341 = .ok (.aload_n 0, 1) := by decide +kernel
theorem dL_law_342 : decode cL_law 342 = .ok (.iload_n 3, 1) := by decide +kernel
theorem dL_law_343 : decode cL_law 343 = .ok (.iconst 1, 1) := by decide +kernel
theorem dL_law_344 : decode cL_law 344 = .ok (.iadd, 1) := by decide +kernel
theorem dL_law_345 : decode cL_law 345 = .ok (.iaload, 1) := by decide +kernel
theorem dL_law_346 : decode cL_law 346 = .ok (.aload_n 0, 1) := by decide +kernel
theorem dL_law_347 : decode cL_law 347 = .ok (.iload_n 3, 1) := by decide +kernel
theorem dL_law_348 : decode cL_law 348 = .ok (.iconst 2, 1) := by decide +kernel
theorem dL_law_349 : decode cL_law 349 = .ok (.iadd, 1) := by decide +kernel
theorem dL_law_350 : decode cL_law 350 = .ok (.iaload, 1) := by decide +kernel
theorem dL_law_351 : decode cL_law 351 = .ok (.invokevirtual 30, 3) := by decide +kernel
theorem dL_law_354 : decode cL_law 354 = .ok (.aload_n 2, 1) := by decide +kernel
theorem dL_law_355 : decode cL_law 355 = .ok (.aload_n 0, 1) := by decide +kernel
theorem dL_law_356 : decode cL_law 356 = .ok (.iload_n 3, 1) := by decide +kernel
theorem dL_law_357 : decode cL_law 357 = .ok (.iconst 1, 1) := by decide +kernel
theorem dL_law_358 : decode cL_law 358 = .ok (.iadd, 1) := by decide +kernel
theorem dL_law_359 : decode cL_law 359 = .ok (.iaload, 1) := by decide +kernel
theorem dL_law_360 : decode cL_law 360 = .ok (.aload_n 0, 1) := by decide +kernel
theorem dL_law_361 : decode cL_law 361 = .ok (.iload_n 3, 1) := by decide +kernel
theorem dL_law_362 : decode cL_law 362 = .ok (.iconst 2, 1) := by decide +kernel
theorem dL_law_363 : decode cL_law 363 = .ok (.iadd, 1) := by decide +kernel
theorem dL_law_364 : decode cL_law 364 = .ok (.iaload, 1) := by decide +kernel
theorem dL_law_365 : decode cL_law 365 = .ok (.invokevirtual 33, 3) := by decide +kernel
theorem dL_law_368 : decode cL_law 368 = .ok (.if_icmp .eq 1121, 3) := by decide +kernel
theorem dL_law_371 : decode cL_law 371 = .ok (.iconst 0, 1) := by decide +kernel
theorem dL_law_372 : decode cL_law 372 = .ok (.ireturn, 1) := by decide +kernel
theorem dL_law_373 : decode cL_law 373 = .ok (.aload_n 1, 1) := by decide +kernel
theorem dL_law_374 : decode cL_law 374 = .ok (.aload_n 0, 1) := by decide +kernel
theorem dL_law_375 : decode cL_law 375 = .ok (.iload_n 3, 1) := by decide +kernel
theorem dL_law_376 : decode cL_law 376 = .ok (.iconst 1, 1) := by decide +kernel
theorem dL_law_377 : decode cL_law 377 = .ok (.iadd, 1) := by decide +kernel
theorem dL_law_378 : decode cL_law 378 = .ok (.iaload, 1) := by decide +kernel
theorem dL_law_379 : decode cL_law 379 = .ok (.aload_n 0, 1) := by decide +kernel
theorem dL_law_380 : decode cL_law 380 = .ok (.iload_n 3, 1) := by decide +kernel
theorem dL_law_381 : decode cL_law 381 = .ok (.iconst 2, 1) := by decide +kernel
theorem dL_law_382 : decode cL_law 382 = .ok (.iadd, 1) := by decide +kernel
theorem dL_law_383 : decode cL_law 383 = .ok (.iaload, 1) := by decide +kernel
theorem dL_law_384 : decode cL_law 384 = .ok (.invokevirtual 34, 3) := by decide +kernel
theorem dL_law_387 : decode cL_law 387 = .ok (.aload_n 2, 1) := by decide +kernel
theorem dL_law_388 : decode cL_law 388 = .ok (.aload_n 0, 1) := by decide +kernel
theorem dL_law_389 : decode cL_law 389 = .ok (.iload_n 3, 1) := by decide +kernel
theorem dL_law_390 : decode cL_law 390 = .ok (.iconst 1, 1) := by decide +kernel
theorem dL_law_391 : decode cL_law 391 = .ok (.iadd, 1) := by decide +kernel
theorem dL_law_392 : decode cL_law 392 = .ok (.iaload, 1) := by decide +kernel
theorem dL_law_393 : decode cL_law 393 = .ok (.aload_n 0, 1) := by decide +kernel
theorem dL_law_394 : decode cL_law 394 = .ok (.iload_n 3, 1) := by decide +kernel
theorem dL_law_395 : decode cL_law 395 = .ok (.iconst 2, 1) := by decide +kernel
theorem dL_law_396 : decode cL_law 396 = .ok (.iadd, 1) := by decide +kernel
theorem dL_law_397 : decode cL_law 397 = .ok (.iaload, 1) := by decide +kernel
theorem dL_law_398 : decode cL_law 398 = .ok (.invokevirtual 37, 3) := by decide +kernel
theorem dL_law_401 : decode cL_law 401 = .ok (.if_icmp .eq 1088, 3) := by decide +kernel
theorem dL_law_404 : decode cL_law 404 = .ok (.iconst 0, 1) := by decide +kernel
theorem dL_law_405 : decode cL_law 405 = .ok (.ireturn, 1) := by decide +kernel
theorem dL_law_406 : decode cL_law 406 = .ok (.aload_n 1, 1) := by decide +kernel
theorem dL_law_407 : decode cL_law 407 = .ok (.aload_n 0, 1) := by decide +kernel
theorem dL_law_408 : decode cL_law 408 = .ok (.iload_n 3, 1) := by decide +kernel
theorem dL_law_409 : decode cL_law 409 = .ok (.iconst 1, 1) := by decide +kernel
theorem dL_law_410 : decode cL_law 410 = .ok (.iadd, 1) := by decide +kernel
theorem dL_law_411 : decode cL_law 411 = .ok (.iaload, 1) := by decide +kernel
theorem dL_law_412 : decode cL_law 412 = .ok (.aload_n 0, 1) := by decide +kernel
theorem dL_law_413 : decode cL_law 413 = .ok (.iload_n 3, 1) := by decide +kernel
theorem dL_law_414 : decode cL_law 414 = .ok (.iconst 2, 1) := by decide +kernel
theorem dL_law_415 : decode cL_law 415 = .ok (.iadd, 1) := by decide +kernel
theorem dL_law_416 : decode cL_law 416 = .ok (.iaload, 1) := by decide +kernel
theorem dL_law_417 : decode cL_law 417 = .ok (.invokevirtual 38, 3) := by decide +kernel
theorem dL_law_420 : decode cL_law 420 = .ok (.aload_n 2, 1) := by decide +kernel
theorem dL_law_421 : decode cL_law 421 = .ok (.aload_n 0, 1) := by decide +kernel
theorem dL_law_422 : decode cL_law 422 = .ok (.iload_n 3, 1) := by decide +kernel
theorem dL_law_423 : decode cL_law 423 = .ok (.iconst 1, 1) := by decide +kernel
theorem dL_law_424 : decode cL_law 424 = .ok (.iadd, 1) := by decide +kernel
theorem dL_law_425 : decode cL_law 425 = .ok (.iaload, 1) := by decide +kernel
theorem dL_law_426 : decode cL_law 426 = .ok (.aload_n 0, 1) := by decide +kernel
theorem dL_law_427 : decode cL_law 427 = .ok (.iload_n 3, 1) := by decide +kernel
theorem dL_law_428 : decode cL_law 428 = .ok (.iconst 2, 1) := by decide +kernel
theorem dL_law_429 : decode cL_law 429 = .ok (.iadd, 1) := by decide +kernel
theorem dL_law_430 : decode cL_law 430 = .ok (.iaload, 1) := by decide +kernel
theorem dL_law_431 : decode cL_law 431 = .ok (.invokevirtual 41, 3) := by decide +kernel
theorem dL_law_434 : decode cL_law 434 = .ok (.if_icmp .eq 1055, 3) := by decide +kernel
theorem dL_law_437 : decode cL_law 437 = .ok (.iconst 0, 1) := by decide +kernel
theorem dL_law_438 : decode cL_law 438 = .ok (.ireturn, 1) := by decide +kernel
theorem dL_law_439 : decode cL_law 439 = .ok (.aload_n 1, 1) := by decide +kernel
theorem dL_law_440 : decode cL_law 440 = .ok (.aload_n 0, 1) := by decide +kernel
theorem dL_law_441 : decode cL_law 441 = .ok (.iload_n 3, 1) := by decide +kernel
theorem dL_law_442 : decode cL_law 442 = .ok (.iconst 1, 1) := by decide +kernel
theorem dL_law_443 : decode cL_law 443 = .ok (.iadd, 1) := by decide +kernel
theorem dL_law_444 : decode cL_law 444 = .ok (.iaload, 1) := by decide +kernel
theorem dL_law_445 : decode cL_law 445 = .ok (.aload_n 0, 1) := by decide +kernel
theorem dL_law_446 : decode cL_law 446 = .ok (.iload_n 3, 1) := by decide +kernel
theorem dL_law_447 : decode cL_law 447 = .ok (.iconst 2, 1) := by decide +kernel
theorem dL_law_448 : decode cL_law 448 = .ok (.iadd, 1) := by decide +kernel
theorem dL_law_449 : decode cL_law 449 = .ok (.iaload, 1) := by decide +kernel
theorem dL_law_450 : decode cL_law 450 = .ok (.invokevirtual 42, 3) := by decide +kernel
theorem dL_law_453 : decode cL_law 453 = .ok (.aload_n 2, 1) := by decide +kernel
theorem dL_law_454 : decode cL_law 454 = .ok (.aload_n 0, 1) := by decide +kernel
theorem dL_law_455 : decode cL_law 455 = .ok (.iload_n 3, 1) := by decide +kernel
theorem dL_law_456 : decode cL_law 456 = .ok (.iconst 1, 1) := by decide +kernel
theorem dL_law_457 : decode cL_law 457 = .ok (.iadd, 1) := by decide +kernel
theorem dL_law_458 : decode cL_law 458 = .ok (.iaload, 1) := by decide +kernel
theorem dL_law_459 : decode cL_law 459 = .ok (.aload_n 0, 1) := by decide +kernel
theorem dL_law_460 : decode cL_law 460 = .ok (.iload_n 3, 1) := by decide +kernel
theorem dL_law_461 : decode cL_law 461 = .ok (.iconst 2, 1) := by decide +kernel
theorem dL_law_462 : decode cL_law 462 = .ok (.iadd, 1) := by decide +kernel
theorem dL_law_463 : decode cL_law 463 = .ok (.iaload, 1) := by decide +kernel
theorem dL_law_464 : decode cL_law 464 = .ok (.invokevirtual 45, 3) := by decide +kernel
theorem dL_law_467 : decode cL_law 467 = .ok (.if_icmp .eq 1022, 3) := by decide +kernel
theorem dL_law_470 : decode cL_law 470 = .ok (.iconst 0, 1) := by decide +kernel
theorem dL_law_471 : decode cL_law 471 = .ok (.ireturn, 1) := by decide +kernel
theorem dL_law_472 : decode cL_law 472 = .ok (.aload_n 1, 1) := by decide +kernel
theorem dL_law_473 : decode cL_law 473 = .ok (.aload_n 0, 1) := by decide +kernel
theorem dL_law_474 : decode cL_law 474 = .ok (.iload_n 3, 1) := by decide +kernel
theorem dL_law_475 : decode cL_law 475 = .ok (.iconst 1, 1) := by decide +kernel
theorem dL_law_476 : decode cL_law 476 = .ok (.iadd, 1) := by decide +kernel
theorem dL_law_477 : decode cL_law 477 = .ok (.iaload, 1) := by decide +kernel
theorem dL_law_478 : decode cL_law 478 = .ok (.invokevirtual 46, 3) := by decide +kernel
theorem dL_law_481 : decode cL_law 481 = .ok (.aload_n 2, 1) := by decide +kernel
theorem dL_law_482 : decode cL_law 482 = .ok (.aload_n 0, 1) := by decide +kernel
theorem dL_law_483 : decode cL_law 483 = .ok (.iload_n 3, 1) := by decide +kernel
theorem dL_law_484 : decode cL_law 484 = .ok (.iconst 1, 1) := by decide +kernel
theorem dL_law_485 : decode cL_law 485 = .ok (.iadd, 1) := by decide +kernel
theorem dL_law_486 : decode cL_law 486 = .ok (.iaload, 1) := by decide +kernel
theorem dL_law_487 : decode cL_law 487 = .ok (.invokevirtual 50, 3) := by decide +kernel
theorem dL_law_490 : decode cL_law 490 = .ok (.if_icmp .eq 999, 3) := by decide +kernel
theorem dL_law_493 : decode cL_law 493 = .ok (.iconst 0, 1) := by decide +kernel
theorem dL_law_494 : decode cL_law 494 = .ok (.ireturn, 1) := by decide +kernel
theorem dL_law_495 : decode cL_law 495 = .ok (.aload_n 1, 1) := by decide +kernel
theorem dL_law_496 : decode cL_law 496 = .ok (.aload_n 0, 1) := by decide +kernel
theorem dL_law_497 : decode cL_law 497 = .ok (.iload_n 3, 1) := by decide +kernel
theorem dL_law_498 : decode cL_law 498 = .ok (.iconst 1, 1) := by decide +kernel
theorem dL_law_499 : decode cL_law 499 = .ok (.iadd, 1) := by decide +kernel
theorem dL_law_500 : decode cL_law 500 = .ok (.iaload, 1) := by decide +kernel
theorem dL_law_501 : decode cL_law 501 = .ok (.aload_n 0, 1) := by decide +kernel
theorem dL_law_502 : decode cL_law 502 = .ok (.iload_n 3, 1) := by decide +kernel
theorem dL_law_503 : decode cL_law 503 = .ok (.iconst 2, 1) := by decide +kernel
theorem dL_law_504 : decode cL_law 504 = .ok (.iadd, 1) := by decide +kernel
theorem dL_law_505 : decode cL_law 505 = .ok (.iaload, 1) := by decide +kernel
theorem dL_law_506 : decode cL_law 506 = .ok (.aload_n 0, 1) := by decide +kernel
theorem dL_law_507 : decode cL_law 507 = .ok (.iload_n 3, 1) := by decide +kernel
theorem dL_law_508 : decode cL_law 508 = .ok (.iconst 3, 1) := by decide +kernel
theorem dL_law_509 : decode cL_law 509 = .ok (.iadd, 1) := by decide +kernel
theorem dL_law_510 : decode cL_law 510 = .ok (.iaload, 1) := by decide +kernel
theorem dL_law_511 : decode cL_law 511 = .ok (.invokevirtual 51, 3) := by decide +kernel
theorem dL_law_514 : decode cL_law 514 = .ok (.aload_n 2, 1) := by decide +kernel
theorem dL_law_515 : decode cL_law 515 = .ok (.aload_n 0, 1) := by decide +kernel
theorem dL_law_516 : decode cL_law 516 = .ok (.iload_n 3, 1) := by decide +kernel
theorem dL_law_517 : decode cL_law 517 = .ok (.iconst 1, 1) := by decide +kernel
theorem dL_law_518 : decode cL_law 518 = .ok (.iadd, 1) := by decide +kernel
theorem dL_law_519 : decode cL_law 519 = .ok (.iaload, 1) := by decide +kernel
theorem dL_law_520 : decode cL_law 520 = .ok (.aload_n 0, 1) := by decide +kernel
theorem dL_law_521 : decode cL_law 521 = .ok (.iload_n 3, 1) := by decide +kernel
theorem dL_law_522 : decode cL_law 522 = .ok (.iconst 2, 1) := by decide +kernel
theorem dL_law_523 : decode cL_law 523 = .ok (.iadd, 1) := by decide +kernel
theorem dL_law_524 : decode cL_law 524 = .ok (.iaload, 1) := by decide +kernel
theorem dL_law_525 : decode cL_law 525 = .ok (.aload_n 0, 1) := by decide +kernel
theorem dL_law_526 : decode cL_law 526 = .ok (.iload_n 3, 1) := by decide +kernel
theorem dL_law_527 : decode cL_law 527 = .ok (.iconst 3, 1) := by decide +kernel
theorem dL_law_528 : decode cL_law 528 = .ok (.iadd, 1) := by decide +kernel
theorem dL_law_529 : decode cL_law 529 = .ok (.iaload, 1) := by decide +kernel
theorem dL_law_530 : decode cL_law 530 = .ok (.invokevirtual 55, 3) := by decide +kernel
theorem dL_law_533 : decode cL_law 533 = .ok (.if_icmp .eq 956, 3) := by decide +kernel
theorem dL_law_536 : decode cL_law 536 = .ok (.iconst 0, 1) := by decide +kernel
theorem dL_law_537 : decode cL_law 537 = .ok (.ireturn, 1) := by decide +kernel
theorem dL_law_538 : decode cL_law 538 = .ok (.aload_n 1, 1) := by decide +kernel
theorem dL_law_539 : decode cL_law 539 = .ok (.aload_n 0, 1) := by decide +kernel
theorem dL_law_540 : decode cL_law 540 = .ok (.iload_n 3, 1) := by decide +kernel
theorem dL_law_541 : decode cL_law 541 = .ok (.iconst 1, 1) := by decide +kernel
theorem dL_law_542 : decode cL_law 542 = .ok (.iadd, 1) := by decide +kernel
theorem dL_law_543 : decode cL_law 543 = .ok (.iaload, 1) := by decide +kernel
theorem dL_law_544 : decode cL_law 544 = .ok (.invokevirtual 56, 3) := by decide +kernel
theorem dL_law_547 : decode cL_law 547 = .ok (.aload_n 2, 1) := by decide +kernel
theorem dL_law_548 : decode cL_law 548 = .ok (.aload_n 0, 1) := by decide +kernel
theorem dL_law_549 : decode cL_law 549 = .ok (.iload_n 3, 1) := by decide +kernel
theorem dL_law_550 : decode cL_law 550 = .ok (.iconst 1, 1) := by decide +kernel
theorem dL_law_551 : decode cL_law 551 = .ok (.iadd, 1) := by decide +kernel
theorem dL_law_552 : decode cL_law 552 = .ok (.iaload, 1) := by decide +kernel
theorem dL_law_553 : decode cL_law 553 = .ok (.invokevirtual 59, 3) := by decide +kernel
theorem dL_law_556 : decode cL_law 556 = .ok (.if_icmp .eq 933, 3) := by decide +kernel
theorem dL_law_559 : decode cL_law 559 = .ok (.iconst 0, 1) := by decide +kernel
theorem dL_law_560 : decode cL_law 560 = .ok (.ireturn, 1) := by decide +kernel
theorem dL_law_561 : decode cL_law 561 = .ok (.aload_n 1, 1) := by decide +kernel
theorem dL_law_562 : decode cL_law 562 = .ok (.aload_n 0, 1) := by decide +kernel
theorem dL_law_563 : decode cL_law 563 = .ok (.iload_n 3, 1) := by decide +kernel
theorem dL_law_564 : decode cL_law 564 = .ok (.iconst 1, 1) := by decide +kernel
theorem dL_law_565 : decode cL_law 565 = .ok (.iadd, 1) := by decide +kernel
theorem dL_law_566 : decode cL_law 566 = .ok (.iaload, 1) := by decide +kernel
theorem dL_law_567 : decode cL_law 567 = .ok (.aload_n 0, 1) := by decide +kernel
theorem dL_law_568 : decode cL_law 568 = .ok (.iload_n 3, 1) := by decide +kernel
theorem dL_law_569 : decode cL_law 569 = .ok (.iconst 2, 1) := by decide +kernel
theorem dL_law_570 : decode cL_law 570 = .ok (.iadd, 1) := by decide +kernel
theorem dL_law_571 : decode cL_law 571 = .ok (.iaload, 1) := by decide +kernel
theorem dL_law_572 : decode cL_law 572 = .ok (.invokevirtual 60, 3) := by decide +kernel
theorem dL_law_575 : decode cL_law 575 = .ok (.aload_n 2, 1) := by decide +kernel
theorem dL_law_576 : decode cL_law 576 = .ok (.aload_n 0, 1) := by decide +kernel
theorem dL_law_577 : decode cL_law 577 = .ok (.iload_n 3, 1) := by decide +kernel
theorem dL_law_578 : decode cL_law 578 = .ok (.iconst 1, 1) := by decide +kernel
theorem dL_law_579 : decode cL_law 579 = .ok (.iadd, 1) := by decide +kernel
theorem dL_law_580 : decode cL_law 580 = .ok (.iaload, 1) := by decide +kernel
theorem dL_law_581 : decode cL_law 581 = .ok (.aload_n 0, 1) := by decide +kernel
theorem dL_law_582 : decode cL_law 582 = .ok (.iload_n 3, 1) := by decide +kernel
theorem dL_law_583 : decode cL_law 583 = .ok (.iconst 2, 1) := by decide +kernel
theorem dL_law_584 : decode cL_law 584 = .ok (.iadd, 1) := by decide +kernel
theorem dL_law_585 : decode cL_law 585 = .ok (.iaload, 1) := by decide +kernel
theorem dL_law_586 : decode cL_law 586 = .ok (.invokevirtual 63, 3) := by decide +kernel
theorem dL_law_589 : decode cL_law 589 = .ok (.if_icmp .eq 900, 3) := by decide +kernel
theorem dL_law_592 : decode cL_law 592 = .ok (.iconst 0, 1) := by decide +kernel
theorem dL_law_593 : decode cL_law 593 = .ok (.ireturn, 1) := by decide +kernel
theorem dL_law_594 : decode cL_law 594 = .ok (.aload_n 1, 1) := by decide +kernel
theorem dL_law_595 : decode cL_law 595 = .ok (.aload_n 0, 1) := by decide +kernel
theorem dL_law_596 : decode cL_law 596 = .ok (.iload_n 3, 1) := by decide +kernel
theorem dL_law_597 : decode cL_law 597 = .ok (.iconst 1, 1) := by decide +kernel
theorem dL_law_598 : decode cL_law 598 = .ok (.iadd, 1) := by decide +kernel
theorem dL_law_599 : decode cL_law 599 = .ok (.iaload, 1) := by decide +kernel
theorem dL_law_600 : decode cL_law 600 = .ok (.aload_n 0, 1) := by decide +kernel
theorem dL_law_601 : decode cL_law 601 = .ok (.iload_n 3, 1) := by decide +kernel
theorem dL_law_602 : decode cL_law 602 = .ok (.iconst 2, 1) := by decide +kernel
theorem dL_law_603 : decode cL_law 603 = .ok (.iadd, 1) := by decide +kernel
theorem dL_law_604 : decode cL_law 604 = .ok (.iaload, 1) := by decide +kernel
theorem dL_law_605 : decode cL_law 605 = .ok (.invokevirtual 64, 3) := by decide +kernel
theorem dL_law_608 : decode cL_law 608 = .ok (.aload_n 2, 1) := by decide +kernel
theorem dL_law_609 : decode cL_law 609 = .ok (.aload_n 0, 1) := by decide +kernel
theorem dL_law_610 : decode cL_law 610 = .ok (.iload_n 3, 1) := by decide +kernel
theorem dL_law_611 : decode cL_law 611 = .ok (.iconst 1, 1) := by decide +kernel
theorem dL_law_612 : decode cL_law 612 = .ok (.iadd, 1) := by decide +kernel
theorem dL_law_613 : decode cL_law 613 = .ok (.iaload, 1) := by decide +kernel
theorem dL_law_614 : decode cL_law 614 = .ok (.aload_n 0, 1) := by decide +kernel
theorem dL_law_615 : decode cL_law 615 = .ok (.iload_n 3, 1) := by decide +kernel
theorem dL_law_616 : decode cL_law 616 = .ok (.iconst 2, 1) := by decide +kernel
theorem dL_law_617 : decode cL_law 617 = .ok (.iadd, 1) := by decide +kernel
theorem dL_law_618 : decode cL_law 618 = .ok (.iaload, 1) := by decide +kernel
theorem dL_law_619 : decode cL_law 619 = .ok (.invokevirtual 67, 3) := by decide +kernel
theorem dL_law_622 : decode cL_law 622 = .ok (.if_icmp .eq 867, 3) := by decide +kernel
theorem dL_law_625 : decode cL_law 625 = .ok (.iconst 0, 1) := by decide +kernel
theorem dL_law_626 : decode cL_law 626 = .ok (.ireturn, 1) := by decide +kernel
theorem dL_law_627 : decode cL_law 627 = .ok (.aload_n 1, 1) := by decide +kernel
theorem dL_law_628 : decode cL_law 628 = .ok (.aload_n 0, 1) := by decide +kernel
theorem dL_law_629 : decode cL_law 629 = .ok (.iload_n 3, 1) := by decide +kernel
theorem dL_law_630 : decode cL_law 630 = .ok (.iconst 1, 1) := by decide +kernel
theorem dL_law_631 : decode cL_law 631 = .ok (.iadd, 1) := by decide +kernel
theorem dL_law_632 : decode cL_law 632 = .ok (.iaload, 1) := by decide +kernel
theorem dL_law_633 : decode cL_law 633 = .ok (.i2l, 1) := by decide +kernel
theorem dL_law_634 : decode cL_law 634 = .ok (.bipush 32, 2) := by decide +kernel
theorem dL_law_636 : decode cL_law 636 = .ok (.lshl, 1) := by decide +kernel
theorem dL_law_637 : decode cL_law 637 = .ok (.aload_n 0, 1) := by decide +kernel
theorem dL_law_638 : decode cL_law 638 = .ok (.iload_n 3, 1) := by decide +kernel
theorem dL_law_639 : decode cL_law 639 = .ok (.iconst 2, 1) := by decide +kernel
theorem dL_law_640 : decode cL_law 640 = .ok (.iadd, 1) := by decide +kernel
theorem dL_law_641 : decode cL_law 641 = .ok (.iaload, 1) := by decide +kernel
theorem dL_law_642 : decode cL_law 642 = .ok (.i2l, 1) := by decide +kernel
theorem dL_law_643 : decode cL_law 643 = .ok (.ldc2_w 68, 3) := by decide +kernel
theorem dL_law_646 : decode cL_law 646 = .ok (.land, 1) := by decide +kernel
theorem dL_law_647 : decode cL_law 647 = .ok (.lor, 1) := by decide +kernel
theorem dL_law_648 : decode cL_law 648 = .ok (.aload_n 0, 1) := by decide +kernel
theorem dL_law_649 : decode cL_law 649 = .ok (.iload_n 3, 1) := by decide +kernel
theorem dL_law_650 : decode cL_law 650 = .ok (.iconst 3, 1) := by decide +kernel
theorem dL_law_651 : decode cL_law 651 = .ok (.iadd, 1) := by decide +kernel
theorem dL_law_652 : decode cL_law 652 = .ok (.iaload, 1) := by decide +kernel
theorem dL_law_653 : decode cL_law 653 = .ok (.invokevirtual 70, 3) := by decide +kernel
theorem dL_law_656 : decode cL_law 656 = .ok (.aload_n 2, 1) := by decide +kernel
theorem dL_law_657 : decode cL_law 657 = .ok (.aload_n 0, 1) := by decide +kernel
theorem dL_law_658 : decode cL_law 658 = .ok (.iload_n 3, 1) := by decide +kernel
theorem dL_law_659 : decode cL_law 659 = .ok (.iconst 1, 1) := by decide +kernel
theorem dL_law_660 : decode cL_law 660 = .ok (.iadd, 1) := by decide +kernel
theorem dL_law_661 : decode cL_law 661 = .ok (.iaload, 1) := by decide +kernel
theorem dL_law_662 : decode cL_law 662 = .ok (.i2l, 1) := by decide +kernel
theorem dL_law_663 : decode cL_law 663 = .ok (.bipush 32, 2) := by decide +kernel
theorem dL_law_665 : decode cL_law 665 = .ok (.lshl, 1) := by decide +kernel
theorem dL_law_666 : decode cL_law 666 = .ok (.aload_n 0, 1) := by decide +kernel
theorem dL_law_667 : decode cL_law 667 = .ok (.iload_n 3, 1) := by decide +kernel
theorem dL_law_668 : decode cL_law 668 = .ok (.iconst 2, 1) := by decide +kernel
theorem dL_law_669 : decode cL_law 669 = .ok (.iadd, 1) := by decide +kernel
theorem dL_law_670 : decode cL_law 670 = .ok (.iaload, 1) := by decide +kernel
theorem dL_law_671 : decode cL_law 671 = .ok (.i2l, 1) := by decide +kernel
theorem dL_law_672 : decode cL_law 672 = .ok (.ldc2_w 68, 3) := by decide +kernel
theorem dL_law_675 : decode cL_law 675 = .ok (.land, 1) := by decide +kernel
theorem dL_law_676 : decode cL_law 676 = .ok (.lor, 1) := by decide +kernel
theorem dL_law_677 : decode cL_law 677 = .ok (.aload_n 0, 1) := by decide +kernel
theorem dL_law_678 : decode cL_law 678 = .ok (.iload_n 3, 1) := by decide +kernel
theorem dL_law_679 : decode cL_law 679 = .ok (.iconst 3, 1) := by decide +kernel
theorem dL_law_680 : decode cL_law 680 = .ok (.iadd, 1) := by decide +kernel
theorem dL_law_681 : decode cL_law 681 = .ok (.iaload, 1) := by decide +kernel
theorem dL_law_682 : decode cL_law 682 = .ok (.invokevirtual 74, 3) := by decide +kernel
theorem dL_law_685 : decode cL_law 685 = .ok (.if_icmp .eq 804, 3) := by decide +kernel
theorem dL_law_688 : decode cL_law 688 = .ok (.iconst 0, 1) := by decide +kernel
theorem dL_law_689 : decode cL_law 689 = .ok (.ireturn, 1) := by decide +kernel
theorem dL_law_690 : decode cL_law 690 = .ok (.aload_n 1, 1) := by decide +kernel
theorem dL_law_691 : decode cL_law 691 = .ok (.aload_n 0, 1) := by decide +kernel
theorem dL_law_692 : decode cL_law 692 = .ok (.iload_n 3, 1) := by decide +kernel
theorem dL_law_693 : decode cL_law 693 = .ok (.iconst 1, 1) := by decide +kernel
theorem dL_law_694 : decode cL_law 694 = .ok (.iadd, 1) := by decide +kernel
theorem dL_law_695 : decode cL_law 695 = .ok (.iaload, 1) := by decide +kernel
theorem dL_law_696 : decode cL_law 696 = .ok (.invokevirtual 75, 3) := by decide +kernel
theorem dL_law_699 : decode cL_law 699 = .ok (.aload_n 2, 1) := by decide +kernel
theorem dL_law_700 : decode cL_law 700 = .ok (.aload_n 0, 1) := by decide +kernel
theorem dL_law_701 : decode cL_law 701 = .ok (.iload_n 3, 1) := by decide +kernel
theorem dL_law_702 : decode cL_law 702 = .ok (.iconst 1, 1) := by decide +kernel
theorem dL_law_703 : decode cL_law 703 = .ok (.iadd, 1) := by decide +kernel
theorem dL_law_704 : decode cL_law 704 = .ok (.iaload, 1) := by decide +kernel
theorem dL_law_705 : decode cL_law 705 = .ok (.invokevirtual 78, 3) := by decide +kernel
theorem dL_law_708 : decode cL_law 708 = .ok (.if_icmp .eq 781, 3) := by decide +kernel
theorem dL_law_711 : decode cL_law 711 = .ok (.iconst 0, 1) := by decide +kernel
theorem dL_law_712 : decode cL_law 712 = .ok (.ireturn, 1) := by decide +kernel
theorem dL_law_713 : decode cL_law 713 = .ok (.aload_n 1, 1) := by decide +kernel
theorem dL_law_714 : decode cL_law 714 = .ok (.aload_n 0, 1) := by decide +kernel
theorem dL_law_715 : decode cL_law 715 = .ok (.iload_n 3, 1) := by decide +kernel
theorem dL_law_716 : decode cL_law 716 = .ok (.iconst 1, 1) := by decide +kernel
theorem dL_law_717 : decode cL_law 717 = .ok (.iadd, 1) := by decide +kernel
theorem dL_law_718 : decode cL_law 718 = .ok (.iaload, 1) := by decide +kernel
theorem dL_law_719 : decode cL_law 719 = .ok (.invokevirtual 79, 3) := by decide +kernel
theorem dL_law_722 : decode cL_law 722 = .ok (.aload_n 2, 1) := by decide +kernel
theorem dL_law_723 : decode cL_law 723 = .ok (.aload_n 0, 1) := by decide +kernel
theorem dL_law_724 : decode cL_law 724 = .ok (.iload_n 3, 1) := by decide +kernel
theorem dL_law_725 : decode cL_law 725 = .ok (.iconst 1, 1) := by decide +kernel
theorem dL_law_726 : decode cL_law 726 = .ok (.iadd, 1) := by decide +kernel
theorem dL_law_727 : decode cL_law 727 = .ok (.iaload, 1) := by decide +kernel
theorem dL_law_728 : decode cL_law 728 = .ok (.invokevirtual 82, 3) := by decide +kernel
theorem dL_law_731 : decode cL_law 731 = .ok (.if_icmp .eq 758, 3) := by decide +kernel
theorem dL_law_734 : decode cL_law 734 = .ok (.iconst 0, 1) := by decide +kernel
theorem dL_law_735 : decode cL_law 735 = .ok (.ireturn, 1) := by decide +kernel
theorem dL_law_736 : decode cL_law 736 = .ok (.aload_n 1, 1) := by decide +kernel
theorem dL_law_737 : decode cL_law 737 = .ok (.aload_n 0, 1) := by decide +kernel
theorem dL_law_738 : decode cL_law 738 = .ok (.iload_n 3, 1) := by decide +kernel
theorem dL_law_739 : decode cL_law 739 = .ok (.iconst 1, 1) := by decide +kernel
theorem dL_law_740 : decode cL_law 740 = .ok (.iadd, 1) := by decide +kernel
theorem dL_law_741 : decode cL_law 741 = .ok (.iaload, 1) := by decide +kernel
theorem dL_law_742 : decode cL_law 742 = .ok (.aload_n 0, 1) := by decide +kernel
theorem dL_law_743 : decode cL_law 743 = .ok (.iload_n 3, 1) := by decide +kernel
theorem dL_law_744 : decode cL_law 744 = .ok (.iconst 2, 1) := by decide +kernel
theorem dL_law_745 : decode cL_law 745 = .ok (.iadd, 1) := by decide +kernel
theorem dL_law_746 : decode cL_law 746 = .ok (.iaload, 1) := by decide +kernel
theorem dL_law_747 : decode cL_law 747 = .ok (.aload_n 0, 1) := by decide +kernel
theorem dL_law_748 : decode cL_law 748 = .ok (.iload_n 3, 1) := by decide +kernel
theorem dL_law_749 : decode cL_law 749 = .ok (.iconst 3, 1) := by decide +kernel
theorem dL_law_750 : decode cL_law 750 = .ok (.iadd, 1) := by decide +kernel
theorem dL_law_751 : decode cL_law 751 = .ok (.iaload, 1) := by decide +kernel
theorem dL_law_752 : decode cL_law 752 = .ok (.aload_n 0, 1) := by decide +kernel
theorem dL_law_753 : decode cL_law 753 = .ok (.iload_n 3, 1) := by decide +kernel
theorem dL_law_754 : decode cL_law 754 = .ok (.iconst 4, 1) := by decide +kernel
theorem dL_law_755 : decode cL_law 755 = .ok (.iadd, 1) := by decide +kernel
theorem dL_law_756 : decode cL_law 756 = .ok (.iaload, 1) := by decide +kernel
theorem dL_law_757 : decode cL_law 757 = .ok (.invokevirtual 83, 3) := by decide +kernel
theorem dL_law_760 : decode cL_law 760 = .ok (.aload_n 2, 1) := by decide +kernel
theorem dL_law_761 : decode cL_law 761 = .ok (.aload_n 0, 1) := by decide +kernel
theorem dL_law_762 : decode cL_law 762 = .ok (.iload_n 3, 1) := by decide +kernel
theorem dL_law_763 : decode cL_law 763 = .ok (.iconst 1, 1) := by decide +kernel
theorem dL_law_764 : decode cL_law 764 = .ok (.iadd, 1) := by decide +kernel
theorem dL_law_765 : decode cL_law 765 = .ok (.iaload, 1) := by decide +kernel
theorem dL_law_766 : decode cL_law 766 = .ok (.aload_n 0, 1) := by decide +kernel
theorem dL_law_767 : decode cL_law 767 = .ok (.iload_n 3, 1) := by decide +kernel
theorem dL_law_768 : decode cL_law 768 = .ok (.iconst 2, 1) := by decide +kernel
theorem dL_law_769 : decode cL_law 769 = .ok (.iadd, 1) := by decide +kernel
theorem dL_law_770 : decode cL_law 770 = .ok (.iaload, 1) := by decide +kernel
theorem dL_law_771 : decode cL_law 771 = .ok (.aload_n 0, 1) := by decide +kernel
theorem dL_law_772 : decode cL_law 772 = .ok (.iload_n 3, 1) := by decide +kernel
theorem dL_law_773 : decode cL_law 773 = .ok (.iconst 3, 1) := by decide +kernel
theorem dL_law_774 : decode cL_law 774 = .ok (.iadd, 1) := by decide +kernel
theorem dL_law_775 : decode cL_law 775 = .ok (.iaload, 1) := by decide +kernel
theorem dL_law_776 : decode cL_law 776 = .ok (.aload_n 0, 1) := by decide +kernel
theorem dL_law_777 : decode cL_law 777 = .ok (.iload_n 3, 1) := by decide +kernel
theorem dL_law_778 : decode cL_law 778 = .ok (.iconst 4, 1) := by decide +kernel
theorem dL_law_779 : decode cL_law 779 = .ok (.iadd, 1) := by decide +kernel
theorem dL_law_780 : decode cL_law 780 = .ok (.iaload, 1) := by decide +kernel
theorem dL_law_781 : decode cL_law 781 = .ok (.invokevirtual 87, 3) := by decide +kernel
theorem dL_law_784 : decode cL_law 784 = .ok (.if_icmp .eq 705, 3) := by decide +kernel
theorem dL_law_787 : decode cL_law 787 = .ok (.iconst 0, 1) := by decide +kernel
theorem dL_law_788 : decode cL_law 788 = .ok (.ireturn, 1) := by decide +kernel
theorem dL_law_789 : decode cL_law 789 = .ok (.aload_n 1, 1) := by decide +kernel
theorem dL_law_790 : decode cL_law 790 = .ok (.aload_n 0, 1) := by decide +kernel
theorem dL_law_791 : decode cL_law 791 = .ok (.iload_n 3, 1) := by decide +kernel
theorem dL_law_792 : decode cL_law 792 = .ok (.iconst 1, 1) := by decide +kernel
theorem dL_law_793 : decode cL_law 793 = .ok (.iadd, 1) := by decide +kernel
theorem dL_law_794 : decode cL_law 794 = .ok (.iaload, 1) := by decide +kernel
theorem dL_law_795 : decode cL_law 795 = .ok (.invokevirtual 88, 3) := by decide +kernel
theorem dL_law_798 : decode cL_law 798 = .ok (.aload_n 2, 1) := by decide +kernel
theorem dL_law_799 : decode cL_law 799 = .ok (.aload_n 0, 1) := by decide +kernel
theorem dL_law_800 : decode cL_law 800 = .ok (.iload_n 3, 1) := by decide +kernel
theorem dL_law_801 : decode cL_law 801 = .ok (.iconst 1, 1) := by decide +kernel
theorem dL_law_802 : decode cL_law 802 = .ok (.iadd, 1) := by decide +kernel
theorem dL_law_803 : decode cL_law 803 = .ok (.iaload, 1) := by decide +kernel
theorem dL_law_804 : decode cL_law 804 = .ok (.invokevirtual 91, 3) := by decide +kernel
theorem dL_law_807 : decode cL_law 807 = .ok (.if_icmp .eq 682, 3) := by decide +kernel
theorem dL_law_810 : decode cL_law 810 = .ok (.iconst 0, 1) := by decide +kernel
theorem dL_law_811 : decode cL_law 811 = .ok (.ireturn, 1) := by decide +kernel
theorem dL_law_812 : decode cL_law 812 = .ok (.aload_n 1, 1) := by decide +kernel
theorem dL_law_813 : decode cL_law 813 = .ok (.aload_n 0, 1) := by decide +kernel
theorem dL_law_814 : decode cL_law 814 = .ok (.iload_n 3, 1) := by decide +kernel
theorem dL_law_815 : decode cL_law 815 = .ok (.iconst 1, 1) := by decide +kernel
theorem dL_law_816 : decode cL_law 816 = .ok (.iadd, 1) := by decide +kernel
theorem dL_law_817 : decode cL_law 817 = .ok (.iaload, 1) := by decide +kernel
theorem dL_law_818 : decode cL_law 818 = .ok (.invokevirtual 92, 3) := by decide +kernel
theorem dL_law_821 : decode cL_law 821 = .ok (.aload_n 2, 1) := by decide +kernel
theorem dL_law_822 : decode cL_law 822 = .ok (.aload_n 0, 1) := by decide +kernel
theorem dL_law_823 : decode cL_law 823 = .ok (.iload_n 3, 1) := by decide +kernel
theorem dL_law_824 : decode cL_law 824 = .ok (.iconst 1, 1) := by decide +kernel
theorem dL_law_825 : decode cL_law 825 = .ok (.iadd, 1) := by decide +kernel
theorem dL_law_826 : decode cL_law 826 = .ok (.iaload, 1) := by decide +kernel
theorem dL_law_827 : decode cL_law 827 = .ok (.invokevirtual 95, 3) := by decide +kernel
theorem dL_law_830 : decode cL_law 830 = .ok (.if_icmp .eq 659, 3) := by decide +kernel
theorem dL_law_833 : decode cL_law 833 = .ok (.iconst 0, 1) := by decide +kernel
theorem dL_law_834 : decode cL_law 834 = .ok (.ireturn, 1) := by decide +kernel
theorem dL_law_835 : decode cL_law 835 = .ok (.aload_n 1, 1) := by decide +kernel
theorem dL_law_836 : decode cL_law 836 = .ok (.aload_n 0, 1) := by decide +kernel
theorem dL_law_837 : decode cL_law 837 = .ok (.iload_n 3, 1) := by decide +kernel
theorem dL_law_838 : decode cL_law 838 = .ok (.iconst 1, 1) := by decide +kernel
theorem dL_law_839 : decode cL_law 839 = .ok (.iadd, 1) := by decide +kernel
theorem dL_law_840 : decode cL_law 840 = .ok (.iaload, 1) := by decide +kernel
theorem dL_law_841 : decode cL_law 841 = .ok (.invokevirtual 96, 3) := by decide +kernel
theorem dL_law_844 : decode cL_law 844 = .ok (.aload_n 2, 1) := by decide +kernel
theorem dL_law_845 : decode cL_law 845 = .ok (.aload_n 0, 1) := by decide +kernel
theorem dL_law_846 : decode cL_law 846 = .ok (.iload_n 3, 1) := by decide +kernel
theorem dL_law_847 : decode cL_law 847 = .ok (.iconst 1, 1) := by decide +kernel
theorem dL_law_848 : decode cL_law 848 = .ok (.iadd, 1) := by decide +kernel
theorem dL_law_849 : decode cL_law 849 = .ok (.iaload, 1) := by decide +kernel
theorem dL_law_850 : decode cL_law 850 = .ok (.invokevirtual 99, 3) := by decide +kernel
theorem dL_law_853 : decode cL_law 853 = .ok (.if_icmp .eq 636, 3) := by decide +kernel
theorem dL_law_856 : decode cL_law 856 = .ok (.iconst 0, 1) := by decide +kernel
theorem dL_law_857 : decode cL_law 857 = .ok (.ireturn, 1) := by decide +kernel
theorem dL_law_858 : decode cL_law 858 = .ok (.aload_n 1, 1) := by decide +kernel
theorem dL_law_859 : decode cL_law 859 = .ok (.aload_n 0, 1) := by decide +kernel
theorem dL_law_860 : decode cL_law 860 = .ok (.iload_n 3, 1) := by decide +kernel
theorem dL_law_861 : decode cL_law 861 = .ok (.iconst 1, 1) := by decide +kernel
theorem dL_law_862 : decode cL_law 862 = .ok (.iadd, 1) := by decide +kernel
theorem dL_law_863 : decode cL_law 863 = .ok (.iaload, 1) := by decide +kernel
theorem dL_law_864 : decode cL_law 864 = .ok (.aload_n 0, 1) := by decide +kernel
theorem dL_law_865 : decode cL_law 865 = .ok (.iload_n 3, 1) := by decide +kernel
theorem dL_law_866 : decode cL_law 866 = .ok (.iconst 2, 1) := by decide +kernel
theorem dL_law_867 : decode cL_law 867 = .ok (.iadd, 1) := by decide +kernel
theorem dL_law_868 : decode cL_law 868 = .ok (.iaload, 1) := by decide +kernel
theorem dL_law_869 : decode cL_law 869 = .ok (.invokevirtual 100, 3) := by decide +kernel
theorem dL_law_872 : decode cL_law 872 = .ok (.aload_n 2, 1) := by decide +kernel
theorem dL_law_873 : decode cL_law 873 = .ok (.aload_n 0, 1) := by decide +kernel
theorem dL_law_874 : decode cL_law 874 = .ok (.iload_n 3, 1) := by decide +kernel
theorem dL_law_875 : decode cL_law 875 = .ok (.iconst 1, 1) := by decide +kernel
theorem dL_law_876 : decode cL_law 876 = .ok (.iadd, 1) := by decide +kernel
theorem dL_law_877 : decode cL_law 877 = .ok (.iaload, 1) := by decide +kernel
theorem dL_law_878 : decode cL_law 878 = .ok (.aload_n 0, 1) := by decide +kernel
theorem dL_law_879 : decode cL_law 879 = .ok (.iload_n 3, 1) := by decide +kernel
theorem dL_law_880 : decode cL_law 880 = .ok (.iconst 2, 1) := by decide +kernel
theorem dL_law_881 : decode cL_law 881 = .ok (.iadd, 1) := by decide +kernel
theorem dL_law_882 : decode cL_law 882 = .ok (.iaload, 1) := by decide +kernel
theorem dL_law_883 : decode cL_law 883 = .ok (.invokevirtual 104, 3) := by decide +kernel
theorem dL_law_886 : decode cL_law 886 = .ok (.lcmp, 1) := by decide +kernel
theorem dL_law_887 : decode cL_law 887 = .ok (.ifCond .eq 602, 3) := by decide +kernel
theorem dL_law_890 : decode cL_law 890 = .ok (.iconst 0, 1) := by decide +kernel
theorem dL_law_891 : decode cL_law 891 = .ok (.ireturn, 1) := by decide +kernel
theorem dL_law_892 : decode cL_law 892 = .ok (.aload_n 1, 1) := by decide +kernel
theorem dL_law_893 : decode cL_law 893 = .ok (.aload_n 0, 1) := by decide +kernel
theorem dL_law_894 : decode cL_law 894 = .ok (.iload_n 3, 1) := by decide +kernel
theorem dL_law_895 : decode cL_law 895 = .ok (.iconst 1, 1) := by decide +kernel
theorem dL_law_896 : decode cL_law 896 = .ok (.iadd, 1) := by decide +kernel
theorem dL_law_897 : decode cL_law 897 = .ok (.iaload, 1) := by decide +kernel
theorem dL_law_898 : decode cL_law 898 = .ok (.aload_n 0, 1) := by decide +kernel
theorem dL_law_899 : decode cL_law 899 = .ok (.iload_n 3, 1) := by decide +kernel
theorem dL_law_900 : decode cL_law 900 = .ok (.iconst 2, 1) := by decide +kernel
theorem dL_law_901 : decode cL_law 901 = .ok (.iadd, 1) := by decide +kernel
theorem dL_law_902 : decode cL_law 902 = .ok (.iaload, 1) := by decide +kernel
theorem dL_law_903 : decode cL_law 903 = .ok (.aload_n 0, 1) := by decide +kernel
theorem dL_law_904 : decode cL_law 904 = .ok (.iload_n 3, 1) := by decide +kernel
theorem dL_law_905 : decode cL_law 905 = .ok (.iconst 3, 1) := by decide +kernel
theorem dL_law_906 : decode cL_law 906 = .ok (.iadd, 1) := by decide +kernel
theorem dL_law_907 : decode cL_law 907 = .ok (.iaload, 1) := by decide +kernel
theorem dL_law_908 : decode cL_law 908 = .ok (.invokevirtual 105, 3) := by decide +kernel
theorem dL_law_911 : decode cL_law 911 = .ok (.aload_n 2, 1) := by decide +kernel
theorem dL_law_912 : decode cL_law 912 = .ok (.aload_n 0, 1) := by decide +kernel
theorem dL_law_913 : decode cL_law 913 = .ok (.iload_n 3, 1) := by decide +kernel
theorem dL_law_914 : decode cL_law 914 = .ok (.iconst 1, 1) := by decide +kernel
theorem dL_law_915 : decode cL_law 915 = .ok (.iadd, 1) := by decide +kernel
theorem dL_law_916 : decode cL_law 916 = .ok (.iaload, 1) := by decide +kernel
theorem dL_law_917 : decode cL_law 917 = .ok (.aload_n 0, 1) := by decide +kernel
theorem dL_law_918 : decode cL_law 918 = .ok (.iload_n 3, 1) := by decide +kernel
theorem dL_law_919 : decode cL_law 919 = .ok (.iconst 2, 1) := by decide +kernel
theorem dL_law_920 : decode cL_law 920 = .ok (.iadd, 1) := by decide +kernel
theorem dL_law_921 : decode cL_law 921 = .ok (.iaload, 1) := by decide +kernel
theorem dL_law_922 : decode cL_law 922 = .ok (.aload_n 0, 1) := by decide +kernel
theorem dL_law_923 : decode cL_law 923 = .ok (.iload_n 3, 1) := by decide +kernel
theorem dL_law_924 : decode cL_law 924 = .ok (.iconst 3, 1) := by decide +kernel
theorem dL_law_925 : decode cL_law 925 = .ok (.iadd, 1) := by decide +kernel
theorem dL_law_926 : decode cL_law 926 = .ok (.iaload, 1) := by decide +kernel
theorem dL_law_927 : decode cL_law 927 = .ok (.invokevirtual 108, 3) := by decide +kernel
theorem dL_law_930 : decode cL_law 930 = .ok (.if_icmp .eq 559, 3) := by decide +kernel
theorem dL_law_933 : decode cL_law 933 = .ok (.iconst 0, 1) := by decide +kernel
theorem dL_law_934 : decode cL_law 934 = .ok (.ireturn, 1) := by decide +kernel
theorem dL_law_935 : decode cL_law 935 = .ok (.aload_n 1, 1) := by decide +kernel
theorem dL_law_936 : decode cL_law 936 = .ok (.aload_n 0, 1) := by decide +kernel
theorem dL_law_937 : decode cL_law 937 = .ok (.iload_n 3, 1) := by decide +kernel
theorem dL_law_938 : decode cL_law 938 = .ok (.iconst 1, 1) := by decide +kernel
theorem dL_law_939 : decode cL_law 939 = .ok (.iadd, 1) := by decide +kernel
theorem dL_law_940 : decode cL_law 940 = .ok (.iaload, 1) := by decide +kernel
theorem dL_law_941 : decode cL_law 941 = .ok (.aload_n 0, 1) := by decide +kernel
theorem dL_law_942 : decode cL_law 942 = .ok (.iload_n 3, 1) := by decide +kernel
theorem dL_law_943 : decode cL_law 943 = .ok (.iconst 2, 1) := by decide +kernel
theorem dL_law_944 : decode cL_law 944 = .ok (.iadd, 1) := by decide +kernel
theorem dL_law_945 : decode cL_law 945 = .ok (.iaload, 1) := by decide +kernel
theorem dL_law_946 : decode cL_law 946 = .ok (.invokevirtual 109, 3) := by decide +kernel
theorem dL_law_949 : decode cL_law 949 = .ok (.aload_n 2, 1) := by decide +kernel
theorem dL_law_950 : decode cL_law 950 = .ok (.aload_n 0, 1) := by decide +kernel
theorem dL_law_951 : decode cL_law 951 = .ok (.iload_n 3, 1) := by decide +kernel
theorem dL_law_952 : decode cL_law 952 = .ok (.iconst 1, 1) := by decide +kernel
theorem dL_law_953 : decode cL_law 953 = .ok (.iadd, 1) := by decide +kernel
theorem dL_law_954 : decode cL_law 954 = .ok (.iaload, 1) := by decide +kernel
theorem dL_law_955 : decode cL_law 955 = .ok (.aload_n 0, 1) := by decide +kernel
theorem dL_law_956 : decode cL_law 956 = .ok (.iload_n 3, 1) := by decide +kernel
theorem dL_law_957 : decode cL_law 957 = .ok (.iconst 2, 1) := by decide +kernel
theorem dL_law_958 : decode cL_law 958 = .ok (.iadd, 1) := by decide +kernel
theorem dL_law_959 : decode cL_law 959 = .ok (.iaload, 1) := by decide +kernel
theorem dL_law_960 : decode cL_law 960 = .ok (.invokevirtual 112, 3) := by decide +kernel
theorem dL_law_963 : decode cL_law 963 = .ok (.if_icmp .eq 526, 3) := by decide +kernel
theorem dL_law_966 : decode cL_law 966 = .ok (.iconst 0, 1) := by decide +kernel
theorem dL_law_967 : decode cL_law 967 = .ok (.ireturn, 1) := by decide +kernel
theorem dL_law_968 : decode cL_law 968 = .ok (.aload_n 1, 1) := by decide +kernel
theorem dL_law_969 : decode cL_law 969 = .ok (.aload_n 0, 1) := by decide +kernel
theorem dL_law_970 : decode cL_law 970 = .ok (.iload_n 3, 1) := by decide +kernel
theorem dL_law_971 : decode cL_law 971 = .ok (.iconst 1, 1) := by decide +kernel
theorem dL_law_972 : decode cL_law 972 = .ok (.iadd, 1) := by decide +kernel
theorem dL_law_973 : decode cL_law 973 = .ok (.iaload, 1) := by decide +kernel
theorem dL_law_974 : decode cL_law 974 = .ok (.aload_n 0, 1) := by decide +kernel
theorem dL_law_975 : decode cL_law 975 = .ok (.iload_n 3, 1) := by decide +kernel
theorem dL_law_976 : decode cL_law 976 = .ok (.iconst 2, 1) := by decide +kernel
theorem dL_law_977 : decode cL_law 977 = .ok (.iadd, 1) := by decide +kernel
theorem dL_law_978 : decode cL_law 978 = .ok (.iaload, 1) := by decide +kernel
theorem dL_law_979 : decode cL_law 979 = .ok (.aload_n 0, 1) := by decide +kernel
theorem dL_law_980 : decode cL_law 980 = .ok (.iload_n 3, 1) := by decide +kernel
theorem dL_law_981 : decode cL_law 981 = .ok (.iconst 3, 1) := by decide +kernel
theorem dL_law_982 : decode cL_law 982 = .ok (.iadd, 1) := by decide +kernel
theorem dL_law_983 : decode cL_law 983 = .ok (.iaload, 1) := by decide +kernel
theorem dL_law_984 : decode cL_law 984 = .ok (.aload_n 0, 1) := by decide +kernel
theorem dL_law_985 : decode cL_law 985 = .ok (.iload_n 3, 1) := by decide +kernel
theorem dL_law_986 : decode cL_law 986 = .ok (.iconst 4, 1) := by decide +kernel
theorem dL_law_987 : decode cL_law 987 = .ok (.iadd, 1) := by decide +kernel
theorem dL_law_988 : decode cL_law 988 = .ok (.iaload, 1) := by decide +kernel
theorem dL_law_989 : decode cL_law 989 = .ok (.invokevirtual 113, 3) := by decide +kernel
theorem dL_law_992 : decode cL_law 992 = .ok (.aload_n 2, 1) := by decide +kernel
theorem dL_law_993 : decode cL_law 993 = .ok (.aload_n 0, 1) := by decide +kernel
theorem dL_law_994 : decode cL_law 994 = .ok (.iload_n 3, 1) := by decide +kernel
theorem dL_law_995 : decode cL_law 995 = .ok (.iconst 1, 1) := by decide +kernel
theorem dL_law_996 : decode cL_law 996 = .ok (.iadd, 1) := by decide +kernel
theorem dL_law_997 : decode cL_law 997 = .ok (.iaload, 1) := by decide +kernel
theorem dL_law_998 : decode cL_law 998 = .ok (.aload_n 0, 1) := by decide +kernel
theorem dL_law_999 : decode cL_law 999 = .ok (.iload_n 3, 1) := by decide +kernel
theorem dL_law_1000 : decode cL_law 1000 = .ok (.iconst 2, 1) := by decide +kernel
theorem dL_law_1001 : decode cL_law 1001 = .ok (.iadd, 1) := by decide +kernel
theorem dL_law_1002 : decode cL_law 1002 = .ok (.iaload, 1) := by decide +kernel
theorem dL_law_1003 : decode cL_law 1003 = .ok (.aload_n 0, 1) := by decide +kernel
theorem dL_law_1004 : decode cL_law 1004 = .ok (.iload_n 3, 1) := by decide +kernel
theorem dL_law_1005 : decode cL_law 1005 = .ok (.iconst 3, 1) := by decide +kernel
theorem dL_law_1006 : decode cL_law 1006 = .ok (.iadd, 1) := by decide +kernel
theorem dL_law_1007 : decode cL_law 1007 = .ok (.iaload, 1) := by decide +kernel
theorem dL_law_1008 : decode cL_law 1008 = .ok (.aload_n 0, 1) := by decide +kernel
theorem dL_law_1009 : decode cL_law 1009 = .ok (.iload_n 3, 1) := by decide +kernel
theorem dL_law_1010 : decode cL_law 1010 = .ok (.iconst 4, 1) := by decide +kernel
theorem dL_law_1011 : decode cL_law 1011 = .ok (.iadd, 1) := by decide +kernel
theorem dL_law_1012 : decode cL_law 1012 = .ok (.iaload, 1) := by decide +kernel
theorem dL_law_1013 : decode cL_law 1013 = .ok (.invokevirtual 116, 3) := by decide +kernel
theorem dL_law_1016 : decode cL_law 1016 = .ok (.if_icmp .eq 473, 3) := by decide +kernel
theorem dL_law_1019 : decode cL_law 1019 = .ok (.iconst 0, 1) := by decide +kernel
theorem dL_law_1020 : decode cL_law 1020 = .ok (.ireturn, 1) := by decide +kernel
theorem dL_law_1021 : decode cL_law 1021 = .ok (.aload_n 1, 1) := by decide +kernel
theorem dL_law_1022 : decode cL_law 1022 = .ok (.aload_n 0, 1) := by decide +kernel
theorem dL_law_1023 : decode cL_law 1023 = .ok (.iload_n 3, 1) := by decide +kernel
theorem dL_law_1024 : decode cL_law 1024 = .ok (.iconst 1, 1) := by decide +kernel
theorem dL_law_1025 : decode cL_law 1025 = .ok (.iadd, 1) := by decide +kernel
theorem dL_law_1026 : decode cL_law 1026 = .ok (.iaload, 1) := by decide +kernel
theorem dL_law_1027 : decode cL_law 1027 = .ok (.aload_n 0, 1) := by decide +kernel
theorem dL_law_1028 : decode cL_law 1028 = .ok (.iload_n 3, 1) := by decide +kernel
theorem dL_law_1029 : decode cL_law 1029 = .ok (.iconst 2, 1) := by decide +kernel
theorem dL_law_1030 : decode cL_law 1030 = .ok (.iadd, 1) := by decide +kernel
theorem dL_law_1031 : decode cL_law 1031 = .ok (.iaload, 1) := by decide +kernel
theorem dL_law_1032 : decode cL_law 1032 = .ok (.invokevirtual 117, 3) := by decide +kernel
theorem dL_law_1035 : decode cL_law 1035 = .ok (.aload_n 2, 1) := by decide +kernel
theorem dL_law_1036 : decode cL_law 1036 = .ok (.aload_n 0, 1) := by decide +kernel
theorem dL_law_1037 : decode cL_law 1037 = .ok (.iload_n 3, 1) := by decide +kernel
theorem dL_law_1038 : decode cL_law 1038 = .ok (.iconst 1, 1) := by decide +kernel
theorem dL_law_1039 : decode cL_law 1039 = .ok (.iadd, 1) := by decide +kernel
theorem dL_law_1040 : decode cL_law 1040 = .ok (.iaload, 1) := by decide +kernel
theorem dL_law_1041 : decode cL_law 1041 = .ok (.aload_n 0, 1) := by decide +kernel
theorem dL_law_1042 : decode cL_law 1042 = .ok (.iload_n 3, 1) := by decide +kernel
theorem dL_law_1043 : decode cL_law 1043 = .ok (.iconst 2, 1) := by decide +kernel
theorem dL_law_1044 : decode cL_law 1044 = .ok (.iadd, 1) := by decide +kernel
theorem dL_law_1045 : decode cL_law 1045 = .ok (.iaload, 1) := by decide +kernel
theorem dL_law_1046 : decode cL_law 1046 = .ok (.invokevirtual 120, 3) := by decide +kernel
theorem dL_law_1049 : decode cL_law 1049 = .ok (.if_icmp .eq 440, 3) := by decide +kernel
theorem dL_law_1052 : decode cL_law 1052 = .ok (.iconst 0, 1) := by decide +kernel
theorem dL_law_1053 : decode cL_law 1053 = .ok (.ireturn, 1) := by decide +kernel
theorem dL_law_1054 : decode cL_law 1054 = .ok (.aload_n 1, 1) := by decide +kernel
theorem dL_law_1055 : decode cL_law 1055 = .ok (.aload_n 0, 1) := by decide +kernel
theorem dL_law_1056 : decode cL_law 1056 = .ok (.iload_n 3, 1) := by decide +kernel
theorem dL_law_1057 : decode cL_law 1057 = .ok (.iconst 1, 1) := by decide +kernel
theorem dL_law_1058 : decode cL_law 1058 = .ok (.iadd, 1) := by decide +kernel
theorem dL_law_1059 : decode cL_law 1059 = .ok (.iaload, 1) := by decide +kernel
theorem dL_law_1060 : decode cL_law 1060 = .ok (.invokevirtual 121, 3) := by decide +kernel
theorem dL_law_1063 : decode cL_law 1063 = .ok (.aload_n 2, 1) := by decide +kernel
theorem dL_law_1064 : decode cL_law 1064 = .ok (.aload_n 0, 1) := by decide +kernel
theorem dL_law_1065 : decode cL_law 1065 = .ok (.iload_n 3, 1) := by decide +kernel
theorem dL_law_1066 : decode cL_law 1066 = .ok (.iconst 1, 1) := by decide +kernel
theorem dL_law_1067 : decode cL_law 1067 = .ok (.iadd, 1) := by decide +kernel
theorem dL_law_1068 : decode cL_law 1068 = .ok (.iaload, 1) := by decide +kernel
theorem dL_law_1069 : decode cL_law 1069 = .ok (.invokevirtual 124, 3) := by decide +kernel
theorem dL_law_1072 : decode cL_law 1072 = .ok (.if_icmp .eq 417, 3) := by decide +kernel
theorem dL_law_1075 : decode cL_law 1075 = .ok (.iconst 0, 1) := by decide +kernel
theorem dL_law_1076 : decode cL_law 1076 = .ok (.ireturn, 1) := by decide +kernel
theorem dL_law_1077 : decode cL_law 1077 = .ok (.aload_n 1, 1) := by decide +kernel
theorem dL_law_1078 : decode cL_law 1078 = .ok (.aload_n 0, 1) := by decide +kernel
theorem dL_law_1079 : decode cL_law 1079 = .ok (.iload_n 3, 1) := by decide +kernel
theorem dL_law_1080 : decode cL_law 1080 = .ok (.iconst 1, 1) := by decide +kernel
theorem dL_law_1081 : decode cL_law 1081 = .ok (.iadd, 1) := by decide +kernel
theorem dL_law_1082 : decode cL_law 1082 = .ok (.iaload, 1) := by decide +kernel
theorem dL_law_1083 : decode cL_law 1083 = .ok (.aload_n 0, 1) := by decide +kernel
theorem dL_law_1084 : decode cL_law 1084 = .ok (.iload_n 3, 1) := by decide +kernel
theorem dL_law_1085 : decode cL_law 1085 = .ok (.iconst 2, 1) := by decide +kernel
theorem dL_law_1086 : decode cL_law 1086 = .ok (.iadd, 1) := by decide +kernel
theorem dL_law_1087 : decode cL_law 1087 = .ok (.iaload, 1) := by decide +kernel
theorem dL_law_1088 : decode cL_law 1088 = .ok (.invokevirtual 125, 3) := by decide +kernel
theorem dL_law_1091 : decode cL_law 1091 = .ok (.aload_n 2, 1) := by decide +kernel
theorem dL_law_1092 : decode cL_law 1092 = .ok (.aload_n 0, 1) := by decide +kernel
theorem dL_law_1093 : decode cL_law 1093 = .ok (.iload_n 3, 1) := by decide +kernel
theorem dL_law_1094 : decode cL_law 1094 = .ok (.iconst 1, 1) := by decide +kernel
theorem dL_law_1095 : decode cL_law 1095 = .ok (.iadd, 1) := by decide +kernel
theorem dL_law_1096 : decode cL_law 1096 = .ok (.iaload, 1) := by decide +kernel
theorem dL_law_1097 : decode cL_law 1097 = .ok (.aload_n 0, 1) := by decide +kernel
theorem dL_law_1098 : decode cL_law 1098 = .ok (.iload_n 3, 1) := by decide +kernel
theorem dL_law_1099 : decode cL_law 1099 = .ok (.iconst 2, 1) := by decide +kernel
theorem dL_law_1100 : decode cL_law 1100 = .ok (.iadd, 1) := by decide +kernel
theorem dL_law_1101 : decode cL_law 1101 = .ok (.iaload, 1) := by decide +kernel
theorem dL_law_1102 : decode cL_law 1102 = .ok (.invokevirtual 128, 3) := by decide +kernel
theorem dL_law_1105 : decode cL_law 1105 = .ok (.if_icmp .eq 384, 3) := by decide +kernel
theorem dL_law_1108 : decode cL_law 1108 = .ok (.iconst 0, 1) := by decide +kernel
theorem dL_law_1109 : decode cL_law 1109 = .ok (.ireturn, 1) := by decide +kernel
theorem dL_law_1110 : decode cL_law 1110 = .ok (.aload_n 1, 1) := by decide +kernel
theorem dL_law_1111 : decode cL_law 1111 = .ok (.aload_n 0, 1) := by decide +kernel
theorem dL_law_1112 : decode cL_law 1112 = .ok (.iload_n 3, 1) := by decide +kernel
theorem dL_law_1113 : decode cL_law 1113 = .ok (.iconst 1, 1) := by decide +kernel
theorem dL_law_1114 : decode cL_law 1114 = .ok (.iadd, 1) := by decide +kernel
theorem dL_law_1115 : decode cL_law 1115 = .ok (.iaload, 1) := by decide +kernel
theorem dL_law_1116 : decode cL_law 1116 = .ok (.aload_n 0, 1) := by decide +kernel
theorem dL_law_1117 : decode cL_law 1117 = .ok (.iload_n 3, 1) := by decide +kernel
theorem dL_law_1118 : decode cL_law 1118 = .ok (.iconst 2, 1) := by decide +kernel
theorem dL_law_1119 : decode cL_law 1119 = .ok (.iadd, 1) := by decide +kernel
theorem dL_law_1120 : decode cL_law 1120 = .ok (.iaload, 1) := by decide +kernel
theorem dL_law_1121 : decode cL_law 1121 = .ok (.aload_n 0, 1) := by decide +kernel
theorem dL_law_1122 : decode cL_law 1122 = .ok (.iload_n 3, 1) := by decide +kernel
theorem dL_law_1123 : decode cL_law 1123 = .ok (.iconst 3, 1) := by decide +kernel
theorem dL_law_1124 : decode cL_law 1124 = .ok (.iadd, 1) := by decide +kernel
theorem dL_law_1125 : decode cL_law 1125 = .ok (.iaload, 1) := by decide +kernel
theorem dL_law_1126 : decode cL_law 1126 = .ok (.invokevirtual 129, 3) := by decide +kernel
theorem dL_law_1129 : decode cL_law 1129 = .ok (.aload_n 2, 1) := by decide +kernel
theorem dL_law_1130 : decode cL_law 1130 = .ok (.aload_n 0, 1) := by decide +kernel
theorem dL_law_1131 : decode cL_law 1131 = .ok (.iload_n 3, 1) := by decide +kernel
theorem dL_law_1132 : decode cL_law 1132 = .ok (.iconst 1, 1) := by decide +kernel
theorem dL_law_1133 : decode cL_law 1133 = .ok (.iadd, 1) := by decide +kernel
theorem dL_law_1134 : decode cL_law 1134 = .ok (.iaload, 1) := by decide +kernel
theorem dL_law_1135 : decode cL_law 1135 = .ok (.aload_n 0, 1) := by decide +kernel
theorem dL_law_1136 : decode cL_law 1136 = .ok (.iload_n 3, 1) := by decide +kernel
theorem dL_law_1137 : decode cL_law 1137 = .ok (.iconst 2, 1) := by decide +kernel
theorem dL_law_1138 : decode cL_law 1138 = .ok (.iadd, 1) := by decide +kernel
theorem dL_law_1139 : decode cL_law 1139 = .ok (.iaload, 1) := by decide +kernel
theorem dL_law_1140 : decode cL_law 1140 = .ok (.aload_n 0, 1) := by decide +kernel
theorem dL_law_1141 : decode cL_law 1141 = .ok (.iload_n 3, 1) := by decide +kernel
theorem dL_law_1142 : decode cL_law 1142 = .ok (.iconst 3, 1) := by decide +kernel
theorem dL_law_1143 : decode cL_law 1143 = .ok (.iadd, 1) := by decide +kernel
theorem dL_law_1144 : decode cL_law 1144 = .ok (.iaload, 1) := by decide +kernel
theorem dL_law_1145 : decode cL_law 1145 = .ok (.invokevirtual 132, 3) := by decide +kernel
theorem dL_law_1148 : decode cL_law 1148 = .ok (.if_icmp .eq 341, 3) := by decide +kernel
theorem dL_law_1151 : decode cL_law 1151 = .ok (.iconst 0, 1) := by decide +kernel
theorem dL_law_1152 : decode cL_law 1152 = .ok (.ireturn, 1) := by decide +kernel
theorem dL_law_1153 : decode cL_law 1153 = .ok (.aload_n 1, 1) := by decide +kernel
theorem dL_law_1154 : decode cL_law 1154 = .ok (.aload_n 0, 1) := by decide +kernel
theorem dL_law_1155 : decode cL_law 1155 = .ok (.iload_n 3, 1) := by decide +kernel
theorem dL_law_1156 : decode cL_law 1156 = .ok (.iconst 1, 1) := by decide +kernel
theorem dL_law_1157 : decode cL_law 1157 = .ok (.iadd, 1) := by decide +kernel
theorem dL_law_1158 : decode cL_law 1158 = .ok (.iaload, 1) := by decide +kernel
theorem dL_law_1159 : decode cL_law 1159 = .ok (.invokevirtual 133, 3) := by decide +kernel
theorem dL_law_1162 : decode cL_law 1162 = .ok (.aload_n 2, 1) := by decide +kernel
theorem dL_law_1163 : decode cL_law 1163 = .ok (.aload_n 0, 1) := by decide +kernel
theorem dL_law_1164 : decode cL_law 1164 = .ok (.iload_n 3, 1) := by decide +kernel
theorem dL_law_1165 : decode cL_law 1165 = .ok (.iconst 1, 1) := by decide +kernel
theorem dL_law_1166 : decode cL_law 1166 = .ok (.iadd, 1) := by decide +kernel
theorem dL_law_1167 : decode cL_law 1167 = .ok (.iaload, 1) := by decide +kernel
theorem dL_law_1168 : decode cL_law 1168 = .ok (.invokevirtual 136, 3) := by decide +kernel
theorem dL_law_1171 : decode cL_law 1171 = .ok (.if_icmp .eq 318, 3) := by decide +kernel
theorem dL_law_1174 : decode cL_law 1174 = .ok (.iconst 0, 1) := by decide +kernel
theorem dL_law_1175 : decode cL_law 1175 = .ok (.ireturn, 1) := by decide +kernel
theorem dL_law_1176 : decode cL_law 1176 = .ok (.aload_n 1, 1) := by decide +kernel
theorem dL_law_1177 : decode cL_law 1177 = .ok (.aload_n 0, 1) := by decide +kernel
theorem dL_law_1178 : decode cL_law 1178 = .ok (.iload_n 3, 1) := by decide +kernel
theorem dL_law_1179 : decode cL_law 1179 = .ok (.iconst 1, 1) := by decide +kernel
theorem dL_law_1180 : decode cL_law 1180 = .ok (.iadd, 1) := by decide +kernel
theorem dL_law_1181 : decode cL_law 1181 = .ok (.iaload, 1) := by decide +kernel
theorem dL_law_1182 : decode cL_law 1182 = .ok (.aload_n 0, 1) := by decide +kernel
theorem dL_law_1183 : decode cL_law 1183 = .ok (.iload_n 3, 1) := by decide +kernel
theorem dL_law_1184 : decode cL_law 1184 = .ok (.iconst 2, 1) := by decide +kernel
theorem dL_law_1185 : decode cL_law 1185 = .ok (.iadd, 1) := by decide +kernel
theorem dL_law_1186 : decode cL_law 1186 = .ok (.iaload, 1) := by decide +kernel
theorem dL_law_1187 : decode cL_law 1187 = .ok (.aload_n 0, 1) := by decide +kernel
theorem dL_law_1188 : decode cL_law 1188 = .ok (.iload_n 3, 1) := by decide +kernel
theorem dL_law_1189 : decode cL_law 1189 = .ok (.iconst 3, 1) := by decide +kernel
theorem dL_law_1190 : decode cL_law 1190 = .ok (.iadd, 1) := by decide +kernel
theorem dL_law_1191 : decode cL_law 1191 = .ok (.iaload, 1) := by decide +kernel
theorem dL_law_1192 : decode cL_law 1192 = .ok (.invokevirtual 137, 3) := by decide +kernel
theorem dL_law_1195 : decode cL_law 1195 = .ok (.aload_n 2, 1) := by decide +kernel
theorem dL_law_1196 : decode cL_law 1196 = .ok (.aload_n 0, 1) := by decide +kernel
theorem dL_law_1197 : decode cL_law 1197 = .ok (.iload_n 3, 1) := by decide +kernel
theorem dL_law_1198 : decode cL_law 1198 = .ok (.iconst 1, 1) := by decide +kernel
theorem dL_law_1199 : decode cL_law 1199 = .ok (.iadd, 1) := by decide +kernel
theorem dL_law_1200 : decode cL_law 1200 = .ok (.iaload, 1) := by decide +kernel
theorem dL_law_1201 : decode cL_law 1201 = .ok (.aload_n 0, 1) := by decide +kernel
theorem dL_law_1202 : decode cL_law 1202 = .ok (.iload_n 3, 1) := by decide +kernel
theorem dL_law_1203 : decode cL_law 1203 = .ok (.iconst 2, 1) := by decide +kernel
theorem dL_law_1204 : decode cL_law 1204 = .ok (.iadd, 1) := by decide +kernel
theorem dL_law_1205 : decode cL_law 1205 = .ok (.iaload, 1) := by decide +kernel
theorem dL_law_1206 : decode cL_law 1206 = .ok (.aload_n 0, 1) := by decide +kernel
theorem dL_law_1207 : decode cL_law 1207 = .ok (.iload_n 3, 1) := by decide +kernel
theorem dL_law_1208 : decode cL_law 1208 = .ok (.iconst 3, 1) := by decide +kernel
theorem dL_law_1209 : decode cL_law 1209 = .ok (.iadd, 1) := by decide +kernel
theorem dL_law_1210 : decode cL_law 1210 = .ok (.iaload, 1) := by decide +kernel
theorem dL_law_1211 : decode cL_law 1211 = .ok (.invokevirtual 140, 3) := by decide +kernel
theorem dL_law_1214 : decode cL_law 1214 = .ok (.if_icmp .eq 275, 3) := by decide +kernel
theorem dL_law_1217 : decode cL_law 1217 = .ok (.iconst 0, 1) := by decide +kernel
theorem dL_law_1218 : decode cL_law 1218 = .ok (.ireturn, 1) := by decide +kernel
theorem dL_law_1219 : decode cL_law 1219 = .ok (.aload_n 1, 1) := by decide +kernel
theorem dL_law_1220 : decode cL_law 1220 = .ok (.aload_n 0, 1) := by decide +kernel
theorem dL_law_1221 : decode cL_law 1221 = .ok (.iload_n 3, 1) := by decide +kernel
theorem dL_law_1222 : decode cL_law 1222 = .ok (.iconst 1, 1) := by decide +kernel
theorem dL_law_1223 : decode cL_law 1223 = .ok (.iadd, 1) := by decide +kernel
theorem dL_law_1224 : decode cL_law 1224 = .ok (.iaload, 1) := by decide +kernel
theorem dL_law_1225 : decode cL_law 1225 = .ok (.aload_n 0, 1) := by decide +kernel
theorem dL_law_1226 : decode cL_law 1226 = .ok (.iload_n 3, 1) := by decide +kernel
theorem dL_law_1227 : decode cL_law 1227 = .ok (.iconst 2, 1) := by decide +kernel
theorem dL_law_1228 : decode cL_law 1228 = .ok (.iadd, 1) := by decide +kernel
theorem dL_law_1229 : decode cL_law 1229 = .ok (.iaload, 1) := by decide +kernel
theorem dL_law_1230 : decode cL_law 1230 = .ok (.aload_n 0, 1) := by decide +kernel
theorem dL_law_1231 : decode cL_law 1231 = .ok (.iload_n 3, 1) := by decide +kernel
theorem dL_law_1232 : decode cL_law 1232 = .ok (.iconst 3, 1) := by decide +kernel
theorem dL_law_1233 : decode cL_law 1233 = .ok (.iadd, 1) := by decide +kernel
theorem dL_law_1234 : decode cL_law 1234 = .ok (.iaload, 1) := by decide +kernel
theorem dL_law_1235 : decode cL_law 1235 = .ok (.invokevirtual 141, 3) := by decide +kernel
theorem dL_law_1238 : decode cL_law 1238 = .ok (.aload_n 2, 1) := by decide +kernel
theorem dL_law_1239 : decode cL_law 1239 = .ok (.aload_n 0, 1) := by decide +kernel
theorem dL_law_1240 : decode cL_law 1240 = .ok (.iload_n 3, 1) := by decide +kernel
theorem dL_law_1241 : decode cL_law 1241 = .ok (.iconst 1, 1) := by decide +kernel
theorem dL_law_1242 : decode cL_law 1242 = .ok (.iadd, 1) := by decide +kernel
theorem dL_law_1243 : decode cL_law 1243 = .ok (.iaload, 1) := by decide +kernel
theorem dL_law_1244 : decode cL_law 1244 = .ok (.aload_n 0, 1) := by decide +kernel
theorem dL_law_1245 : decode cL_law 1245 = .ok (.iload_n 3, 1) := by decide +kernel
theorem dL_law_1246 : decode cL_law 1246 = .ok (.iconst 2, 1) := by decide +kernel
theorem dL_law_1247 : decode cL_law 1247 = .ok (.iadd, 1) := by decide +kernel
theorem dL_law_1248 : decode cL_law 1248 = .ok (.iaload, 1) := by decide +kernel
theorem dL_law_1249 : decode cL_law 1249 = .ok (.aload_n 0, 1) := by decide +kernel
theorem dL_law_1250 : decode cL_law 1250 = .ok (.iload_n 3, 1) := by decide +kernel
theorem dL_law_1251 : decode cL_law 1251 = .ok (.iconst 3, 1) := by decide +kernel
theorem dL_law_1252 : decode cL_law 1252 = .ok (.iadd, 1) := by decide +kernel
theorem dL_law_1253 : decode cL_law 1253 = .ok (.iaload, 1) := by decide +kernel
theorem dL_law_1254 : decode cL_law 1254 = .ok (.invokevirtual 144, 3) := by decide +kernel
theorem dL_law_1257 : decode cL_law 1257 = .ok (.if_icmp .eq 232, 3) := by decide +kernel
theorem dL_law_1260 : decode cL_law 1260 = .ok (.iconst 0, 1) := by decide +kernel
theorem dL_law_1261 : decode cL_law 1261 = .ok (.ireturn, 1) := by decide +kernel
theorem dL_law_1262 : decode cL_law 1262 = .ok (.aload_n 1, 1) := by decide +kernel
theorem dL_law_1263 : decode cL_law 1263 = .ok (.aload_n 0, 1) := by decide +kernel
theorem dL_law_1264 : decode cL_law 1264 = .ok (.iload_n 3, 1) := by decide +kernel
theorem dL_law_1265 : decode cL_law 1265 = .ok (.iconst 1, 1) := by decide +kernel
theorem dL_law_1266 : decode cL_law 1266 = .ok (.iadd, 1) := by decide +kernel
theorem dL_law_1267 : decode cL_law 1267 = .ok (.iaload, 1) := by decide +kernel
theorem dL_law_1268 : decode cL_law 1268 = .ok (.aload_n 0, 1) := by decide +kernel
theorem dL_law_1269 : decode cL_law 1269 = .ok (.iload_n 3, 1) := by decide +kernel
theorem dL_law_1270 : decode cL_law 1270 = .ok (.iconst 2, 1) := by decide +kernel
theorem dL_law_1271 : decode cL_law 1271 = .ok (.iadd, 1) := by decide +kernel
theorem dL_law_1272 : decode cL_law 1272 = .ok (.iaload, 1) := by decide +kernel
theorem dL_law_1273 : decode cL_law 1273 = .ok (.aload_n 0, 1) := by decide +kernel
theorem dL_law_1274 : decode cL_law 1274 = .ok (.iload_n 3, 1) := by decide +kernel
theorem dL_law_1275 : decode cL_law 1275 = .ok (.iconst 3, 1) := by decide +kernel
theorem dL_law_1276 : decode cL_law 1276 = .ok (.iadd, 1) := by decide +kernel
theorem dL_law_1277 : decode cL_law 1277 = .ok (.iaload, 1) := by decide +kernel
theorem dL_law_1278 : decode cL_law 1278 = .ok (.aload_n 0, 1) := by decide +kernel
theorem dL_law_1279 : decode cL_law 1279 = .ok (.iload_n 3, 1) := by decide +kernel
theorem dL_law_1280 : decode cL_law 1280 = .ok (.iconst 4, 1) := by decide +kernel
theorem dL_law_1281 : decode cL_law 1281 = .ok (.iadd, 1) := by decide +kernel
theorem dL_law_1282 : decode cL_law 1282 = .ok (.iaload, 1) := by decide +kernel
theorem dL_law_1283 : decode cL_law 1283 = .ok (.aload_n 0, 1) := by decide +kernel
theorem dL_law_1284 : decode cL_law 1284 = .ok (.iload_n 3, 1) := by decide +kernel
theorem dL_law_1285 : decode cL_law 1285 = .ok (.iconst 5, 1) := by decide +kernel
theorem dL_law_1286 : decode cL_law 1286 = .ok (.iadd, 1) := by decide +kernel
theorem dL_law_1287 : decode cL_law 1287 = .ok (.iaload, 1) := by decide +kernel
theorem dL_law_1288 : decode cL_law 1288 = .ok (.invokevirtual 145, 3) := by decide +kernel
theorem dL_law_1291 : decode cL_law 1291 = .ok (.aload_n 2, 1) := by decide +kernel
theorem dL_law_1292 : decode cL_law 1292 = .ok (.aload_n 0, 1) := by decide +kernel
theorem dL_law_1293 : decode cL_law 1293 = .ok (.iload_n 3, 1) := by decide +kernel
theorem dL_law_1294 : decode cL_law 1294 = .ok (.iconst 1, 1) := by decide +kernel
theorem dL_law_1295 : decode cL_law 1295 = .ok (.iadd, 1) := by decide +kernel
theorem dL_law_1296 : decode cL_law 1296 = .ok (.iaload, 1) := by decide +kernel
theorem dL_law_1297 : decode cL_law 1297 = .ok (.aload_n 0, 1) := by decide +kernel
theorem dL_law_1298 : decode cL_law 1298 = .ok (.iload_n 3, 1) := by decide +kernel
theorem dL_law_1299 : decode cL_law 1299 = .ok (.iconst 2, 1) := by decide +kernel
theorem dL_law_1300 : decode cL_law 1300 = .ok (.iadd, 1) := by decide +kernel
theorem dL_law_1301 : decode cL_law 1301 = .ok (.iaload, 1) := by decide +kernel
theorem dL_law_1302 : decode cL_law 1302 = .ok (.aload_n 0, 1) := by decide +kernel
theorem dL_law_1303 : decode cL_law 1303 = .ok (.iload_n 3, 1) := by decide +kernel
theorem dL_law_1304 : decode cL_law 1304 = .ok (.iconst 3, 1) := by decide +kernel
theorem dL_law_1305 : decode cL_law 1305 = .ok (.iadd, 1) := by decide +kernel
theorem dL_law_1306 : decode cL_law 1306 = .ok (.iaload, 1) := by decide +kernel
theorem dL_law_1307 : decode cL_law 1307 = .ok (.aload_n 0, 1) := by decide +kernel
theorem dL_law_1308 : decode cL_law 1308 = .ok (.iload_n 3, 1) := by decide +kernel
theorem dL_law_1309 : decode cL_law 1309 = .ok (.iconst 4, 1) := by decide +kernel
theorem dL_law_1310 : decode cL_law 1310 = .ok (.iadd, 1) := by decide +kernel
theorem dL_law_1311 : decode cL_law 1311 = .ok (.iaload, 1) := by decide +kernel
theorem dL_law_1312 : decode cL_law 1312 = .ok (.aload_n 0, 1) := by decide +kernel
theorem dL_law_1313 : decode cL_law 1313 = .ok (.iload_n 3, 1) := by decide +kernel
theorem dL_law_1314 : decode cL_law 1314 = .ok (.iconst 5, 1) := by decide +kernel
theorem dL_law_1315 : decode cL_law 1315 = .ok (.iadd, 1) := by decide +kernel
theorem dL_law_1316 : decode cL_law 1316 = .ok (.iaload, 1) := by decide +kernel
theorem dL_law_1317 : decode cL_law 1317 = .ok (.invokevirtual 149, 3) := by decide +kernel
theorem dL_law_1320 : decode cL_law 1320 = .ok (.if_icmp .eq 169, 3) := by decide +kernel
theorem dL_law_1323 : decode cL_law 1323 = .ok (.iconst 0, 1) := by decide +kernel
theorem dL_law_1324 : decode cL_law 1324 = .ok (.ireturn, 1) := by decide +kernel
theorem dL_law_1325 : decode cL_law 1325 = .ok (.aload_n 1, 1) := by decide +kernel
theorem dL_law_1326 : decode cL_law 1326 = .ok (.aload_n 0, 1) := by decide +kernel
theorem dL_law_1327 : decode cL_law 1327 = .ok (.iload_n 3, 1) := by decide +kernel
theorem dL_law_1328 : decode cL_law 1328 = .ok (.iconst 1, 1) := by decide +kernel
theorem dL_law_1329 : decode cL_law 1329 = .ok (.iadd, 1) := by decide +kernel
theorem dL_law_1330 : decode cL_law 1330 = .ok (.iaload, 1) := by decide +kernel
theorem dL_law_1331 : decode cL_law 1331 = .ok (.aload_n 0, 1) := by decide +kernel
theorem dL_law_1332 : decode cL_law 1332 = .ok (.iload_n 3, 1) := by decide +kernel
theorem dL_law_1333 : decode cL_law 1333 = .ok (.iconst 2, 1) := by decide +kernel
theorem dL_law_1334 : decode cL_law 1334 = .ok (.iadd, 1) := by decide +kernel
theorem dL_law_1335 : decode cL_law 1335 = .ok (.iaload, 1) := by decide +kernel
theorem dL_law_1336 : decode cL_law 1336 = .ok (.invokevirtual 150, 3) := by decide +kernel
theorem dL_law_1339 : decode cL_law 1339 = .ok (.aload_n 2, 1) := by decide +kernel
theorem dL_law_1340 : decode cL_law 1340 = .ok (.aload_n 0, 1) := by decide +kernel
theorem dL_law_1341 : decode cL_law 1341 = .ok (.iload_n 3, 1) := by decide +kernel
theorem dL_law_1342 : decode cL_law 1342 = .ok (.iconst 1, 1) := by decide +kernel
theorem dL_law_1343 : decode cL_law 1343 = .ok (.iadd, 1) := by decide +kernel
theorem dL_law_1344 : decode cL_law 1344 = .ok (.iaload, 1) := by decide +kernel
theorem dL_law_1345 : decode cL_law 1345 = .ok (.aload_n 0, 1) := by decide +kernel
theorem dL_law_1346 : decode cL_law 1346 = .ok (.iload_n 3, 1) := by decide +kernel
theorem dL_law_1347 : decode cL_law 1347 = .ok (.iconst 2, 1) := by decide +kernel
theorem dL_law_1348 : decode cL_law 1348 = .ok (.iadd, 1) := by decide +kernel
theorem dL_law_1349 : decode cL_law 1349 = .ok (.iaload, 1) := by decide +kernel
theorem dL_law_1350 : decode cL_law 1350 = .ok (.invokevirtual 153, 3) := by decide +kernel
theorem dL_law_1353 : decode cL_law 1353 = .ok (.if_icmp .eq 136, 3) := by decide +kernel
theorem dL_law_1356 : decode cL_law 1356 = .ok (.iconst 0, 1) := by decide +kernel
theorem dL_law_1357 : decode cL_law 1357 = .ok (.ireturn, 1) := by decide +kernel
theorem dL_law_1358 : decode cL_law 1358 = .ok (.aload_n 1, 1) := by decide +kernel
theorem dL_law_1359 : decode cL_law 1359 = .ok (.aload_n 0, 1) := by decide +kernel
theorem dL_law_1360 : decode cL_law 1360 = .ok (.iload_n 3, 1) := by decide +kernel
theorem dL_law_1361 : decode cL_law 1361 = .ok (.iconst 1, 1) := by decide +kernel
theorem dL_law_1362 : decode cL_law 1362 = .ok (.iadd, 1) := by decide +kernel
theorem dL_law_1363 : decode cL_law 1363 = .ok (.iaload, 1) := by decide +kernel
theorem dL_law_1364 : decode cL_law 1364 = .ok (.invokevirtual 154, 3) := by decide +kernel
theorem dL_law_1367 : decode cL_law 1367 = .ok (.aload_n 2, 1) := by decide +kernel
theorem dL_law_1368 : decode cL_law 1368 = .ok (.aload_n 0, 1) := by decide +kernel
theorem dL_law_1369 : decode cL_law 1369 = .ok (.iload_n 3, 1) := by decide +kernel
theorem dL_law_1370 : decode cL_law 1370 = .ok (.iconst 1, 1) := by decide +kernel
theorem dL_law_1371 : decode cL_law 1371 = .ok (.iadd, 1) := by decide +kernel
theorem dL_law_1372 : decode cL_law 1372 = .ok (.iaload, 1) := by decide +kernel
theorem dL_law_1373 : decode cL_law 1373 = .ok (.invokevirtual 157, 3) := by decide +kernel
theorem dL_law_1376 : decode cL_law 1376 = .ok (.if_icmp .eq 113, 3) := by decide +kernel
theorem dL_law_1379 : decode cL_law 1379 = .ok (.iconst 0, 1) := by decide +kernel
theorem dL_law_1380 : decode cL_law 1380 = .ok (.ireturn, 1) := by decide +kernel
theorem dL_law_1381 : decode cL_law 1381 = .ok (.aload_n 1, 1) := by decide +kernel
theorem dL_law_1382 : decode cL_law 1382 = .ok (.invokevirtual 158, 3) := by decide +kernel
theorem dL_law_1385 : decode cL_law 1385 = .ok (.aload_n 2, 1) := by decide +kernel
theorem dL_law_1386 : decode cL_law 1386 = .ok (.invokevirtual 162, 3) := by decide +kernel
theorem dL_law_1389 : decode cL_law 1389 = .ok (.if_icmp .eq 100, 3) := by decide +kernel
theorem dL_law_1392 : decode cL_law 1392 = .ok (.iconst 0, 1) := by decide +kernel
theorem dL_law_1393 : decode cL_law 1393 = .ok (.ireturn, 1) := by decide +kernel
theorem dL_law_1394 : decode cL_law 1394 = .ok (.aload_n 1, 1) := by decide +kernel
theorem dL_law_1395 : decode cL_law 1395 = .ok (.invokevirtual 163, 3) := by decide +kernel
theorem dL_law_1398 : decode cL_law 1398 = .ok (.aload_n 2, 1) := by decide +kernel
theorem dL_law_1399 : decode cL_law 1399 = .ok (.invokevirtual 166, 3) := by decide +kernel
theorem dL_law_1402 : decode cL_law 1402 = .ok (.if_icmp .eq 87, 3) := by decide +kernel
theorem dL_law_1405 : decode cL_law 1405 = .ok (.iconst 0, 1) := by decide +kernel
theorem dL_law_1406 : decode cL_law 1406 = .ok (.ireturn, 1) := by decide +kernel
theorem dL_law_1407 : decode cL_law 1407 = .ok (.aload_n 1, 1) := by decide +kernel
theorem dL_law_1408 : decode cL_law 1408 = .ok (.aload_n 0, 1) := by decide +kernel
theorem dL_law_1409 : decode cL_law 1409 = .ok (.iload_n 3, 1) := by decide +kernel
theorem dL_law_1410 : decode cL_law 1410 = .ok (.iconst 1, 1) := by decide +kernel
theorem dL_law_1411 : decode cL_law 1411 = .ok (.iadd, 1) := by decide +kernel
theorem dL_law_1412 : decode cL_law 1412 = .ok (.iaload, 1) := by decide +kernel
theorem dL_law_1413 : decode cL_law 1413 = .ok (.invokevirtual 167, 3) := by decide +kernel
theorem dL_law_1416 : decode cL_law 1416 = .ok (.aload_n 2, 1) := by decide +kernel
theorem dL_law_1417 : decode cL_law 1417 = .ok (.aload_n 0, 1) := by decide +kernel
theorem dL_law_1418 : decode cL_law 1418 = .ok (.iload_n 3, 1) := by decide +kernel
theorem dL_law_1419 : decode cL_law 1419 = .ok (.iconst 1, 1) := by decide +kernel
theorem dL_law_1420 : decode cL_law 1420 = .ok (.iadd, 1) := by decide +kernel
theorem dL_law_1421 : decode cL_law 1421 = .ok (.iaload, 1) := by decide +kernel
theorem dL_law_1422 : decode cL_law 1422 = .ok (.invokevirtual 170, 3) := by decide +kernel
theorem dL_law_1425 : decode cL_law 1425 = .ok (.if_icmp .eq 64, 3) := by decide +kernel
theorem dL_law_1428 : decode cL_law 1428 = .ok (.iconst 0, 1) := by decide +kernel
theorem dL_law_1429 : decode cL_law 1429 = .ok (.ireturn, 1) := by decide +kernel
theorem dL_law_1430 : decode cL_law 1430 = .ok (.aload_n 1, 1) := by decide +kernel
theorem dL_law_1431 : decode cL_law 1431 = .ok (.invokevirtual 171, 3) := by decide +kernel
theorem dL_law_1434 : decode cL_law 1434 = .ok (.aload_n 2, 1) := by decide +kernel
theorem dL_law_1435 : decode cL_law 1435 = .ok (.invokevirtual 174, 3) := by decide +kernel
theorem dL_law_1438 : decode cL_law 1438 = .ok (.if_icmp .eq 51, 3) := by decide +kernel
theorem dL_law_1441 : decode cL_law 1441 = .ok (.iconst 0, 1) := by decide +kernel
theorem dL_law_1442 : decode cL_law 1442 = .ok (.ireturn, 1) := by decide +kernel
theorem dL_law_1443 : decode cL_law 1443 = .ok (.aload_n 1, 1) := by decide +kernel
theorem dL_law_1444 : decode cL_law 1444 = .ok (.aload_n 0, 1) := by decide +kernel
theorem dL_law_1445 : decode cL_law 1445 = .ok (.iload_n 3, 1) := by decide +kernel
theorem dL_law_1446 : decode cL_law 1446 = .ok (.iconst 1, 1) := by decide +kernel
theorem dL_law_1447 : decode cL_law 1447 = .ok (.iadd, 1) := by decide +kernel
theorem dL_law_1448 : decode cL_law 1448 = .ok (.iaload, 1) := by decide +kernel
theorem dL_law_1449 : decode cL_law 1449 = .ok (.invokevirtual 175, 3) := by decide +kernel
theorem dL_law_1452 : decode cL_law 1452 = .ok (.aload_n 2, 1) := by decide +kernel
theorem dL_law_1453 : decode cL_law 1453 = .ok (.aload_n 0, 1) := by decide +kernel
theorem dL_law_1454 : decode cL_law 1454 = .ok (.iload_n 3, 1) := by decide +kernel
theorem dL_law_1455 : decode cL_law 1455 = .ok (.iconst 1, 1) := by decide +kernel
theorem dL_law_1456 : decode cL_law 1456 = .ok (.iadd, 1) := by decide +kernel
theorem dL_law_1457 : decode cL_law 1457 = .ok (.iaload, 1) := by decide +kernel
theorem dL_law_1458 : decode cL_law 1458 = .ok (.invokevirtual 178, 3) := by decide +kernel
theorem dL_law_1461 : decode cL_law 1461 = .ok (.if_icmp .eq 28, 3) := by decide +kernel
theorem dL_law_1464 : decode cL_law 1464 = .ok (.iconst 0, 1) := by decide +kernel
theorem dL_law_1465 : decode cL_law 1465 = .ok (.ireturn, 1) := by decide +kernel
theorem dL_law_1466 : decode cL_law 1466 = .ok (.aload_n 1, 1) := by decide +kernel
theorem dL_law_1467 : decode cL_law 1467 = .ok (.aload_n 0, 1) := by decide +kernel
theorem dL_law_1468 : decode cL_law 1468 = .ok (.iload_n 3, 1) := by decide +kernel
theorem dL_law_1469 : decode cL_law 1469 = .ok (.iconst 1, 1) := by decide +kernel
theorem dL_law_1470 : decode cL_law 1470 = .ok (.iadd, 1) := by decide +kernel
theorem dL_law_1471 : decode cL_law 1471 = .ok (.iaload, 1) := by decide +kernel
theorem dL_law_1472 : decode cL_law 1472 = .ok (.invokevirtual 179, 3) := by decide +kernel
theorem dL_law_1475 : decode cL_law 1475 = .ok (.aload_n 2, 1) := by decide +kernel
theorem dL_law_1476 : decode cL_law 1476 = .ok (.aload_n 0, 1) := by decide +kernel
theorem dL_law_1477 : decode cL_law 1477 = .ok (.iload_n 3, 1) := by decide +kernel
theorem dL_law_1478 : decode cL_law 1478 = .ok (.iconst 1, 1) := by decide +kernel
theorem dL_law_1479 : decode cL_law 1479 = .ok (.iadd, 1) := by decide +kernel
theorem dL_law_1480 : decode cL_law 1480 = .ok (.iaload, 1) := by decide +kernel
theorem dL_law_1481 : decode cL_law 1481 = .ok (.invokevirtual 182, 3) := by decide +kernel
theorem dL_law_1484 : decode cL_law 1484 = .ok (.if_icmp .eq 5, 3) := by decide +kernel
theorem dL_law_1487 : decode cL_law 1487 = .ok (.iconst 0, 1) := by decide +kernel
theorem dL_law_1488 : decode cL_law 1488 = .ok (.ireturn, 1) := by decide +kernel
theorem dL_law_1489 : decode cL_law 1489 = .ok (.iinc 3 6, 3) := by decide +kernel
theorem dL_law_1492 : decode cL_law 1492 = .ok (.goto (-1474), 3) := by decide +kernel
theorem dL_law_1495 : decode cL_law 1495 = .ok (.iconst 1, 1) := by decide +kernel
theorem dL_law_1496 : decode cL_law 1496 = .ok (.ireturn, 1) := by decide +kernel
end
section
theorem dJ11_isValidCodePoint_9a6ad_0 : decode cJ11_isValidCodePoint_9a6ad 0 = .ok (.iload_n 0, 1) := by decide +kernel
theorem dJ11_isValidCodePoint_9a6ad_1 : decode cJ11_isValidCodePoint_9a6ad 1 = .ok (.bipush 16, 2) := by decide +kernel
theorem dJ11_isValidCodePoint_9a6ad_3 : decode cJ11_isValidCodePoint_9a6ad 3 = .ok (.iushr, 1) := by decide +kernel
theorem dJ11_isValidCodePoint_9a6ad_4 : decode cJ11_isValidCodePoint_9a6ad 4 = .ok (.istore_n 1, 1) := by decide +kernel
theorem dJ11_isValidCodePoint_9a6ad_5 : decode cJ11_isValidCodePoint_9a6ad 5 = .ok (.iload_n 1, 1) := by decide +kernel
theorem dJ11_isValidCodePoint_9a6ad_6 : decode cJ11_isValidCodePoint_9a6ad 6 = .ok (.bipush 17, 2) := by decide +kernel
theorem dJ11_isValidCodePoint_9a6ad_8 : decode cJ11_isValidCodePoint_9a6ad 8 = .ok (.if_icmp .ge 7, 3) := by decide +kernel
theorem dJ11_isValidCodePoint_9a6ad_11 : decode cJ11_isValidCodePoint_9a6ad 11 = .ok (.iconst 1, 1) := by decide +kernel
theorem dJ11_isValidCodePoint_9a6ad_12 : decode cJ11_isValidCodePoint_9a6ad 12 = .ok (.goto 4, 3) := by decide +kernel
theorem dJ11_isValidCodePoint_9a6ad_15 : decode cJ11_isValidCodePoint_9a6ad 15 = .ok (.iconst 0, 1) := by decide +kernel
theorem dJ11_isValidCodePoint_9a6ad_16 : decode cJ11_isValidCodePoint_9a6ad 16 = .ok (.ireturn, 1) := by decide +kernel
theorem dJ11_highSurrogate_5068e_0 : decode cJ11_highSurrogate_5068e 0 = .ok (.iload_n 0, 1) := by decide +kernel
theorem dJ11_highSurrogate_5068e_1 : decode cJ11_highSurrogate_5068e 1 = .ok (.bipush 10, 2) := by decide +kernel
theorem dJ11_highSurrogate_5068e_3 : decode cJ11_highSurrogate_5068e 3 = .ok (.iushr, 1) := by decide +kernel
theorem dJ11_highSurrogate_5068e_4 : decode cJ11_highSurrogate_5068e 4 = .ok (.ldc 110, 2) := by decide +kernel
theorem dJ11_highSurrogate_5068e_6 : decode cJ11_highSurrogate_5068e 6 = .ok (.iadd, 1) := by decide +kernel
theorem dJ11_highSurrogate_5068e_7 : decode cJ11_highSurrogate_5068e 7 = .ok (.i2c, 1) := by decide +kernel
theorem dJ11_highSurrogate_5068e_8 : decode cJ11_highSurrogate_5068e 8 = .ok (.ireturn, 1) := by decide +kernel
theorem dJ11_lowSurrogate_5068e_0 : decode cJ11_lowSurrogate_5068e 0 = .ok (.iload_n 0, 1) := by decide +kernel
theorem dJ11_lowSurrogate_5068e_1 : decode cJ11_lowSurrogate_5068e 1 = .ok (.sipush 1023, 3) := by decide +kernel
theorem dJ11_lowSurrogate_5068e_4 : decode cJ11_lowSurrogate_5068e 4 = .ok (.iand, 1) := by decide +kernel
theorem dJ11_lowSurrogate_5068e_5 : decode cJ11_lowSurrogate_5068e 5 = .ok (.ldc 76, 2) := by decide +kernel
theorem dJ11_lowSurrogate_5068e_7 : decode cJ11_lowSurrogate_5068e 7 = .ok (.iadd, 1) := by decide +kernel
theorem dJ11_lowSurrogate_5068e_8 : decode cJ11_lowSurrogate_5068e 8 = .ok (.i2c, 1) := by decide +kernel
theorem dJ11_lowSurrogate_5068e_9 : decode cJ11_lowSurrogate_5068e 9 = .ok (.ireturn, 1) := by decide +kernel
theorem dJ6_numberOfTrailingZeros_0f7a4_0 : decode cJ6_numberOfTrailingZeros_0f7a4 0 = .ok (.iload_n 0, 1) := by decide +kernel
theorem dJ6_numberOfTrailingZeros_0f7a4_1 : decode cJ6_numberOfTrailingZeros_0f7a4 1 = .ok (.iconst (-1), 1) := by decide +kernel
theorem dJ6_numberOfTrailingZeros_0f7a4_2 : decode cJ6_numberOfTrailingZeros_0f7a4 2 = .ok (.ixor, 1) := by decide +kernel
theorem dJ6_numberOfTrailingZeros_0f7a4_3 : decode cJ6_numberOfTrailingZeros_0f7a4 3 = .ok (.iload_n 0, 1) := by decide +kernel
theorem dJ6_numberOfTrailingZeros_0f7a4_4 : decode cJ6_numberOfTrailingZeros_0f7a4 4 = .ok (.iconst 1, 1) := by decide +kernel
theorem dJ6_numberOfTrailingZeros_0f7a4_5 : decode cJ6_numberOfTrailingZeros_0f7a4 5 = .ok (.isub, 1) := by decide +kernel
theorem dJ6_numberOfTrailingZeros_0f7a4_6 : decode cJ6_numberOfTrailingZeros_0f7a4 6 = .ok (.iand, 1) := by decide +kernel
theorem dJ6_numberOfTrailingZeros_0f7a4_7 : decode cJ6_numberOfTrailingZeros_0f7a4 7 = .ok (.istore_n 0, 1) := by decide +kernel
theorem dJ6_numberOfTrailingZeros_0f7a4_8 : decode cJ6_numberOfTrailingZeros_0f7a4 8 = .ok (.iload_n 0, 1) := by decide +kernel
theorem dJ6_numberOfTrailingZeros_0f7a4_9 : decode cJ6_numberOfTrailingZeros_0f7a4 9 = .ok (.ifCond .gt 8, 3) := by decide +kernel
theorem dJ6_numberOfTrailingZeros_0f7a4_12 : decode cJ6_numberOfTrailingZeros_0f7a4 12 = .ok (.iload_n 0, 1) := by decide +kernel
theorem dJ6_numberOfTrailingZeros_0f7a4_13 : decode cJ6_numberOfTrailingZeros_0f7a4 13 = .ok (.bipush 32, 2) := by decide +kernel
theorem dJ6_numberOfTrailingZeros_0f7a4_15 : decode cJ6_numberOfTrailingZeros_0f7a4 15 = .ok (.iand, 1) := by decide +kernel
theorem dJ6_numberOfTrailingZeros_0f7a4_16 : decode cJ6_numberOfTrailingZeros_0f7a4 16 = .ok (.ireturn, 1) := by decide +kernel
theorem dJ6_numberOfTrailingZeros_0f7a4_17 : decode cJ6_numberOfTrailingZeros_0f7a4 17 = .ok (.iconst 1, 1) := by decide +kernel
theorem dJ6_numberOfTrailingZeros_0f7a4_18 : decode cJ6_numberOfTrailingZeros_0f7a4 18 = .ok (.istore_n 1, 1) := by decide +kernel
theorem dJ6_numberOfTrailingZeros_0f7a4_19 : decode cJ6_numberOfTrailingZeros_0f7a4 19 = .ok (.iload_n 0, 1) := by decide +kernel
theorem dJ6_numberOfTrailingZeros_0f7a4_20 : decode cJ6_numberOfTrailingZeros_0f7a4 20 = .ok (.ldc_w 264, 3) := by decide +kernel
theorem dJ6_numberOfTrailingZeros_0f7a4_23 : decode cJ6_numberOfTrailingZeros_0f7a4 23 = .ok (.if_icmp .le 11, 3) := by decide +kernel
theorem dJ6_numberOfTrailingZeros_0f7a4_26 : decode cJ6_numberOfTrailingZeros_0f7a4 26 = .ok (.iinc 1 16, 3) := by decide +kernel
theorem dJ6_numberOfTrailingZeros_0f7a4_29 : decode cJ6_numberOfTrailingZeros_0f7a4 29 = .ok (.iload_n 0, 1) := by decide +kernel
theorem dJ6_numberOfTrailingZeros_0f7a4_30 : decode cJ6_numberOfTrailingZeros_0f7a4 30 = .ok (.bipush 16, 2) := by decide +kernel
theorem dJ6_numberOfTrailingZeros_0f7a4_32 : decode cJ6_numberOfTrailingZeros_0f7a4 32 = .ok (.iushr, 1) := by decide +kernel
theorem dJ6_numberOfTrailingZeros_0f7a4_33 : decode cJ6_numberOfTrailingZeros_0f7a4 33 = .ok (.istore_n 0, 1) := by decide +kernel
theorem dJ6_numberOfTrailingZeros_0f7a4_34 : decode cJ6_numberOfTrailingZeros_0f7a4 34 = .ok (.iload_n 0, 1) := by decide +kernel
theorem dJ6_numberOfTrailingZeros_0f7a4_35 : decode cJ6_numberOfTrailingZeros_0f7a4 35 = .ok (.sipush 256, 3) := by decide +kernel
theorem dJ6_numberOfTrailingZeros_0f7a4_38 : decode cJ6_numberOfTrailingZeros_0f7a4 38 = .ok (.if_icmp .le 11, 3) := by decide +kernel
theorem dJ6_numberOfTrailingZeros_0f7a4_41 : decode cJ6_numberOfTrailingZeros_0f7a4 41 = .ok (.iinc 1 8, 3) := by decide +kernel
theorem dJ6_numberOfTrailingZeros_0f7a4_44 : decode cJ6_numberOfTrailingZeros_0f7a4 44 = .ok (.iload_n 0, 1) := by decide +kernel
theorem dJ6_numberOfTrailingZeros_0f7a4_45 : decode cJ6_numberOfTrailingZeros_0f7a4 45 = .ok (.bipush 8, 2) := by decide +kernel
theorem dJ6_numberOfTrailingZeros_0f7a4_47 : decode cJ6_numberOfTrailingZeros_0f7a4 47 = .ok (.iushr, 1) := by decide +kernel
theorem dJ6_numberOfTrailingZeros_0f7a4_48 : decode cJ6_numberOfTrailingZeros_0f7a4 48 = .ok (.istore_n 0, 1) := by decide +kernel
theorem dJ6_numberOfTrailingZeros_0f7a4_49 : decode cJ6_numberOfTrailingZeros_0f7a4 49 = .ok (.iload_n 0, 1) := by decide +kernel
theorem dJ6_numberOfTrailingZeros_0f7a4_50 : decode cJ6_numberOfTrailingZeros_0f7a4 50 = .ok (.bipush 16, 2) := by decide +kernel
theorem dJ6_numberOfTrailingZeros_0f7a4_52 : decode cJ6_numberOfTrailingZeros_0f7a4 52 = .ok (.if_icmp .le 10, 3) := by decide +kernel
theorem dJ6_numberOfTrailingZeros_0f7a4_55 : decode cJ6_numberOfTrailingZeros_0f7a4 55 = .ok (.iinc 1 4, 3) := by decide +kernel
theorem dJ6_numberOfTrailingZeros_0f7a4_58 : decode cJ6_numberOfTrailingZeros_0f7a4 58 = .ok (.iload_n 0, 1) := by decide +kernel
theorem dJ6_numberOfTrailingZeros_0f7a4_59 : decode cJ6_numberOfTrailingZeros_0f7a4 59 = .ok (.iconst 4, 1) := by decide +kernel
theorem dJ6_numberOfTrailingZeros_0f7a4_60 : decode cJ6_numberOfTrailingZeros_0f7a4 60 = .ok (.iushr, 1) := by decide +kernel
theorem dJ6_numberOfTrailingZeros_0f7a4_61 : decode cJ6_numberOfTrailingZeros_0f7a4 61 = .ok (.istore_n 0, 1) := by decide +kernel
theorem dJ6_numberOfTrailingZeros_0f7a4_62 : decode cJ6_numberOfTrailingZeros_0f7a4 62 = .ok (.iload_n 0, 1) := by decide +kernel
theorem dJ6_numberOfTrailingZeros_0f7a4_63 : decode cJ6_numberOfTrailingZeros_0f7a4 63 = .ok (.iconst 4, 1) := by decide +kernel
theorem dJ6_numberOfTrailingZeros_0f7a4_64 : decode cJ6_numberOfTrailingZeros_0f7a4 64 = .ok (.if_icmp .le 10, 3) := by decide +kernel
theorem dJ6_numberOfTrailingZeros_0f7a4_67 : decode cJ6_numberOfTrailingZeros_0f7a4 67 = .ok (.iinc 1 2, 3) := by decide +kernel
theorem dJ6_numberOfTrailingZeros_0f7a4_70 : decode cJ6_numberOfTrailingZeros_0f7a4 70 = .ok (.iload_n 0, 1) := by decide +kernel
theorem dJ6_numberOfTrailingZeros_0f7a4_71 : decode cJ6_numberOfTrailingZeros_0f7a4 71 = .ok (.iconst 2, 1) := by decide +kernel
theorem dJ6_numberOfTrailingZeros_0f7a4_72 : decode cJ6_numberOfTrailingZeros_0f7a4 72 = .ok (.iushr, 1) := by decide +kernel
theorem dJ6_numberOfTrailingZeros_0f7a4_73 : decode cJ6_numberOfTrailingZeros_0f7a4 73 = .ok (.istore_n 0, 1) := by decide +kernel
theorem dJ6_numberOfTrailingZeros_0f7a4_74 : decode cJ6_numberOfTrailingZeros_0f7a4 74 = .ok (.iload_n 1, 1) := by decide +kernel
theorem dJ6_numberOfTrailingZeros_0f7a4_75 : decode cJ6_numberOfTrailingZeros_0f7a4 75 = .ok (.iload_n 0, 1) := by decide +kernel
theorem dJ6_numberOfTrailingZeros_0f7a4_76 : decode cJ6_numberOfTrailingZeros_0f7a4 76 = .ok (.iconst 1, 1) := by decide +kernel
theorem dJ6_numberOfTrailingZeros_0f7a4_77 : decode cJ6_numberOfTrailingZeros_0f7a4 77 = .ok (.iushr, 1) := by decide +kernel
theorem dJ6_numberOfTrailingZeros_0f7a4_78 : decode cJ6_numberOfTrailingZeros_0f7a4 78 = .ok (.iadd, 1) := by decide +kernel
theorem dJ6_numberOfTrailingZeros_0f7a4_79 : decode cJ6_numberOfTrailingZeros_0f7a4 79 = .ok (.ireturn, 1) := by decide +kernel
theorem dJ13_numberOfTrailingZeros_95d88_0 : decode cJ13_numberOfTrailingZeros_95d88 0 = .ok (.lload_n 0, 1) := by decide +kernel
theorem dJ13_numberOfTrailingZeros_95d88_1 : decode cJ13_numberOfTrailingZeros_95d88 1 = .ok (.l2i, 1) := by decide +kernel
theorem dJ13_numberOfTrailingZeros_95d88_2 : decode cJ13_numberOfTrailingZeros_95d88 2 = .ok (.istore_n 2, 1) := by decide +kernel
theorem dJ13_numberOfTrailingZeros_95d88_3 : decode cJ13_numberOfTrailingZeros_95d88 3 = .ok (.iload_n 2, 1) := by decide +kernel
theorem dJ13_numberOfTrailingZeros_95d88_4 : decode cJ13_numberOfTrailingZeros_95d88 4 = .ok (.ifCond .ne 17, 3) := by decide +kernel
theorem dJ13_numberOfTrailingZeros_95d88_7 : decode cJ13_numberOfTrailingZeros_95d88 7 = .ok (.bipush 32, 2) := by decide +kernel
theorem dJ13_numberOfTrailingZeros_95d88_9 : decode cJ13_numberOfTrailingZeros_95d88 9 = .ok (.lload_n 0, 1) := by decide +kernel
theorem dJ13_numberOfTrailingZeros_95d88_10 : decode cJ13_numberOfTrailingZeros_95d88 10 = .ok (.bipush 32, 2) := by decide +kernel
theorem dJ13_numberOfTrailingZeros_95d88_12 : decode cJ13_numberOfTrailingZeros_95d88 12 = .ok (.lushr, 1) := by decide +kernel
theorem dJ13_numberOfTrailingZeros_95d88_13 : decode cJ13_numberOfTrailingZeros_95d88 13 = .ok (.l2i, 1) := by decide +kernel
theorem dJ13_numberOfTrailingZeros_95d88_14 : decode cJ13_numberOfTrailingZeros_95d88 14 = .ok (.invokestatic 311, 3) := by decide +kernel
theorem dJ13_numberOfTrailingZeros_95d88_17 : decode cJ13_numberOfTrailingZeros_95d88 17 = .ok (.iadd, 1) := by decide +kernel
theorem dJ13_numberOfTrailingZeros_95d88_18 : decode cJ13_numberOfTrailingZeros_95d88 18 = .ok (.goto 7, 3) := by decide +kernel
theorem dJ13_numberOfTrailingZeros_95d88_21 : decode cJ13_numberOfTrailingZeros_95d88 21 = .ok (.iload_n 2, 1) := by decide +kernel
theorem dJ13_numberOfTrailingZeros_95d88_22 : decode cJ13_numberOfTrailingZeros_95d88 22 = .ok (.invokestatic 311, 3) := by decide +kernel
theorem dJ13_numberOfTrailingZeros_95d88_25 : decode cJ13_numberOfTrailingZeros_95d88 25 = .ok (.ireturn, 1) := by decide +kernel
theorem dJ13_bitCount_95d88_0 : decode cJ13_bitCount_95d88 0 = .ok (.lload_n 0, 1) := by decide +kernel
theorem dJ13_bitCount_95d88_1 : decode cJ13_bitCount_95d88 1 = .ok (.lload_n 0, 1) := by decide +kernel
theorem dJ13_bitCount_95d88_2 : decode cJ13_bitCount_95d88 2 = .ok (.iconst 1, 1) := by decide +kernel
theorem dJ13_bitCount_95d88_3 : decode cJ13_bitCount_95d88 3 = .ok (.lushr, 1) := by decide +kernel
theorem dJ13_bitCount_95d88_4 : decode cJ13_bitCount_95d88 4 = .ok (.ldc2_w 314, 3) := by decide +kernel
theorem dJ13_bitCount_95d88_7 : decode cJ13_bitCount_95d88 7 = .ok (.land, 1) := by decide +kernel
theorem dJ13_bitCount_95d88_8 : decode cJ13_bitCount_95d88 8 = .ok (.lsub, 1) := by decide +kernel
theorem dJ13_bitCount_95d88_9 : decode cJ13_bitCount_95d88 9 = .ok (.lstore_n 0, 1) := by decide +kernel
theorem dJ13_bitCount_95d88_10 : decode cJ13_bitCount_95d88 10 = .ok (.lload_n 0, 1) := by decide +kernel
theorem dJ13_bitCount_95d88_11 : decode cJ13_bitCount_95d88 11 = .ok (.ldc2_w 316, 3) := by decide +kernel
theorem dJ13_bitCount_95d88_14 : decode cJ13_bitCount_95d88 14 = .ok (.land, 1) := by decide +kernel
theorem dJ13_bitCount_95d88_15 : decode cJ13_bitCount_95d88 15 = .ok (.lload_n 0, 1) := by decide +kernel
theorem dJ13_bitCount_95d88_16 : decode cJ13_bitCount_95d88 16 = .ok (.iconst 2, 1) := by decide +kernel
theorem dJ13_bitCount_95d88_17 : decode cJ13_bitCount_95d88 17 = .ok (.lushr, 1) := by decide +kernel
theorem dJ13_bitCount_95d88_18 : decode cJ13_bitCount_95d88 18 = .ok (.ldc2_w 316, 3) := by decide +kernel
theorem dJ13_bitCount_95d88_21 : decode cJ13_bitCount_95d88 21 = .ok (.land, 1) := by decide +kernel
theorem dJ13_bitCount_95d88_22 : decode cJ13_bitCount_95d88 22 = .ok (.ladd, 1) := by decide +kernel
theorem dJ13_bitCount_95d88_23 : decode cJ13_bitCount_95d88 23 = .ok (.lstore_n 0, 1) := by decide +kernel
theorem dJ13_bitCount_95d88_24 : decode cJ13_bitCount_95d88 24 = .ok (.lload_n 0, 1) := by decide +kernel
theorem dJ13_bitCount_95d88_25 : decode cJ13_bitCount_95d88 25 = .ok (.lload_n 0, 1) := by decide +kernel
theorem dJ13_bitCount_95d88_26 : decode cJ13_bitCount_95d88 26 = .ok (.iconst 4, 1) := by decide +kernel
theorem dJ13_bitCount_95d88_27 : decode cJ13_bitCount_95d88 27 = .ok (.lushr, 1) := by decide +kernel
theorem dJ13_bitCount_95d88_28 : decode cJ13_bitCount_95d88 28 = .ok (.ladd, 1) := by decide +kernel
theorem dJ13_bitCount_95d88_29 : decode cJ13_bitCount_95d88 29 = .ok (.ldc2_w 318, 3) := by decide +kernel
theorem dJ13_bitCount_95d88_32 : decode cJ13_bitCount_95d88 32 = .ok (.land, 1) := by decide +kernel
theorem dJ13_bitCount_95d88_33 : decode cJ13_bitCount_95d88 33 = .ok (.lstore_n 0, 1) := by decide +kernel
theorem dJ13_bitCount_95d88_34 : decode cJ13_bitCount_95d88 34 = .ok (.lload_n 0, 1) := by decide +kernel
theorem dJ13_bitCount_95d88_35 : decode cJ13_bitCount_95d88 35 = .ok (.lload_n 0, 1) := by decide +kernel
theorem dJ13_bitCount_95d88_36 : decode cJ13_bitCount_95d88 36 = .ok (.bipush 8, 2) := by decide +kernel
theorem dJ13_bitCount_95d88_38 : decode cJ13_bitCount_95d88 38 = .ok (.lushr, 1) := by decide +kernel
theorem dJ13_bitCount_95d88_39 : decode cJ13_bitCount_95d88 39 = .ok (.ladd, 1) := by decide +kernel
theorem dJ13_bitCount_95d88_40 : decode cJ13_bitCount_95d88 40 = .ok (.lstore_n 0, 1) := by decide +kernel
theorem dJ13_bitCount_95d88_41 : decode cJ13_bitCount_95d88 41 = .ok (.lload_n 0, 1) := by decide +kernel
theorem dJ13_bitCount_95d88_42 : decode cJ13_bitCount_95d88 42 = .ok (.lload_n 0, 1) := by decide +kernel
theorem dJ13_bitCount_95d88_43 : decode cJ13_bitCount_95d88 43 = .ok (.bipush 16, 2) := by decide +kernel
theorem dJ13_bitCount_95d88_45 : decode cJ13_bitCount_95d88 45 = .ok (.lushr, 1) := by decide +kernel
theorem dJ13_bitCount_95d88_46 : decode cJ13_bitCount_95d88 46 = .ok (.ladd, 1) := by decide +kernel
theorem dJ13_bitCount_95d88_47 : decode cJ13_bitCount_95d88 47 = .ok (.lstore_n 0, 1) := by decide +kernel
theorem dJ13_bitCount_95d88_48 : decode cJ13_bitCount_95d88 48 = .ok (.lload_n 0, 1) := by decide +kernel
theorem dJ13_bitCount_95d88_49 : decode cJ13_bitCount_95d88 49 = .ok (.lload_n 0, 1) := by decide +kernel
theorem dJ13_bitCount_95d88_50 : decode cJ13_bitCount_95d88 50 = .ok (.bipush 32, 2) := by decide +kernel
theorem dJ13_bitCount_95d88_52 : decode cJ13_bitCount_95d88 52 = .ok (.lushr, 1) := by decide +kernel
theorem dJ13_bitCount_95d88_53 : decode cJ13_bitCount_95d88 53 = .ok (.ladd, 1) := by decide +kernel
theorem dJ13_bitCount_95d88_54 : decode cJ13_bitCount_95d88 54 = .ok (.lstore_n 0, 1) := by decide +kernel
theorem dJ13_bitCount_95d88_55 : decode cJ13_bitCount_95d88 55 = .ok (.lload_n 0, 1) := by decide +kernel
theorem dJ13_bitCount_95d88_56 : decode cJ13_bitCount_95d88 56 = .ok (.l2i, 1) := by decide +kernel
theorem dJ13_bitCount_95d88_57 : decode cJ13_bitCount_95d88 57 = .ok (.bipush 127, 2) := by decide +kernel
theorem dJ13_bitCount_95d88_59 : decode cJ13_bitCount_95d88 59 = .ok (.iand, 1) := by decide +kernel
theorem dJ13_bitCount_95d88_60 : decode cJ13_bitCount_95d88 60 = .ok (.ireturn, 1) := by decide +kernel
theorem dJ9_max_7cf53_0 : decode cJ9_max_7cf53 0 = .ok (.iload_n 0, 1) := by decide +kernel
theorem dJ9_max_7cf53_1 : decode cJ9_max_7cf53 1 = .ok (.iload_n 1, 1) := by decide +kernel
theorem dJ9_max_7cf53_2 : decode cJ9_max_7cf53 2 = .ok (.if_icmp .lt 7, 3) := by decide +kernel
theorem dJ9_max_7cf53_5 : decode cJ9_max_7cf53 5 = .ok (.iload_n 0, 1) := by decide +kernel
theorem dJ9_max_7cf53_6 : decode cJ9_max_7cf53 6 = .ok (.goto 4, 3) := by decide +kernel
theorem dJ9_max_7cf53_9 : decode cJ9_max_7cf53 9 = .ok (.iload_n 1, 1) := by decide +kernel
theorem dJ9_max_7cf53_10 : decode cJ9_max_7cf53 10 = .ok (.ireturn, 1) := by decide +kernel
theorem dJ9_min_7cf53_0 : decode cJ9_min_7cf53 0 = .ok (.iload_n 0, 1) := by decide +kernel
theorem dJ9_min_7cf53_1 : decode cJ9_min_7cf53 1 = .ok (.iload_n 1, 1) := by decide +kernel
theorem dJ9_min_7cf53_2 : decode cJ9_min_7cf53 2 = .ok (.if_icmp .gt 7, 3) := by decide +kernel
theorem dJ9_min_7cf53_5 : decode cJ9_min_7cf53 5 = .ok (.iload_n 0, 1) := by decide +kernel
theorem dJ9_min_7cf53_6 : decode cJ9_min_7cf53 6 = .ok (.goto 4, 3) := by decide +kernel
theorem dJ9_min_7cf53_9 : decode cJ9_min_7cf53 9 = .ok (.iload_n 1, 1) := by decide +kernel
theorem dJ9_min_7cf53_10 : decode cJ9_min_7cf53 10 = .ok (.ireturn, 1) := by decide +kernel
theorem dJ0_length_8abf5_0 : decode cJ0_length_8abf5 0 = .ok (.aload_n 0, 1) := by decide +kernel
theorem dJ0_length_8abf5_1 : decode cJ0_length_8abf5 1 = .ok (.getfield 9, 3) := by decide +kernel
theorem dJ0_length_8abf5_4 : decode cJ0_length_8abf5 4 = .ok (.arraylength, 1) := by decide +kernel
theorem dJ0_length_8abf5_5 : decode cJ0_length_8abf5 5 = .ok (.aload_n 0, 1) := by decide +kernel
theorem dJ0_length_8abf5_6 : decode cJ0_length_8abf5 6 = .ok (.invokevirtual 335, 3) := by decide +kernel
theorem dJ0_length_8abf5_9 : decode cJ0_length_8abf5 9 = .ok (.ishr, 1) := by decide +kernel
theorem dJ0_length_8abf5_10 : decode cJ0_length_8abf5 10 = .ok (.ireturn, 1) := by decide +kernel
theorem dJ0_indexOf_0f7a4_0 : decode cJ0_indexOf_0f7a4 0 = .ok (.aload_n 0, 1) := by decide +kernel
theorem dJ0_indexOf_0f7a4_1 : decode cJ0_indexOf_0f7a4 1 = .ok (.iload_n 1, 1) := by decide +kernel
theorem dJ0_indexOf_0f7a4_2 : decode cJ0_indexOf_0f7a4 2 = .ok (.iconst 0, 1) := by decide +kernel
theorem dJ0_indexOf_0f7a4_3 : decode cJ0_indexOf_0f7a4 3 = .ok (.invokevirtual 633, 3) := by decide +kernel
theorem dJ0_indexOf_0f7a4_6 : decode cJ0_indexOf_0f7a4 6 = .ok (.ireturn, 1) := by decide +kernel
theorem dJ0_indexOf_7cf53_0 : decode cJ0_indexOf_7cf53 0 = .ok (.aload_n 0, 1) := by decide +kernel
theorem dJ0_indexOf_7cf53_1 : decode cJ0_indexOf_7cf53 1 = .ok (.invokevirtual 492, 3) := by decide +kernel
theorem dJ0_indexOf_7cf53_4 : decode cJ0_indexOf_7cf53 4 = .ok (.ifCond .eq 19, 3) := by decide +kernel
theorem dJ0_indexOf_7cf53_7 : decode cJ0_indexOf_7cf53 7 = .ok (.aload_n 0, 1) := by decide +kernel
theorem dJ0_indexOf_7cf53_8 : decode cJ0_indexOf_7cf53 8 = .ok (.getfield 9, 3) := by decide +kernel
theorem dJ0_indexOf_7cf53_11 : decode cJ0_indexOf_7cf53 11 = .ok (.iload_n 1, 1) := by decide +kernel
theorem dJ0_indexOf_7cf53_12 : decode cJ0_indexOf_7cf53 12 = .ok (.iload_n 2, 1) := by decide +kernel
theorem dJ0_indexOf_7cf53_13 : decode cJ0_indexOf_7cf53 13 = .ok (.aload_n 0, 1) := by decide +kernel
theorem dJ0_indexOf_7cf53_14 : decode cJ0_indexOf_7cf53 14 = .ok (.invokevirtual 505, 3) := by decide +kernel
theorem dJ0_indexOf_7cf53_17 : decode cJ0_indexOf_7cf53 17 = .ok (.invokestatic 637, 3) := by decide +kernel
theorem dJ0_indexOf_7cf53_20 : decode cJ0_indexOf_7cf53 20 = .ok (.goto 16, 3) := by decide +kernel
theorem dJ0_indexOf_7cf53_23 : decode cJ0_indexOf_7cf53 23 = .ok (.aload_n 0, 1) := by decide +kernel
theorem dJ0_indexOf_7cf53_24 : decode cJ0_indexOf_7cf53 24 = .ok (.getfield 9, 3) := by decide +kernel
theorem dJ0_indexOf_7cf53_27 : decode cJ0_indexOf_7cf53 27 = .ok (.iload_n 1, 1) := by decide +kernel
theorem dJ0_indexOf_7cf53_28 : decode cJ0_indexOf_7cf53 28 = .ok (.iload_n 2, 1) := by decide +kernel
theorem dJ0_indexOf_7cf53_29 : decode cJ0_indexOf_7cf53 29 = .ok (.aload_n 0, 1) := by decide +kernel
theorem dJ0_indexOf_7cf53_30 : decode cJ0_indexOf_7cf53 30 = .ok (.invokevirtual 505, 3) := by decide +kernel
theorem dJ0_indexOf_7cf53_33 : decode cJ0_indexOf_7cf53 33 = .ok (.invokestatic 640, 3) := by decide +kernel
theorem dJ0_indexOf_7cf53_36 : decode cJ0_indexOf_7cf53 36 = .ok (.ireturn, 1) := by decide +kernel
theorem dJ0_coder_7d493_0 : decode cJ0_coder_7d493 0 = .ok (.getstatic 38, 3) := by decide +kernel
theorem dJ0_coder_7d493_3 : decode cJ0_coder_7d493 3 = .ok (.ifCond .eq 10, 3) := by decide +kernel
theorem dJ0_coder_7d493_6 : decode cJ0_coder_7d493 6 = .ok (.aload_n 0, 1) := by decide +kernel
theorem dJ0_coder_7d493_7 : decode cJ0_coder_7d493 7 = .ok (.getfield 15, 3) := by decide +kernel
theorem dJ0_coder_7d493_10 : decode cJ0_coder_7d493 10 = .ok (.goto 4, 3) := by decide +kernel
theorem dJ0_coder_7d493_13 : decode cJ0_coder_7d493 13 = .ok (.iconst 1, 1) := by decide +kernel
theorem dJ0_coder_7d493_14 : decode cJ0_coder_7d493 14 = .ok (.ireturn, 1) := by decide +kernel
theorem dJ0_isLatin1_aae02_0 : decode cJ0_isLatin1_aae02 0 = .ok (.getstatic 38, 3) := by decide +kernel
theorem dJ0_isLatin1_aae02_3 : decode cJ0_isLatin1_aae02 3 = .ok (.ifCond .eq 14, 3) := by decide +kernel
theorem dJ0_isLatin1_aae02_6 : decode cJ0_isLatin1_aae02 6 = .ok (.aload_n 0, 1) := by decide +kernel
theorem dJ0_isLatin1_aae02_7 : decode cJ0_isLatin1_aae02 7 = .ok (.getfield 15, 3) := by decide +kernel
theorem dJ0_isLatin1_aae02_10 : decode cJ0_isLatin1_aae02 10 = .ok (.ifCond .ne 7, 3) := by decide +kernel
theorem dJ0_isLatin1_aae02_13 : decode cJ0_isLatin1_aae02 13 = .ok (.iconst 1, 1) := by decide +kernel
theorem dJ0_isLatin1_aae02_14 : decode cJ0_isLatin1_aae02 14 = .ok (.goto 4, 3) := by decide +kernel
theorem dJ0_isLatin1_aae02_17 : decode cJ0_isLatin1_aae02 17 = .ok (.iconst 0, 1) := by decide +kernel
theorem dJ0_isLatin1_aae02_18 : decode cJ0_isLatin1_aae02 18 = .ok (.ireturn, 1) := by decide +kernel
theorem dJ0_checkBoundsBeginEnd_23922_0 : decode cJ0_checkBoundsBeginEnd_23922 0 = .ok (.iload_n 0, 1) := by decide +kernel
theorem dJ0_checkBoundsBeginEnd_23922_1 : decode cJ0_checkBoundsBeginEnd_23922 1 = .ok (.iload_n 1, 1) := by decide +kernel
theorem dJ0_checkBoundsBeginEnd_23922_2 : decode cJ0_checkBoundsBeginEnd_23922 2 = .ok (.iload_n 2, 1) := by decide +kernel
theorem dJ0_checkBoundsBeginEnd_23922_3 : decode cJ0_checkBoundsBeginEnd_23922 3 = .ok (.getstatic 1053, 3) := by decide +kernel
theorem dJ0_checkBoundsBeginEnd_23922_6 : decode cJ0_checkBoundsBeginEnd_23922 6 = .ok (.invokestatic 1062, 3) := by decide +kernel
theorem dJ0_checkBoundsBeginEnd_23922_9 : decode cJ0_checkBoundsBeginEnd_23922 9 = .ok (.pop, 1) := by decide +kernel
theorem dJ0_checkBoundsBeginEnd_23922_10 : decode cJ0_checkBoundsBeginEnd_23922 10 = .ok (.return_, 1) := by decide +kernel
theorem dJ1_canEncode_9a6ad_0 : decode cJ1_canEncode_9a6ad 0 = .ok (.iload_n 0, 1) := by decide +kernel
theorem dJ1_canEncode_9a6ad_1 : decode cJ1_canEncode_9a6ad 1 = .ok (.ifCond .lt 14, 3) := by decide +kernel
theorem dJ1_canEncode_9a6ad_4 : decode cJ1_canEncode_9a6ad 4 = .ok (.iload_n 0, 1) := by decide +kernel
theorem dJ1_canEncode_9a6ad_5 : decode cJ1_canEncode_9a6ad 5 = .ok (.sipush 255, 3) := by decide +kernel
theorem dJ1_canEncode_9a6ad_8 : decode cJ1_canEncode_9a6ad 8 = .ok (.if_icmp .gt 7, 3) := by decide +kernel
theorem dJ1_canEncode_9a6ad_11 : decode cJ1_canEncode_9a6ad 11 = .ok (.iconst 1, 1) := by decide +kernel
theorem dJ1_canEncode_9a6ad_12 : decode cJ1_canEncode_9a6ad 12 = .ok (.goto 4, 3) := by decide +kernel
theorem dJ1_canEncode_9a6ad_15 : decode cJ1_canEncode_9a6ad 15 = .ok (.iconst 0, 1) := by decide +kernel
theorem dJ1_canEncode_9a6ad_16 : decode cJ1_canEncode_9a6ad 16 = .ok (.ireturn, 1) := by decide +kernel
theorem dJ1_indexOf_4cfef_0 : decode cJ1_indexOf_4cfef 0 = .ok (.iload_n 1, 1) := by decide +kernel
theorem dJ1_indexOf_4cfef_1 : decode cJ1_indexOf_4cfef 1 = .ok (.invokestatic 88, 3) := by decide +kernel
theorem dJ1_indexOf_4cfef_4 : decode cJ1_indexOf_4cfef 4 = .ok (.ifCond .ne 5, 3) := by decide +kernel
theorem dJ1_indexOf_4cfef_7 : decode cJ1_indexOf_4cfef 7 = .ok (.iconst (-1), 1) := by decide +kernel
theorem dJ1_indexOf_4cfef_8 : decode cJ1_indexOf_4cfef 8 = .ok (.ireturn, 1) := by decide +kernel
theorem dJ1_indexOf_4cfef_9 : decode cJ1_indexOf_4cfef 9 = .ok (.iload_n 2, 1) := by decide +kernel
theorem dJ1_indexOf_4cfef_10 : decode cJ1_indexOf_4cfef 10 = .ok (.iconst 0, 1) := by decide +kernel
theorem dJ1_indexOf_4cfef_11 : decode cJ1_indexOf_4cfef 11 = .ok (.invokestatic 92, 3) := by decide +kernel
theorem dJ1_indexOf_4cfef_14 : decode cJ1_indexOf_4cfef 14 = .ok (.istore_n 2, 1) := by decide +kernel
theorem dJ1_indexOf_4cfef_15 : decode cJ1_indexOf_4cfef 15 = .ok (.iload_n 3, 1) := by decide +kernel
theorem dJ1_indexOf_4cfef_16 : decode cJ1_indexOf_4cfef 16 = .ok (.aload_n 0, 1) := by decide +kernel
theorem dJ1_indexOf_4cfef_17 : decode cJ1_indexOf_4cfef 17 = .ok (.arraylength, 1) := by decide +kernel
theorem dJ1_indexOf_4cfef_18 : decode cJ1_indexOf_4cfef 18 = .ok (.invokestatic 38, 3) := by decide +kernel
theorem dJ1_indexOf_4cfef_21 : decode cJ1_indexOf_4cfef 21 = .ok (.istore_n 3, 1) := by decide +kernel
theorem dJ1_indexOf_4cfef_22 : decode cJ1_indexOf_4cfef 22 = .ok (.iload_n 2, 1) := by decide +kernel
theorem dJ1_indexOf_4cfef_23 : decode cJ1_indexOf_4cfef 23 = .ok (.iload_n 3, 1) := by decide +kernel
theorem dJ1_indexOf_4cfef_24 : decode cJ1_indexOf_4cfef 24 = .ok (.if_icmp .lt 5, 3) := by decide +kernel
theorem dJ1_indexOf_4cfef_27 : decode cJ1_indexOf_4cfef 27 = .ok (.iconst (-1), 1) := by decide +kernel
theorem dJ1_indexOf_4cfef_28 : decode cJ1_indexOf_4cfef 28 = .ok (.ireturn, 1) := by decide +kernel
theorem dJ1_indexOf_4cfef_29 : decode cJ1_indexOf_4cfef 29 = .ok (.aload_n 0, 1) := by decide +kernel
theorem dJ1_indexOf_4cfef_30 : decode cJ1_indexOf_4cfef 30 = .ok (.iload_n 1, 1) := by decide +kernel
theorem dJ1_indexOf_4cfef_31 : decode cJ1_indexOf_4cfef 31 = .ok (.iload_n 2, 1) := by decide +kernel
theorem dJ1_indexOf_4cfef_32 : decode cJ1_indexOf_4cfef 32 = .ok (.iload_n 3, 1) := by decide +kernel
theorem dJ1_indexOf_4cfef_33 : decode cJ1_indexOf_4cfef 33 = .ok (.invokestatic 95, 3) := by decide +kernel
theorem dJ1_indexOf_4cfef_36 : decode cJ1_indexOf_4cfef 36 = .ok (.ireturn, 1) := by decide +kernel
theorem dJ1_indexOfChar_4cfef_0 : decode cJ1_indexOfChar_4cfef 0 = .ok (.iload_n 1, 1) := by decide +kernel
theorem dJ1_indexOfChar_4cfef_1 : decode cJ1_indexOfChar_4cfef 1 = .ok (.i2b, 1) := by decide +kernel
theorem dJ1_indexOfChar_4cfef_2 : decode cJ1_indexOfChar_4cfef 2 = .ok (.istore 4, 2) := by decide +kernel
theorem dJ1_indexOfChar_4cfef_4 : decode cJ1_indexOfChar_4cfef 4 = .ok (.iload_n 2, 1) := by decide +kernel
theorem dJ1_indexOfChar_4cfef_5 : decode cJ1_indexOfChar_4cfef 5 = .ok (.istore 5, 2) := by decide +kernel
theorem dJ1_indexOfChar_4cfef_7 : decode cJ1_indexOfChar_4cfef 7 = .ok (.iload 5, 2) := by decide +kernel
theorem dJ1_indexOfChar_4cfef_9 : decode cJ1_indexOfChar_4cfef 9 = .ok (.iload_n 3, 1) := by decide +kernel
theorem dJ1_indexOfChar_4cfef_10 : decode cJ1_indexOfChar_4cfef 10 = .ok (.if_icmp .ge 21, 3) := by decide +kernel
theorem dJ1_indexOfChar_4cfef_13 : decode cJ1_indexOfChar_4cfef 13 = .ok (.aload_n 0, 1) := by decide +kernel
theorem dJ1_indexOfChar_4cfef_14 : decode cJ1_indexOfChar_4cfef 14 = .ok (.iload 5, 2) := by decide +kernel
theorem dJ1_indexOfChar_4cfef_16 : decode cJ1_indexOfChar_4cfef 16 = .ok (.baload, 1) := by decide +kernel
theorem dJ1_indexOfChar_4cfef_17 : decode cJ1_indexOfChar_4cfef 17 = .ok (.iload 4, 2) := by decide +kernel
theorem dJ1_indexOfChar_4cfef_19 : decode cJ1_indexOfChar_4cfef 19 = .ok (.if_icmp .ne 6, 3) := by decide +kernel
theorem dJ1_indexOfChar_4cfef_22 : decode cJ1_indexOfChar_4cfef 22 = .ok (.iload 5, 2) := by decide +kernel
theorem dJ1_indexOfChar_4cfef_24 : decode cJ1_indexOfChar_4cfef 24 = .ok (.ireturn, 1) := by decide +kernel
theorem dJ1_indexOfChar_4cfef_25 : decode cJ1_indexOfChar_4cfef 25 = .ok (.iinc 5 1, 3) := by decide +kernel
theorem dJ1_indexOfChar_4cfef_28 : decode cJ1_indexOfChar_4cfef 28 = .ok (.goto (-21), 3) := by decide +kernel
theorem dJ1_indexOfChar_4cfef_31 : decode cJ1_indexOfChar_4cfef 31 = .ok (.iconst (-1), 1) := by decide +kernel
theorem dJ1_indexOfChar_4cfef_32 : decode cJ1_indexOfChar_4cfef 32 = .ok (.ireturn, 1) := by decide +kernel
theorem dJ2_getChar_3b067_0 : decode cJ2_getChar_3b067 0 = .ok (.getstatic 44, 3) := by decide +kernel
theorem dJ2_getChar_3b067_3 : decode cJ2_getChar_3b067 3 = .ok (.ifCond .ne 25, 3) := by decide +kernel
theorem dJ2_getChar_3b067_6 : decode cJ2_getChar_3b067 6 = .ok (.iload_n 1, 1) := by decide +kernel
theorem dJ2_getChar_3b067_7 : decode cJ2_getChar_3b067 7 = .ok (.ifCond .lt 11, 3) := by decide +kernel
theorem dJ2_getChar_3b067_10 : decode cJ2_getChar_3b067 10 = .ok (.iload_n 1, 1) := by decide +kernel
theorem dJ2_getChar_3b067_11 : decode cJ2_getChar_3b067 11 = .ok (.aload_n 0, 1) := by decide +kernel
theorem dJ2_getChar_3b067_12 : decode cJ2_getChar_3b067 12 = .ok (.invokestatic 48, 3) := by decide +kernel
theorem dJ2_getChar_3b067_15 : decode cJ2_getChar_3b067 15 = .ok (.if_icmp .lt 13, 3) := by decide +kernel
theorem dJ2_getChar_3b067_18 : decode cJ2_getChar_3b067 18 = .ok (.new 52, 3) := by decide +kernel
theorem dJ2_getChar_3b067_21 : decode cJ2_getChar_3b067 21 = .ok (.dup, 1) := by decide +kernel
theorem dJ2_getChar_3b067_22 : decode cJ2_getChar_3b067 22 = .ok (.ldc 54, 2) := by decide +kernel
theorem dJ2_getChar_3b067_24 : decode cJ2_getChar_3b067 24 = .ok (.invokespecial 56, 3) := by decide +kernel
theorem dJ2_getChar_3b067_27 : decode cJ2_getChar_3b067 27 = .ok (.athrow, 1) := by decide +kernel
theorem dJ2_getChar_3b067_28 : decode cJ2_getChar_3b067 28 = .ok (.iload_n 1, 1) := by decide +kernel
theorem dJ2_getChar_3b067_29 : decode cJ2_getChar_3b067 29 = .ok (.iconst 1, 1) := by decide +kernel
theorem dJ2_getChar_3b067_30 : decode cJ2_getChar_3b067 30 = .ok (.ishl, 1) := by decide +kernel
theorem dJ2_getChar_3b067_31 : decode cJ2_getChar_3b067 31 = .ok (.istore_n 1, 1) := by decide +kernel
theorem dJ2_getChar_3b067_32 : decode cJ2_getChar_3b067 32 = .ok (.aload_n 0, 1) := by decide +kernel
theorem dJ2_getChar_3b067_33 : decode cJ2_getChar_3b067 33 = .ok (.iload_n 1, 1) := by decide +kernel
theorem dJ2_getChar_3b067_34 : decode cJ2_getChar_3b067 34 = .ok (.iinc 1 1, 3) := by decide +kernel
theorem dJ2_getChar_3b067_37 : decode cJ2_getChar_3b067 37 = .ok (.baload, 1) := by decide +kernel
theorem dJ2_getChar_3b067_38 : decode cJ2_getChar_3b067 38 = .ok (.sipush 255, 3) := by decide +kernel
theorem dJ2_getChar_3b067_41 : decode cJ2_getChar_3b067 41 = .ok (.iand, 1) := by decide +kernel
theorem dJ2_getChar_3b067_42 : decode cJ2_getChar_3b067 42 = .ok (.getstatic 59, 3) := by decide +kernel
theorem dJ2_getChar_3b067_45 : decode cJ2_getChar_3b067 45 = .ok (.ishl, 1) := by decide +kernel
theorem dJ2_getChar_3b067_46 : decode cJ2_getChar_3b067 46 = .ok (.aload_n 0, 1) := by decide +kernel
theorem dJ2_getChar_3b067_47 : decode cJ2_getChar_3b067 47 = .ok (.iload_n 1, 1) := by decide +kernel
theorem dJ2_getChar_3b067_48 : decode cJ2_getChar_3b067 48 = .ok (.baload, 1) := by decide +kernel
theorem dJ2_getChar_3b067_49 : decode cJ2_getChar_3b067 49 = .ok (.sipush 255, 3) := by decide +kernel
theorem dJ2_getChar_3b067_52 : decode cJ2_getChar_3b067 52 = .ok (.iand, 1) := by decide +kernel
theorem dJ2_getChar_3b067_53 : decode cJ2_getChar_3b067 53 = .ok (.getstatic 63, 3) := by decide +kernel
theorem dJ2_getChar_3b067_56 : decode cJ2_getChar_3b067 56 = .ok (.ishl, 1) := by decide +kernel
theorem dJ2_getChar_3b067_57 : decode cJ2_getChar_3b067 57 = .ok (.ior, 1) := by decide +kernel
theorem dJ2_getChar_3b067_58 : decode cJ2_getChar_3b067 58 = .ok (.i2c, 1) := by decide +kernel
theorem dJ2_getChar_3b067_59 : decode cJ2_getChar_3b067 59 = .ok (.ireturn, 1) := by decide +kernel
theorem dJ2_length_9d52b_0 : decode cJ2_length_9d52b 0 = .ok (.aload_n 0, 1) := by decide +kernel
theorem dJ2_length_9d52b_1 : decode cJ2_length_9d52b 1 = .ok (.arraylength, 1) := by decide +kernel
theorem dJ2_length_9d52b_2 : decode cJ2_length_9d52b 2 = .ok (.iconst 1, 1) := by decide +kernel
theorem dJ2_length_9d52b_3 : decode cJ2_length_9d52b 3 = .ok (.ishr, 1) := by decide +kernel
theorem dJ2_length_9d52b_4 : decode cJ2_length_9d52b 4 = .ok (.ireturn, 1) := by decide +kernel
theorem dJ2_indexOf_4cfef_0 : decode cJ2_indexOf_4cfef 0 = .ok (.iload_n 2, 1) := by decide +kernel
theorem dJ2_indexOf_4cfef_1 : decode cJ2_indexOf_4cfef 1 = .ok (.iconst 0, 1) := by decide +kernel
theorem dJ2_indexOf_4cfef_2 : decode cJ2_indexOf_4cfef 2 = .ok (.invokestatic 224, 3) := by decide +kernel
theorem dJ2_indexOf_4cfef_5 : decode cJ2_indexOf_4cfef 5 = .ok (.istore_n 2, 1) := by decide +kernel
theorem dJ2_indexOf_4cfef_6 : decode cJ2_indexOf_4cfef 6 = .ok (.iload_n 3, 1) := by decide +kernel
theorem dJ2_indexOf_4cfef_7 : decode cJ2_indexOf_4cfef 7 = .ok (.aload_n 0, 1) := by decide +kernel
theorem dJ2_indexOf_4cfef_8 : decode cJ2_indexOf_4cfef 8 = .ok (.arraylength, 1) := by decide +kernel
theorem dJ2_indexOf_4cfef_9 : decode cJ2_indexOf_4cfef 9 = .ok (.iconst 1, 1) := by decide +kernel
theorem dJ2_indexOf_4cfef_10 : decode cJ2_indexOf_4cfef 10 = .ok (.ishr, 1) := by decide +kernel
theorem dJ2_indexOf_4cfef_11 : decode cJ2_indexOf_4cfef 11 = .ok (.invokestatic 183, 3) := by decide +kernel
theorem dJ2_indexOf_4cfef_14 : decode cJ2_indexOf_4cfef 14 = .ok (.istore_n 3, 1) := by decide +kernel
theorem dJ2_indexOf_4cfef_15 : decode cJ2_indexOf_4cfef 15 = .ok (.iload_n 2, 1) := by decide +kernel
theorem dJ2_indexOf_4cfef_16 : decode cJ2_indexOf_4cfef 16 = .ok (.iload_n 3, 1) := by decide +kernel
theorem dJ2_indexOf_4cfef_17 : decode cJ2_indexOf_4cfef 17 = .ok (.if_icmp .lt 5, 3) := by decide +kernel
theorem dJ2_indexOf_4cfef_20 : decode cJ2_indexOf_4cfef 20 = .ok (.iconst (-1), 1) := by decide +kernel
theorem dJ2_indexOf_4cfef_21 : decode cJ2_indexOf_4cfef 21 = .ok (.ireturn, 1) := by decide +kernel
theorem dJ2_indexOf_4cfef_22 : decode cJ2_indexOf_4cfef 22 = .ok (.iload_n 1, 1) := by decide +kernel
theorem dJ2_indexOf_4cfef_23 : decode cJ2_indexOf_4cfef 23 = .ok (.ldc 227, 2) := by decide +kernel
theorem dJ2_indexOf_4cfef_25 : decode cJ2_indexOf_4cfef 25 = .ok (.if_icmp .ge 11, 3) := by decide +kernel
theorem dJ2_indexOf_4cfef_28 : decode cJ2_indexOf_4cfef 28 = .ok (.aload_n 0, 1) := by decide +kernel
theorem dJ2_indexOf_4cfef_29 : decode cJ2_indexOf_4cfef 29 = .ok (.iload_n 1, 1) := by decide +kernel
theorem dJ2_indexOf_4cfef_30 : decode cJ2_indexOf_4cfef 30 = .ok (.iload_n 2, 1) := by decide +kernel
theorem dJ2_indexOf_4cfef_31 : decode cJ2_indexOf_4cfef 31 = .ok (.iload_n 3, 1) := by decide +kernel
theorem dJ2_indexOf_4cfef_32 : decode cJ2_indexOf_4cfef 32 = .ok (.invokestatic 228, 3) := by decide +kernel
theorem dJ2_indexOf_4cfef_35 : decode cJ2_indexOf_4cfef 35 = .ok (.ireturn, 1) := by decide +kernel
theorem dJ2_indexOf_4cfef_36 : decode cJ2_indexOf_4cfef 36 = .ok (.aload_n 0, 1) := by decide +kernel
theorem dJ2_indexOf_4cfef_37 : decode cJ2_indexOf_4cfef 37 = .ok (.iload_n 1, 1) := by decide +kernel
theorem dJ2_indexOf_4cfef_38 : decode cJ2_indexOf_4cfef 38 = .ok (.iload_n 2, 1) := by decide +kernel
theorem dJ2_indexOf_4cfef_39 : decode cJ2_indexOf_4cfef 39 = .ok (.iload_n 3, 1) := by decide +kernel
theorem dJ2_indexOf_4cfef_40 : decode cJ2_indexOf_4cfef 40 = .ok (.invokestatic 232, 3) := by decide +kernel
theorem dJ2_indexOf_4cfef_43 : decode cJ2_indexOf_4cfef 43 = .ok (.ireturn, 1) := by decide +kernel
theorem dJ2_indexOfChar_4cfef_0 : decode cJ2_indexOfChar_4cfef 0 = .ok (.iload_n 2, 1) := by decide +kernel
theorem dJ2_indexOfChar_4cfef_1 : decode cJ2_indexOfChar_4cfef 1 = .ok (.iload_n 3, 1) := by decide +kernel
theorem dJ2_indexOfChar_4cfef_2 : decode cJ2_indexOfChar_4cfef 2 = .ok (.aload_n 0, 1) := by decide +kernel
theorem dJ2_indexOfChar_4cfef_3 : decode cJ2_indexOfChar_4cfef 3 = .ok (.invokestatic 96, 3) := by decide +kernel
theorem dJ2_indexOfChar_4cfef_6 : decode cJ2_indexOfChar_4cfef 6 = .ok (.aload_n 0, 1) := by decide +kernel
theorem dJ2_indexOfChar_4cfef_7 : decode cJ2_indexOfChar_4cfef 7 = .ok (.iload_n 1, 1) := by decide +kernel
theorem dJ2_indexOfChar_4cfef_8 : decode cJ2_indexOfChar_4cfef 8 = .ok (.iload_n 2, 1) := by decide +kernel
theorem dJ2_indexOfChar_4cfef_9 : decode cJ2_indexOfChar_4cfef 9 = .ok (.iload_n 3, 1) := by decide +kernel
theorem dJ2_indexOfChar_4cfef_10 : decode cJ2_indexOfChar_4cfef 10 = .ok (.invokestatic 244, 3) := by decide +kernel
theorem dJ2_indexOfChar_4cfef_13 : decode cJ2_indexOfChar_4cfef 13 = .ok (.ireturn, 1) := by decide +kernel
theorem dJ2_indexOfCharUnsafe_4cfef_0 : decode cJ2_indexOfCharUnsafe_4cfef 0 = .ok (.iload_n 2, 1) := by decide +kernel
theorem dJ2_indexOfCharUnsafe_4cfef_1 : decode cJ2_indexOfCharUnsafe_4cfef 1 = .ok (.istore 4, 2) := by decide +kernel
theorem dJ2_indexOfCharUnsafe_4cfef_3 : decode cJ2_indexOfCharUnsafe_4cfef 3 = .ok (.iload 4, 2) := by decide +kernel
theorem dJ2_indexOfCharUnsafe_4cfef_5 : decode cJ2_indexOfCharUnsafe_4cfef 5 = .ok (.iload_n 3, 1) := by decide +kernel
theorem dJ2_indexOfCharUnsafe_4cfef_6 : decode cJ2_indexOfCharUnsafe_4cfef 6 = .ok (.if_icmp .ge 22, 3) := by decide +kernel
theorem dJ2_indexOfCharUnsafe_4cfef_9 : decode cJ2_indexOfCharUnsafe_4cfef 9 = .ok (.aload_n 0, 1) := by decide +kernel
theorem dJ2_indexOfCharUnsafe_4cfef_10 : decode cJ2_indexOfCharUnsafe_4cfef 10 = .ok (.iload 4, 2) := by decide +kernel
theorem dJ2_indexOfCharUnsafe_4cfef_12 : decode cJ2_indexOfCharUnsafe_4cfef 12 = .ok (.invokestatic 71, 3) := by decide +kernel
theorem dJ2_indexOfCharUnsafe_4cfef_15 : decode cJ2_indexOfCharUnsafe_4cfef 15 = .ok (.iload_n 1, 1) := by decide +kernel
theorem dJ2_indexOfCharUnsafe_4cfef_16 : decode cJ2_indexOfCharUnsafe_4cfef 16 = .ok (.if_icmp .ne 6, 3) := by decide +kernel
theorem dJ2_indexOfCharUnsafe_4cfef_19 : decode cJ2_indexOfCharUnsafe_4cfef 19 = .ok (.iload 4, 2) := by decide +kernel
theorem dJ2_indexOfCharUnsafe_4cfef_21 : decode cJ2_indexOfCharUnsafe_4cfef 21 = .ok (.ireturn, 1) := by decide +kernel
theorem dJ2_indexOfCharUnsafe_4cfef_22 : decode cJ2_indexOfCharUnsafe_4cfef 22 = .ok (.iinc 4 1, 3) := by decide +kernel
theorem dJ2_indexOfCharUnsafe_4cfef_25 : decode cJ2_indexOfCharUnsafe_4cfef 25 = .ok (.goto (-22), 3) := by decide +kernel
theorem dJ2_indexOfCharUnsafe_4cfef_28 : decode cJ2_indexOfCharUnsafe_4cfef 28 = .ok (.iconst (-1), 1) := by decide +kernel
theorem dJ2_indexOfCharUnsafe_4cfef_29 : decode cJ2_indexOfCharUnsafe_4cfef 29 = .ok (.ireturn, 1) := by decide +kernel
theorem dJ2_indexOfSupplementary_4cfef_0 : decode cJ2_indexOfSupplementary_4cfef 0 = .ok (.iload_n 1, 1) := by decide +kernel
theorem dJ2_indexOfSupplementary_4cfef_1 : decode cJ2_indexOfSupplementary_4cfef 1 = .ok (.invokestatic 164, 3) := by decide +kernel
theorem dJ2_indexOfSupplementary_4cfef_4 : decode cJ2_indexOfSupplementary_4cfef 4 = .ok (.ifCond .eq 65, 3) := by decide +kernel
theorem dJ2_indexOfSupplementary_4cfef_7 : decode cJ2_indexOfSupplementary_4cfef 7 = .ok (.iload_n 1, 1) := by decide +kernel
theorem dJ2_indexOfSupplementary_4cfef_8 : decode cJ2_indexOfSupplementary_4cfef 8 = .ok (.invokestatic 157, 3) := by decide +kernel
theorem dJ2_indexOfSupplementary_4cfef_11 : decode cJ2_indexOfSupplementary_4cfef 11 = .ok (.istore 4, 2) := by decide +kernel
theorem dJ2_indexOfSupplementary_4cfef_13 : decode cJ2_indexOfSupplementary_4cfef 13 = .ok (.iload_n 1, 1) := by decide +kernel
theorem dJ2_indexOfSupplementary_4cfef_14 : decode cJ2_indexOfSupplementary_4cfef 14 = .ok (.invokestatic 161, 3) := by decide +kernel
theorem dJ2_indexOfSupplementary_4cfef_17 : decode cJ2_indexOfSupplementary_4cfef 17 = .ok (.istore 5, 2) := by decide +kernel
theorem dJ2_indexOfSupplementary_4cfef_19 : decode cJ2_indexOfSupplementary_4cfef 19 = .ok (.iload_n 2, 1) := by decide +kernel
theorem dJ2_indexOfSupplementary_4cfef_20 : decode cJ2_indexOfSupplementary_4cfef 20 = .ok (.iload_n 3, 1) := by decide +kernel
theorem dJ2_indexOfSupplementary_4cfef_21 : decode cJ2_indexOfSupplementary_4cfef 21 = .ok (.aload_n 0, 1) := by decide +kernel
theorem dJ2_indexOfSupplementary_4cfef_22 : decode cJ2_indexOfSupplementary_4cfef 22 = .ok (.invokestatic 96, 3) := by decide +kernel
theorem dJ2_indexOfSupplementary_4cfef_25 : decode cJ2_indexOfSupplementary_4cfef 25 = .ok (.iload_n 2, 1) := by decide +kernel
theorem dJ2_indexOfSupplementary_4cfef_26 : decode cJ2_indexOfSupplementary_4cfef 26 = .ok (.istore 6, 2) := by decide +kernel
theorem dJ2_indexOfSupplementary_4cfef_28 : decode cJ2_indexOfSupplementary_4cfef 28 = .ok (.iload 6, 2) := by decide +kernel
theorem dJ2_indexOfSupplementary_4cfef_30 : decode cJ2_indexOfSupplementary_4cfef 30 = .ok (.iload_n 3, 1) := by decide +kernel
theorem dJ2_indexOfSupplementary_4cfef_31 : decode cJ2_indexOfSupplementary_4cfef 31 = .ok (.iconst 1, 1) := by decide +kernel
theorem dJ2_indexOfSupplementary_4cfef_32 : decode cJ2_indexOfSupplementary_4cfef 32 = .ok (.isub, 1) := by decide +kernel
theorem dJ2_indexOfSupplementary_4cfef_33 : decode cJ2_indexOfSupplementary_4cfef 33 = .ok (.if_icmp .ge 36, 3) := by decide +kernel
theorem dJ2_indexOfSupplementary_4cfef_36 : decode cJ2_indexOfSupplementary_4cfef 36 = .ok (.aload_n 0, 1) := by decide +kernel
theorem dJ2_indexOfSupplementary_4cfef_37 : decode cJ2_indexOfSupplementary_4cfef 37 = .ok (.iload 6, 2) := by decide +kernel
theorem dJ2_indexOfSupplementary_4cfef_39 : decode cJ2_indexOfSupplementary_4cfef 39 = .ok (.invokestatic 71, 3) := by decide +kernel
theorem dJ2_indexOfSupplementary_4cfef_42 : decode cJ2_indexOfSupplementary_4cfef 42 = .ok (.iload 4, 2) := by decide +kernel
theorem dJ2_indexOfSupplementary_4cfef_44 : decode cJ2_indexOfSupplementary_4cfef 44 = .ok (.if_icmp .ne 19, 3) := by decide +kernel
theorem dJ2_indexOfSupplementary_4cfef_47 : decode cJ2_indexOfSupplementary_4cfef 47 = .ok (.aload_n 0, 1) := by decide +kernel
theorem dJ2_indexOfSupplementary_4cfef_48 : decode cJ2_indexOfSupplementary_4cfef 48 = .ok (.iload 6, 2) := by decide +kernel
theorem dJ2_indexOfSupplementary_4cfef_50 : decode cJ2_indexOfSupplementary_4cfef 50 = .ok (.iconst 1, 1) := by decide +kernel
theorem dJ2_indexOfSupplementary_4cfef_51 : decode cJ2_indexOfSupplementary_4cfef 51 = .ok (.iadd, 1) := by decide +kernel
theorem dJ2_indexOfSupplementary_4cfef_52 : decode cJ2_indexOfSupplementary_4cfef 52 = .ok (.invokestatic 71, 3) := by decide +kernel
theorem dJ2_indexOfSupplementary_4cfef_55 : decode cJ2_indexOfSupplementary_4cfef 55 = .ok (.iload 5, 2) := by decide +kernel
theorem dJ2_indexOfSupplementary_4cfef_57 : decode cJ2_indexOfSupplementary_4cfef 57 = .ok (.if_icmp .ne 6, 3) := by decide +kernel
theorem dJ2_indexOfSupplementary_4cfef_60 : decode cJ2_indexOfSupplementary_4cfef 60 = .ok (.iload 6, 2) := by decide +kernel
theorem dJ2_indexOfSupplementary_4cfef_62 : decode cJ2_indexOfSupplementary_4cfef 62 = .ok (.ireturn, 1) := by decide +kernel
theorem dJ2_indexOfSupplementary_4cfef_63 : decode cJ2_indexOfSupplementary_4cfef 63 = .ok (.iinc 6 1, 3) := by decide +kernel
theorem dJ2_indexOfSupplementary_4cfef_66 : decode cJ2_indexOfSupplementary_4cfef 66 = .ok (.goto (-38), 3) := by decide +kernel
theorem dJ2_indexOfSupplementary_4cfef_69 : decode cJ2_indexOfSupplementary_4cfef 69 = .ok (.iconst (-1), 1) := by decide +kernel
theorem dJ2_indexOfSupplementary_4cfef_70 : decode cJ2_indexOfSupplementary_4cfef 70 = .ok (.ireturn, 1) := by decide +kernel
theorem dJ2_checkBoundsBeginEnd_d044e_0 : decode cJ2_checkBoundsBeginEnd_d044e 0 = .ok (.iload_n 0, 1) := by decide +kernel
theorem dJ2_checkBoundsBeginEnd_d044e_1 : decode cJ2_checkBoundsBeginEnd_d044e 1 = .ok (.iload_n 1, 1) := by decide +kernel
theorem dJ2_checkBoundsBeginEnd_d044e_2 : decode cJ2_checkBoundsBeginEnd_d044e 2 = .ok (.aload_n 2, 1) := by decide +kernel
theorem dJ2_checkBoundsBeginEnd_d044e_3 : decode cJ2_checkBoundsBeginEnd_d044e 3 = .ok (.invokestatic 48, 3) := by decide +kernel
theorem dJ2_checkBoundsBeginEnd_d044e_6 : decode cJ2_checkBoundsBeginEnd_d044e 6 = .ok (.invokestatic 241, 3) := by decide +kernel
theorem dJ2_checkBoundsBeginEnd_d044e_9 : decode cJ2_checkBoundsBeginEnd_d044e 9 = .ok (.return_, 1) := by decide +kernel
theorem dJ3_checkFromToIndex_8c36e_0 : decode cJ3_checkFromToIndex_8c36e 0 = .ok (.iload_n 0, 1) := by decide +kernel
theorem dJ3_checkFromToIndex_8c36e_1 : decode cJ3_checkFromToIndex_8c36e 1 = .ok (.ifCond .lt 13, 3) := by decide +kernel
theorem dJ3_checkFromToIndex_8c36e_4 : decode cJ3_checkFromToIndex_8c36e 4 = .ok (.iload_n 0, 1) := by decide +kernel
theorem dJ3_checkFromToIndex_8c36e_5 : decode cJ3_checkFromToIndex_8c36e 5 = .ok (.iload_n 1, 1) := by decide +kernel
theorem dJ3_checkFromToIndex_8c36e_6 : decode cJ3_checkFromToIndex_8c36e 6 = .ok (.if_icmp .gt 8, 3) := by decide +kernel
theorem dJ3_checkFromToIndex_8c36e_9 : decode cJ3_checkFromToIndex_8c36e 9 = .ok (.iload_n 1, 1) := by decide +kernel
theorem dJ3_checkFromToIndex_8c36e_10 : decode cJ3_checkFromToIndex_8c36e 10 = .ok (.iload_n 2, 1) := by decide +kernel
theorem dJ3_checkFromToIndex_8c36e_11 : decode cJ3_checkFromToIndex_8c36e 11 = .ok (.if_icmp .le 11, 3) := by decide +kernel
theorem dJ3_checkFromToIndex_8c36e_14 : decode cJ3_checkFromToIndex_8c36e 14 = .ok (.aload_n 3, 1) := by decide +kernel
theorem dJ3_checkFromToIndex_8c36e_15 : decode cJ3_checkFromToIndex_8c36e 15 = .ok (.iload_n 0, 1) := by decide +kernel
theorem dJ3_checkFromToIndex_8c36e_16 : decode cJ3_checkFromToIndex_8c36e 16 = .ok (.iload_n 1, 1) := by decide +kernel
theorem dJ3_checkFromToIndex_8c36e_17 : decode cJ3_checkFromToIndex_8c36e 17 = .ok (.iload_n 2, 1) := by decide +kernel
theorem dJ3_checkFromToIndex_8c36e_18 : decode cJ3_checkFromToIndex_8c36e 18 = .ok (.invokestatic 99, 3) := by decide +kernel
theorem dJ3_checkFromToIndex_8c36e_21 : decode cJ3_checkFromToIndex_8c36e 21 = .ok (.athrow, 1) := by decide +kernel
theorem dJ3_checkFromToIndex_8c36e_22 : decode cJ3_checkFromToIndex_8c36e 22 = .ok (.iload_n 0, 1) := by decide +kernel
theorem dJ3_checkFromToIndex_8c36e_23 : decode cJ3_checkFromToIndex_8c36e 23 = .ok (.ireturn, 1) := by decide +kernel
end
section
/-! The words that all contracts share; the world as a row of cells, by their places 0 .. n-1 (ad: their addresses). -/
def zTB : List Cond := lw_tbl.filter goodWord
theorem zTB_in {w : Cond} {k : Nat} (h : lw_tbl[k]? = some w) (hg : goodWord w = true) : w ∈ zTB := List.mem_filter.mpr ⟨List.mem_of_getElem? h, hg⟩
theorem zTB_good {w : Cond} (h : w ∈ zTB) : (w.onTables && w.keeps) = true ∨ ∃ ty, w = .arrayClass ty := good_of_word (List.mem_filter.mp h).2
theorem zTB_lw {w : Cond} (h : w ∈ zTB) : w ∈ lw_tbl := (List.mem_filter.mp h).1
abbrev zX : Type := Program × Launch × Env × Room × State × MethodId × Array Value × List Frame × Method × Code × (State → Prop) × Nat × Nat
/-- D: class numbers and slots; cy: array classes; lo: where the world begins; ad: a place's address; n: how many places; sq: the addresses of the String constants; sv: of their bytes -/
abbrev zB : Type := va_G × (Nat → ClassId) × Nat × (Nat → Nat) × Nat × (Nat → Nat) × (Nat → Nat)
def zad (B : zB) : Nat → Nat := B.2.2.2.1
def znn (B : zB) : Nat := B.2.2.2.2.1
def zlo (B : zB) : Nat := B.2.2.1
def zsq (B : zB) : Nat → Nat := B.2.2.2.2.2.1
def zsv (B : zB) : Nat → Nat := B.2.2.2.2.2.2
def zcy (B : zB) : Nat → ClassId := B.2.1
def zref (B : zB) (i : Nat) : Value := .ref (zad B i)
def zcl : List vw_C := vwCl
def zty (cy : Nat → ClassId) : List (ClassId × FieldType) := [(cy 0, .byte), (cy 1, .int), (cy 2, .long), (cy 3, .object "WalkFences$Fence"), (cy 4, .object "WalkFences$Law"), (cy 5, .object "WalkFences$Sheet")]
def zwl (ad : Nat → Nat) (n : Nat) (g : Nat → va_E) : va_W := (List.range n).map fun i => (ad i, g i)
def zA (lo : Nat) : Nat → Prop := fun q => lo ≤ q
/-- the String constants: "", "apk", "cbd" -/
def zslen : List Nat := [0, 3, 3]
def zsbyt : List (List Int32) := [[], [97, 112, 107], [99, 98, 100]]
/-- what statics hold: the table ABOVE, the String constants -/
def zSt (B : zB) (U : State) : Prop := (∃ t : Nat, va_Z "WalkFences" "ABOVE" "[I" (.ref t) (zA (zlo B)) U U.heap ∧ va_T .int t 7 (fun j => .int (([-1, 0, 0, 0, 1, 2, 0] : List Int32).getD j 0)) (zA (zlo B)) U U.heap)
  ∧ vk_S 3 zslen zsbyt (zsq B) (zsv B) (zA (zlo B)) U U.heap ∧ zlo B ≤ U.heap.size
  ∧ va_Z "java/lang/String" "COMPACT_STRINGS" "Z" (.int 1) (zA (zlo B)) U U.heap
  ∧ vk_R "WalkFences$TextReader" 19 "" (zsq B 0) U ∧ vk_R "WalkFences$Law" 22 "apk" (zsq B 1) U ∧ vk_R "WalkFences$Law" 24 "cbd" (zsq B 2) U
def zIn (B : zB) (g : Nat → va_E) (U : State) : Prop := va_P B.1 zcl (zwl (zad B) (znn B) g) U.heap ∧ va_D (zA (zlo B)) (zwl (zad B) (znn B) g) ∧ va_K B.1 zcl (zty (zcy B)) U ∧ zSt B U
def zW (X : zX) (B : zB) (g : Nat → va_E) (pc : Nat) (lv : List (Nat × Value)) (st : List Value) : Prop := match X with
  | (p, l, e, R, s, m, args, below, meth, c, Q, k, sl) => ∀ (H : Heap) (locs : List Loc) (ls : Array Slot), va_P B.1 zcl (zwl (zad B) (znn B) g) H → va_D (zA (zlo B)) (zwl (zad B) (znn B) g) → va_S (zA (zlo B)) s.heap H locs → lv_has ls c.maxLocals lv → W p l e R s m args below meth c H locs k sl Q (F0 m pc ls st)
/-- what holds all through a method: own: its class; cc, nL: its code; d: how deep its calls may go -/
def zOk (X : zX) (B : zB) (own : String) (cc : ByteArray) (nL d : Nat) : Prop := match X with
  | (p, l, e, R, s, m, args, below, meth, c, Q, k, sl) => p.tables.exec = Jvm.exec ∧ c.code = cc ∧ c.maxLocals = nL ∧ s.vm.findClass own = some m.cls ∧ (∀ w ∈ zTB, w.before args s = true) ∧ va_K B.1 zcl (zty (zcy B)) s ∧ zSt B s ∧ (d ≤ R.frames ∧ 60 * d ≤ R.locals ∧ k ≤ R.cells ∧ sl ≤ R.slots) ∧ meth.locks = false
theorem zwl_at {ad : Nat → Nat} {n : Nat} {g : Nat → va_E} {i : Nat} (h : i < n) : (zwl ad n g)[i]? = some (ad i, g i) := by
  simp [zwl, h]
theorem zwl_e {ad : Nat → Nat} {n : Nat} {g : Nat → va_E} {i : Nat} {e : va_E} (h : i < n) (he : g i = e) : (zwl ad n g)[i]? = some (ad i, e) := by
  rw [zwl_at h, he]
theorem zwl_set {ad : Nat → Nat} {n : Nat} {g : Nat → va_E} {i : Nat} {e : va_E} (h : i < n) : (zwl ad n g).set i (ad i, e) = zwl ad n (va_up g i e) := by
  apply List.ext_getElem?
  intro j
  by_cases hj : j = i
  · subst hj
    rw [List.getElem?_set_self (by simpa [zwl] using h), zwl_e h (va_up_self _ _ _)]
  · rw [List.getElem?_set_ne (Ne.symm hj)]
    by_cases hn : j < n
    · rw [zwl_at hn, zwl_e hn (va_up_ne _ _ hj)]
    · simp [zwl, hn]
theorem zwl_push {ad : Nat → Nat} {n : Nat} {g : Nat → va_E} {q : Nat} {e : va_E} : zwl ad n g ++ [(q, e)] = zwl (va_up ad n q) (n + 1) (va_up g n e) := by
  simp only [zwl, List.range_succ, List.map_append, List.map_cons, List.map_nil, va_up_self]
  congr 1
  apply List.map_congr_left
  intro i hi
  have : i ≠ n := Nat.ne_of_lt (List.mem_range.mp hi)
  rw [va_up_ne _ _ this, va_up_ne _ _ this]
theorem zwl_congr {ad ad' : Nat → Nat} {n : Nat} {g g' : Nat → va_E} (h1 : ∀ i, i < n → ad i = ad' i) (h2 : ∀ i, i < n → g i = g' i) : zwl ad n g = zwl ad' n g' := by
  simp only [zwl]
  apply List.map_congr_left
  intro i hi
  rw [h1 i (List.mem_range.mp hi), h2 i (List.mem_range.mp hi)]
theorem zSt_kept {B : zB} {s U : State} {H : Heap} {locs : List Loc} (h : zSt B s) (hW : s.WarmedH U.vm) (hS : va_S (zA (zlo B)) s.heap H locs) (hU : U.heap = H) : zSt B U := by
  obtain ⟨⟨t, h1, h2⟩, h3, h4, h5, h6, h7, h8⟩ := h
  have key : ∀ a : Nat, a < s.heap.size → ¬ zA (zlo B) a → U.heap[a]? = s.heap[a]? := fun a ha hn => by rw [hU]; exact hS.2.1 a ha hn
  exact ⟨⟨t, va_Z.kept (va_Z.moved hW.alike h1) key, va_T.kept (va_T.moved hW.alike h2) key⟩, vk_S.kept (vk_S.moved hW.alike h3) key, Nat.le_trans h4 (by rw [hU]; exact hS.1), va_Z.kept (va_Z.moved hW.alike h5) key, vk_R.warm hW h6, vk_R.warm hW h7, vk_R.warm hW h8⟩
theorem zSt_same {B : zB} {s U : State} (h : zSt B s) (hv : U.vm = s.vm) (hh : U.heap = s.heap) : zSt B U := by
  obtain ⟨⟨t, h1, h2⟩, h3, h4, h5, h6, h7, h8⟩ := h
  have al : s.vm.Alike U.vm := by rw [hv]; exact Vm.Alike.refl s.vm
  have key : ∀ a : Nat, a < s.heap.size → ¬ zA (zlo B) a → U.heap[a]? = s.heap[a]? := fun a _ _ => by rw [hh]
  exact ⟨⟨t, va_Z.kept (va_Z.moved al h1) key, va_T.kept (va_T.moved al h2) key⟩, vk_S.kept (vk_S.moved al h3) key, by rw [hh]; exact h4, va_Z.kept (va_Z.moved al h5) key, vk_R.same hv h6, vk_R.same hv h7, vk_R.same hv h8⟩

theorem z_iconst {X : zX} {B : zB} {g : Nat → va_E} {own : String} {cc : ByteArray} {nL d pc : Nat} {lv : List (Nat × Value)} {st : List Value} {n : Int} {v : Int32} (o : zOk X B own cc nL d) (hd : decode cc pc = .ok (.iconst n, 1)) (hv : Int32.ofInt n = v) (kk : zW X B g (pc + 1) lv (.int v :: st)) : zW X B g pc lv (st) := by
  obtain ⟨p, l, e, R, s, m, args, below, meth, c, Q, k1, sl1⟩ := X
  obtain ⟨hx, hb, hml, hown, hts, hK, hSt, hR, hlk⟩ := o
  intro H locs ls hP hD hS hl
  exact lv_iconst hx hb hd hv (kk H locs ls hP hD hS hl)
theorem z_bipush {X : zX} {B : zB} {g : Nat → va_E} {own : String} {cc : ByteArray} {nL d pc : Nat} {lv : List (Nat × Value)} {st : List Value} {n : Int} {v : Int32} (o : zOk X B own cc nL d) (hd : decode cc pc = .ok (.bipush n, 2)) (hv : (Int8.ofInt n).toInt32 = v) (kk : zW X B g (pc + 2) lv (.int v :: st)) : zW X B g pc lv (st) := by
  obtain ⟨p, l, e, R, s, m, args, below, meth, c, Q, k1, sl1⟩ := X
  obtain ⟨hx, hb, hml, hown, hts, hK, hSt, hR, hlk⟩ := o
  intro H locs ls hP hD hS hl
  exact lv_bipush hx hb hd hv (kk H locs ls hP hD hS hl)
theorem z_sipush {X : zX} {B : zB} {g : Nat → va_E} {own : String} {cc : ByteArray} {nL d pc : Nat} {lv : List (Nat × Value)} {st : List Value} {n : Int} {v : Int32} (o : zOk X B own cc nL d) (hd : decode cc pc = .ok (.sipush n, 3)) (hv : (Int16.ofInt n).toInt32 = v) (kk : zW X B g (pc + 3) lv (.int v :: st)) : zW X B g pc lv (st) := by
  obtain ⟨p, l, e, R, s, m, args, below, meth, c, Q, k1, sl1⟩ := X
  obtain ⟨hx, hb, hml, hown, hts, hK, hSt, hR, hlk⟩ := o
  intro H locs ls hP hD hS hl
  exact lv_sipush hx hb hd hv (kk H locs ls hP hD hS hl)
theorem z_lconst {X : zX} {B : zB} {g : Nat → va_E} {own : String} {cc : ByteArray} {nL d pc : Nat} {lv : List (Nat × Value)} {st : List Value} {n : Fin 2} {v : Int64} (o : zOk X B own cc nL d) (hd : decode cc pc = .ok (.lconst n, 1)) (hv : Int64.ofNat (n : Nat) = v) (kk : zW X B g (pc + 1) lv (.long v :: st)) : zW X B g pc lv (st) := by
  obtain ⟨p, l, e, R, s, m, args, below, meth, c, Q, k1, sl1⟩ := X
  obtain ⟨hx, hb, hml, hown, hts, hK, hSt, hR, hlk⟩ := o
  intro H locs ls hP hD hS hl
  exact lv_lconst hx hb hd hv (kk H locs ls hP hD hS hl)
theorem z_ldc {X : zX} {B : zB} {g : Nat → va_E} {own : String} {cc : ByteArray} {nL d pc : Nat} {lv : List (Nat × Value)} {st : List Value} {ix : Nat} {v : Int32} (o : zOk X B own cc nL d) (hd : decode cc pc = .ok (.ldc ix, 2)) (hc : Cond.constant own ix v ∈ zTB) (kk : zW X B g (pc + 2) lv (.int v :: st)) : zW X B g pc lv (st) := by
  obtain ⟨p, l, e, R, s, m, args, below, meth, c, Q, k1, sl1⟩ := X
  obtain ⟨hx, hb, hml, hown, hts, hK, hSt, hR, hlk⟩ := o
  intro H locs ls hP hD hS hl
  exact lv_ldc hx hb hown (hts _ hc) hd (kk H locs ls hP hD hS hl)
theorem z_ldcw {X : zX} {B : zB} {g : Nat → va_E} {own : String} {cc : ByteArray} {nL d pc : Nat} {lv : List (Nat × Value)} {st : List Value} {ix : Nat} {v : Int32} (o : zOk X B own cc nL d) (hd : decode cc pc = .ok (.ldc_w ix, 3)) (hc : Cond.constant own ix v ∈ zTB) (kk : zW X B g (pc + 3) lv (.int v :: st)) : zW X B g pc lv (st) := by
  obtain ⟨p, l, e, R, s, m, args, below, meth, c, Q, k1, sl1⟩ := X
  obtain ⟨hx, hb, hml, hown, hts, hK, hSt, hR, hlk⟩ := o
  intro H locs ls hP hD hS hl
  exact lv_ldcw hx hb hown (hts _ hc) hd (kk H locs ls hP hD hS hl)
theorem z_ldc2 {X : zX} {B : zB} {g : Nat → va_E} {own : String} {cc : ByteArray} {nL d pc : Nat} {lv : List (Nat × Value)} {st : List Value} {ix : Nat} {v : Int64} (o : zOk X B own cc nL d) (hd : decode cc pc = .ok (.ldc2_w ix, 3)) (hc : Cond.constantLong own ix v ∈ zTB) (kk : zW X B g (pc + 3) lv (.long v :: st)) : zW X B g pc lv (st) := by
  obtain ⟨p, l, e, R, s, m, args, below, meth, c, Q, k1, sl1⟩ := X
  obtain ⟨hx, hb, hml, hown, hts, hK, hSt, hR, hlk⟩ := o
  intro H locs ls hP hD hS hl
  exact lv_ldc2 hx hb hown (hts _ hc) hd (kk H locs ls hP hD hS hl)
theorem z_iload_n {X : zX} {B : zB} {g : Nat → va_E} {own : String} {cc : ByteArray} {nL d pc : Nat} {lv : List (Nat × Value)} {st : List Value} {k : Fin 4} {j : Nat} {v : Int32} (o : zOk X B own cc nL d) (hd : decode cc pc = .ok (.iload_n k, 1)) (hv : lv[j]? = some ((k : Nat), .int v)) (kk : zW X B g (pc + 1) lv (.int v :: st)) : zW X B g pc lv (st) := by
  obtain ⟨p, l, e, R, s, m, args, below, meth, c, Q, k1, sl1⟩ := X
  obtain ⟨hx, hb, hml, hown, hts, hK, hSt, hR, hlk⟩ := o
  intro H locs ls hP hD hS hl
  exact lv_iload_n hx hb hd rfl (lv_at hl j hv) (kk H locs ls hP hD hS hl)
theorem z_iload {X : zX} {B : zB} {g : Nat → va_E} {own : String} {cc : ByteArray} {nL d pc : Nat} {lv : List (Nat × Value)} {st : List Value} {i j : Nat} {v : Int32} (o : zOk X B own cc nL d) (hd : decode cc pc = .ok (.iload i, 2)) (hv : lv[j]? = some (i, .int v)) (kk : zW X B g (pc + 2) lv (.int v :: st)) : zW X B g pc lv (st) := by
  obtain ⟨p, l, e, R, s, m, args, below, meth, c, Q, k1, sl1⟩ := X
  obtain ⟨hx, hb, hml, hown, hts, hK, hSt, hR, hlk⟩ := o
  intro H locs ls hP hD hS hl
  exact lv_iload hx hb hd (lv_at hl j hv) (kk H locs ls hP hD hS hl)
theorem z_lload_n {X : zX} {B : zB} {g : Nat → va_E} {own : String} {cc : ByteArray} {nL d pc : Nat} {lv : List (Nat × Value)} {st : List Value} {k : Fin 4} {j : Nat} {v : Int64} (o : zOk X B own cc nL d) (hd : decode cc pc = .ok (.lload_n k, 1)) (hv : lv[j]? = some ((k : Nat), .long v)) (kk : zW X B g (pc + 1) lv (.long v :: st)) : zW X B g pc lv (st) := by
  obtain ⟨p, l, e, R, s, m, args, below, meth, c, Q, k1, sl1⟩ := X
  obtain ⟨hx, hb, hml, hown, hts, hK, hSt, hR, hlk⟩ := o
  intro H locs ls hP hD hS hl
  exact lv_lload_n hx hb hd rfl (lv_at hl j hv) (kk H locs ls hP hD hS hl)
theorem z_lload {X : zX} {B : zB} {g : Nat → va_E} {own : String} {cc : ByteArray} {nL d pc : Nat} {lv : List (Nat × Value)} {st : List Value} {i j : Nat} {v : Int64} (o : zOk X B own cc nL d) (hd : decode cc pc = .ok (.lload i, 2)) (hv : lv[j]? = some (i, .long v)) (kk : zW X B g (pc + 2) lv (.long v :: st)) : zW X B g pc lv (st) := by
  obtain ⟨p, l, e, R, s, m, args, below, meth, c, Q, k1, sl1⟩ := X
  obtain ⟨hx, hb, hml, hown, hts, hK, hSt, hR, hlk⟩ := o
  intro H locs ls hP hD hS hl
  exact lv_lload hx hb hd (lv_at hl j hv) (kk H locs ls hP hD hS hl)
theorem z_aload_n {X : zX} {B : zB} {g : Nat → va_E} {own : String} {cc : ByteArray} {nL d pc : Nat} {lv : List (Nat × Value)} {st : List Value} {k : Fin 4} {j : Nat} {v : Nat} (o : zOk X B own cc nL d) (hd : decode cc pc = .ok (.aload_n k, 1)) (hv : lv[j]? = some ((k : Nat), .ref v)) (kk : zW X B g (pc + 1) lv (.ref v :: st)) : zW X B g pc lv (st) := by
  obtain ⟨p, l, e, R, s, m, args, below, meth, c, Q, k1, sl1⟩ := X
  obtain ⟨hx, hb, hml, hown, hts, hK, hSt, hR, hlk⟩ := o
  intro H locs ls hP hD hS hl
  exact lv_aload_n hx hb hd rfl (lv_at hl j hv) (kk H locs ls hP hD hS hl)
theorem z_aload {X : zX} {B : zB} {g : Nat → va_E} {own : String} {cc : ByteArray} {nL d pc : Nat} {lv : List (Nat × Value)} {st : List Value} {i j : Nat} {v : Nat} (o : zOk X B own cc nL d) (hd : decode cc pc = .ok (.aload i, 2)) (hv : lv[j]? = some (i, .ref v)) (kk : zW X B g (pc + 2) lv (.ref v :: st)) : zW X B g pc lv (st) := by
  obtain ⟨p, l, e, R, s, m, args, below, meth, c, Q, k1, sl1⟩ := X
  obtain ⟨hx, hb, hml, hown, hts, hK, hSt, hR, hlk⟩ := o
  intro H locs ls hP hD hS hl
  exact lv_aload hx hb hd (lv_at hl j hv) (kk H locs ls hP hD hS hl)
theorem z_istore_n {X : zX} {B : zB} {g : Nat → va_E} {own : String} {cc : ByteArray} {nL d pc : Nat} {lv : List (Nat × Value)} {st : List Value} {k : Fin 4} {i : Nat} {v : Int32} {lv2 : List (Nat × Value)} (o : zOk X B own cc nL d) (hd : decode cc pc = .ok (.istore_n k, 1)) (hi : (k : Nat) = i) (hn : i < nL) (hl2 : (i, Value.int v) :: lv.filter (fun q => !(q.1 == i) && !(q.1 + 1 == i && q.2.category == 2)) = lv2) (kk : zW X B g (pc + 1) lv2 (st)) : zW X B g pc lv (.int v :: st) := by
  obtain ⟨p, l, e, R, s, m, args, below, meth, c, Q, k1, sl1⟩ := X
  obtain ⟨hx, hb, hml, hown, hts, hK, hSt, hR, hlk⟩ := o
  intro H locs ls hP hD hS hl
  exact lv_istore_n hx hb hd hi hl (by rw [hml]; exact hn) hl2 (fun ls9 hl9 => kk H locs ls9 hP hD hS hl9)
theorem z_istore {X : zX} {B : zB} {g : Nat → va_E} {own : String} {cc : ByteArray} {nL d pc : Nat} {lv : List (Nat × Value)} {st : List Value} {i : Nat} {v : Int32} {lv2 : List (Nat × Value)} (o : zOk X B own cc nL d) (hd : decode cc pc = .ok (.istore i, 2)) (hn : i < nL) (hl2 : (i, Value.int v) :: lv.filter (fun q => !(q.1 == i) && !(q.1 + 1 == i && q.2.category == 2)) = lv2) (kk : zW X B g (pc + 2) lv2 (st)) : zW X B g pc lv (.int v :: st) := by
  obtain ⟨p, l, e, R, s, m, args, below, meth, c, Q, k1, sl1⟩ := X
  obtain ⟨hx, hb, hml, hown, hts, hK, hSt, hR, hlk⟩ := o
  intro H locs ls hP hD hS hl
  exact lv_istore hx hb hd hl (by rw [hml]; exact hn) hl2 (fun ls9 hl9 => kk H locs ls9 hP hD hS hl9)
theorem z_lstore_n {X : zX} {B : zB} {g : Nat → va_E} {own : String} {cc : ByteArray} {nL d pc : Nat} {lv : List (Nat × Value)} {st : List Value} {k : Fin 4} {i : Nat} {v : Int64} {lv2 : List (Nat × Value)} (o : zOk X B own cc nL d) (hd : decode cc pc = .ok (.lstore_n k, 1)) (hi : (k : Nat) = i) (hn : i + 1 < nL) (hl2 : (i, Value.long v) :: lv.filter (fun q => !(q.1 == i) && (!(q.1 == i + 1) && !(q.1 + 1 == i && q.2.category == 2))) = lv2) (kk : zW X B g (pc + 1) lv2 (st)) : zW X B g pc lv (.long v :: st) := by
  obtain ⟨p, l, e, R, s, m, args, below, meth, c, Q, k1, sl1⟩ := X
  obtain ⟨hx, hb, hml, hown, hts, hK, hSt, hR, hlk⟩ := o
  intro H locs ls hP hD hS hl
  exact lv_lstore_n hx hb hd hi hl (by rw [hml]; exact hn) hl2 (fun ls9 hl9 => kk H locs ls9 hP hD hS hl9)
theorem z_lstore {X : zX} {B : zB} {g : Nat → va_E} {own : String} {cc : ByteArray} {nL d pc : Nat} {lv : List (Nat × Value)} {st : List Value} {i : Nat} {v : Int64} {lv2 : List (Nat × Value)} (o : zOk X B own cc nL d) (hd : decode cc pc = .ok (.lstore i, 2)) (hn : i + 1 < nL) (hl2 : (i, Value.long v) :: lv.filter (fun q => !(q.1 == i) && (!(q.1 == i + 1) && !(q.1 + 1 == i && q.2.category == 2))) = lv2) (kk : zW X B g (pc + 2) lv2 (st)) : zW X B g pc lv (.long v :: st) := by
  obtain ⟨p, l, e, R, s, m, args, below, meth, c, Q, k1, sl1⟩ := X
  obtain ⟨hx, hb, hml, hown, hts, hK, hSt, hR, hlk⟩ := o
  intro H locs ls hP hD hS hl
  exact lv_lstore hx hb hd hl (by rw [hml]; exact hn) hl2 (fun ls9 hl9 => kk H locs ls9 hP hD hS hl9)
theorem z_astore_n {X : zX} {B : zB} {g : Nat → va_E} {own : String} {cc : ByteArray} {nL d pc : Nat} {lv : List (Nat × Value)} {st : List Value} {k : Fin 4} {i : Nat} {v : Nat} {lv2 : List (Nat × Value)} (o : zOk X B own cc nL d) (hd : decode cc pc = .ok (.astore_n k, 1)) (hi : (k : Nat) = i) (hn : i < nL) (hl2 : (i, Value.ref v) :: lv.filter (fun q => !(q.1 == i) && !(q.1 + 1 == i && q.2.category == 2)) = lv2) (kk : zW X B g (pc + 1) lv2 (st)) : zW X B g pc lv (.ref v :: st) := by
  obtain ⟨p, l, e, R, s, m, args, below, meth, c, Q, k1, sl1⟩ := X
  obtain ⟨hx, hb, hml, hown, hts, hK, hSt, hR, hlk⟩ := o
  intro H locs ls hP hD hS hl
  exact lv_astore_n hx hb hd hi hl (by rw [hml]; exact hn) hl2 (fun ls9 hl9 => kk H locs ls9 hP hD hS hl9)
theorem z_astore {X : zX} {B : zB} {g : Nat → va_E} {own : String} {cc : ByteArray} {nL d pc : Nat} {lv : List (Nat × Value)} {st : List Value} {i : Nat} {v : Nat} {lv2 : List (Nat × Value)} (o : zOk X B own cc nL d) (hd : decode cc pc = .ok (.astore i, 2)) (hn : i < nL) (hl2 : (i, Value.ref v) :: lv.filter (fun q => !(q.1 == i) && !(q.1 + 1 == i && q.2.category == 2)) = lv2) (kk : zW X B g (pc + 2) lv2 (st)) : zW X B g pc lv (.ref v :: st) := by
  obtain ⟨p, l, e, R, s, m, args, below, meth, c, Q, k1, sl1⟩ := X
  obtain ⟨hx, hb, hml, hown, hts, hK, hSt, hR, hlk⟩ := o
  intro H locs ls hP hD hS hl
  exact lv_astore hx hb hd hl (by rw [hml]; exact hn) hl2 (fun ls9 hl9 => kk H locs ls9 hP hD hS hl9)
theorem z_iinc {X : zX} {B : zB} {g : Nat → va_E} {own : String} {cc : ByteArray} {nL d pc : Nat} {lv : List (Nat × Value)} {st : List Value} {i j : Nat} {n : Int} {x v : Int32} {lv2 : List (Nat × Value)} (o : zOk X B own cc nL d) (hd : decode cc pc = .ok (.iinc i n, 3)) (hk : lv[j]? = some (i, .int x)) (hv : x + Int32.ofInt n = v) (hn : i < nL) (hl2 : (i, Value.int v) :: lv.filter (fun q => !(q.1 == i) && !(q.1 + 1 == i && q.2.category == 2)) = lv2) (kk : zW X B g (pc + 3) lv2 (st)) : zW X B g pc lv (st) := by
  obtain ⟨p, l, e, R, s, m, args, below, meth, c, Q, k1, sl1⟩ := X
  obtain ⟨hx, hb, hml, hown, hts, hK, hSt, hR, hlk⟩ := o
  intro H locs ls hP hD hS hl
  exact lv_iinc hx hb hd hl hk hv (by rw [hml]; exact hn) hl2 (fun ls9 hl9 => kk H locs ls9 hP hD hS hl9)
theorem z_iadd {X : zX} {B : zB} {g : Nat → va_E} {own : String} {cc : ByteArray} {nL d pc : Nat} {lv : List (Nat × Value)} {st : List Value} {x y : Int32} (o : zOk X B own cc nL d) (hd : decode cc pc = .ok (.iadd, 1))  (kk : zW X B g (pc + 1) lv (.int (x + y) :: st)) : zW X B g pc lv (.int y :: .int x :: st) := by
  obtain ⟨p, l, e, R, s, m, args, below, meth, c, Q, k1, sl1⟩ := X
  obtain ⟨hx, hb, hml, hown, hts, hK, hSt, hR, hlk⟩ := o
  intro H locs ls hP hD hS hl
  exact lv_iadd hx hb hd (kk H locs ls hP hD hS hl)
theorem z_isub {X : zX} {B : zB} {g : Nat → va_E} {own : String} {cc : ByteArray} {nL d pc : Nat} {lv : List (Nat × Value)} {st : List Value} {x y : Int32} (o : zOk X B own cc nL d) (hd : decode cc pc = .ok (.isub, 1))  (kk : zW X B g (pc + 1) lv (.int (x - y) :: st)) : zW X B g pc lv (.int y :: .int x :: st) := by
  obtain ⟨p, l, e, R, s, m, args, below, meth, c, Q, k1, sl1⟩ := X
  obtain ⟨hx, hb, hml, hown, hts, hK, hSt, hR, hlk⟩ := o
  intro H locs ls hP hD hS hl
  exact lv_isub hx hb hd (kk H locs ls hP hD hS hl)
theorem z_imul {X : zX} {B : zB} {g : Nat → va_E} {own : String} {cc : ByteArray} {nL d pc : Nat} {lv : List (Nat × Value)} {st : List Value} {x y : Int32} (o : zOk X B own cc nL d) (hd : decode cc pc = .ok (.imul, 1))  (kk : zW X B g (pc + 1) lv (.int (x * y) :: st)) : zW X B g pc lv (.int y :: .int x :: st) := by
  obtain ⟨p, l, e, R, s, m, args, below, meth, c, Q, k1, sl1⟩ := X
  obtain ⟨hx, hb, hml, hown, hts, hK, hSt, hR, hlk⟩ := o
  intro H locs ls hP hD hS hl
  exact lv_imul hx hb hd (kk H locs ls hP hD hS hl)
theorem z_iand {X : zX} {B : zB} {g : Nat → va_E} {own : String} {cc : ByteArray} {nL d pc : Nat} {lv : List (Nat × Value)} {st : List Value} {x y : Int32} (o : zOk X B own cc nL d) (hd : decode cc pc = .ok (.iand, 1))  (kk : zW X B g (pc + 1) lv (.int (x &&& y) :: st)) : zW X B g pc lv (.int y :: .int x :: st) := by
  obtain ⟨p, l, e, R, s, m, args, below, meth, c, Q, k1, sl1⟩ := X
  obtain ⟨hx, hb, hml, hown, hts, hK, hSt, hR, hlk⟩ := o
  intro H locs ls hP hD hS hl
  exact lv_iand hx hb hd (kk H locs ls hP hD hS hl)
theorem z_ior {X : zX} {B : zB} {g : Nat → va_E} {own : String} {cc : ByteArray} {nL d pc : Nat} {lv : List (Nat × Value)} {st : List Value} {x y : Int32} (o : zOk X B own cc nL d) (hd : decode cc pc = .ok (.ior, 1))  (kk : zW X B g (pc + 1) lv (.int (x ||| y) :: st)) : zW X B g pc lv (.int y :: .int x :: st) := by
  obtain ⟨p, l, e, R, s, m, args, below, meth, c, Q, k1, sl1⟩ := X
  obtain ⟨hx, hb, hml, hown, hts, hK, hSt, hR, hlk⟩ := o
  intro H locs ls hP hD hS hl
  exact lv_ior hx hb hd (kk H locs ls hP hD hS hl)
theorem z_ixor {X : zX} {B : zB} {g : Nat → va_E} {own : String} {cc : ByteArray} {nL d pc : Nat} {lv : List (Nat × Value)} {st : List Value} {x y : Int32} (o : zOk X B own cc nL d) (hd : decode cc pc = .ok (.ixor, 1))  (kk : zW X B g (pc + 1) lv (.int (x ^^^ y) :: st)) : zW X B g pc lv (.int y :: .int x :: st) := by
  obtain ⟨p, l, e, R, s, m, args, below, meth, c, Q, k1, sl1⟩ := X
  obtain ⟨hx, hb, hml, hown, hts, hK, hSt, hR, hlk⟩ := o
  intro H locs ls hP hD hS hl
  exact lv_ixor hx hb hd (kk H locs ls hP hD hS hl)
theorem z_ishl {X : zX} {B : zB} {g : Nat → va_E} {own : String} {cc : ByteArray} {nL d pc : Nat} {lv : List (Nat × Value)} {st : List Value} {x y : Int32} (o : zOk X B own cc nL d) (hd : decode cc pc = .ok (.ishl, 1))  (kk : zW X B g (pc + 1) lv (.int (x <<< (y &&& 31)) :: st)) : zW X B g pc lv (.int y :: .int x :: st) := by
  obtain ⟨p, l, e, R, s, m, args, below, meth, c, Q, k1, sl1⟩ := X
  obtain ⟨hx, hb, hml, hown, hts, hK, hSt, hR, hlk⟩ := o
  intro H locs ls hP hD hS hl
  exact lv_ishl hx hb hd (kk H locs ls hP hD hS hl)
theorem z_ishr {X : zX} {B : zB} {g : Nat → va_E} {own : String} {cc : ByteArray} {nL d pc : Nat} {lv : List (Nat × Value)} {st : List Value} {x y : Int32} (o : zOk X B own cc nL d) (hd : decode cc pc = .ok (.ishr, 1))  (kk : zW X B g (pc + 1) lv (.int (x >>> (y &&& 31)) :: st)) : zW X B g pc lv (.int y :: .int x :: st) := by
  obtain ⟨p, l, e, R, s, m, args, below, meth, c, Q, k1, sl1⟩ := X
  obtain ⟨hx, hb, hml, hown, hts, hK, hSt, hR, hlk⟩ := o
  intro H locs ls hP hD hS hl
  exact lv_ishr hx hb hd (kk H locs ls hP hD hS hl)
theorem z_idiv {X : zX} {B : zB} {g : Nat → va_E} {own : String} {cc : ByteArray} {nL d pc : Nat} {lv : List (Nat × Value)} {st : List Value} {x y : Int32} (o : zOk X B own cc nL d) (hd : decode cc pc = .ok (.idiv, 1)) (hne : ¬ y = 0) (kk : zW X B g (pc + 1) lv (.int (x / y) :: st)) : zW X B g pc lv (.int y :: .int x :: st) := by
  obtain ⟨p, l, e, R, s, m, args, below, meth, c, Q, k1, sl1⟩ := X
  obtain ⟨hx, hb, hml, hown, hts, hK, hSt, hR, hlk⟩ := o
  intro H locs ls hP hD hS hl
  exact lv_idiv hx hb hd hne (kk H locs ls hP hD hS hl)
theorem z_irem {X : zX} {B : zB} {g : Nat → va_E} {own : String} {cc : ByteArray} {nL d pc : Nat} {lv : List (Nat × Value)} {st : List Value} {x y : Int32} (o : zOk X B own cc nL d) (hd : decode cc pc = .ok (.irem, 1)) (hne : ¬ y = 0) (kk : zW X B g (pc + 1) lv (.int (x - x / y * y) :: st)) : zW X B g pc lv (.int y :: .int x :: st) := by
  obtain ⟨p, l, e, R, s, m, args, below, meth, c, Q, k1, sl1⟩ := X
  obtain ⟨hx, hb, hml, hown, hts, hK, hSt, hR, hlk⟩ := o
  intro H locs ls hP hD hS hl
  exact lv_irem hx hb hd hne (kk H locs ls hP hD hS hl)
theorem z_ineg {X : zX} {B : zB} {g : Nat → va_E} {own : String} {cc : ByteArray} {nL d pc : Nat} {lv : List (Nat × Value)} {st : List Value} {x : Int32} (o : zOk X B own cc nL d) (hd : decode cc pc = .ok (.ineg, 1))  (kk : zW X B g (pc + 1) lv (.int (-x) :: st)) : zW X B g pc lv (.int x :: st) := by
  obtain ⟨p, l, e, R, s, m, args, below, meth, c, Q, k1, sl1⟩ := X
  obtain ⟨hx, hb, hml, hown, hts, hK, hSt, hR, hlk⟩ := o
  intro H locs ls hP hD hS hl
  exact lv_ineg hx hb hd (kk H locs ls hP hD hS hl)
theorem z_ladd {X : zX} {B : zB} {g : Nat → va_E} {own : String} {cc : ByteArray} {nL d pc : Nat} {lv : List (Nat × Value)} {st : List Value} {x y : Int64} (o : zOk X B own cc nL d) (hd : decode cc pc = .ok (.ladd, 1))  (kk : zW X B g (pc + 1) lv (.long (x + y) :: st)) : zW X B g pc lv (.long y :: .long x :: st) := by
  obtain ⟨p, l, e, R, s, m, args, below, meth, c, Q, k1, sl1⟩ := X
  obtain ⟨hx, hb, hml, hown, hts, hK, hSt, hR, hlk⟩ := o
  intro H locs ls hP hD hS hl
  exact lv_ladd hx hb hd (kk H locs ls hP hD hS hl)
theorem z_lsub {X : zX} {B : zB} {g : Nat → va_E} {own : String} {cc : ByteArray} {nL d pc : Nat} {lv : List (Nat × Value)} {st : List Value} {x y : Int64} (o : zOk X B own cc nL d) (hd : decode cc pc = .ok (.lsub, 1))  (kk : zW X B g (pc + 1) lv (.long (x - y) :: st)) : zW X B g pc lv (.long y :: .long x :: st) := by
  obtain ⟨p, l, e, R, s, m, args, below, meth, c, Q, k1, sl1⟩ := X
  obtain ⟨hx, hb, hml, hown, hts, hK, hSt, hR, hlk⟩ := o
  intro H locs ls hP hD hS hl
  exact lv_lsub hx hb hd (kk H locs ls hP hD hS hl)
theorem z_land {X : zX} {B : zB} {g : Nat → va_E} {own : String} {cc : ByteArray} {nL d pc : Nat} {lv : List (Nat × Value)} {st : List Value} {x y : Int64} (o : zOk X B own cc nL d) (hd : decode cc pc = .ok (.land, 1))  (kk : zW X B g (pc + 1) lv (.long (x &&& y) :: st)) : zW X B g pc lv (.long y :: .long x :: st) := by
  obtain ⟨p, l, e, R, s, m, args, below, meth, c, Q, k1, sl1⟩ := X
  obtain ⟨hx, hb, hml, hown, hts, hK, hSt, hR, hlk⟩ := o
  intro H locs ls hP hD hS hl
  exact lv_land hx hb hd (kk H locs ls hP hD hS hl)
theorem z_lor {X : zX} {B : zB} {g : Nat → va_E} {own : String} {cc : ByteArray} {nL d pc : Nat} {lv : List (Nat × Value)} {st : List Value} {x y : Int64} (o : zOk X B own cc nL d) (hd : decode cc pc = .ok (.lor, 1))  (kk : zW X B g (pc + 1) lv (.long (x ||| y) :: st)) : zW X B g pc lv (.long y :: .long x :: st) := by
  obtain ⟨p, l, e, R, s, m, args, below, meth, c, Q, k1, sl1⟩ := X
  obtain ⟨hx, hb, hml, hown, hts, hK, hSt, hR, hlk⟩ := o
  intro H locs ls hP hD hS hl
  exact lv_lor hx hb hd (kk H locs ls hP hD hS hl)
theorem z_lxor {X : zX} {B : zB} {g : Nat → va_E} {own : String} {cc : ByteArray} {nL d pc : Nat} {lv : List (Nat × Value)} {st : List Value} {x y : Int64} (o : zOk X B own cc nL d) (hd : decode cc pc = .ok (.lxor, 1))  (kk : zW X B g (pc + 1) lv (.long (x ^^^ y) :: st)) : zW X B g pc lv (.long y :: .long x :: st) := by
  obtain ⟨p, l, e, R, s, m, args, below, meth, c, Q, k1, sl1⟩ := X
  obtain ⟨hx, hb, hml, hown, hts, hK, hSt, hR, hlk⟩ := o
  intro H locs ls hP hD hS hl
  exact lv_lxor hx hb hd (kk H locs ls hP hD hS hl)
def ziushr (x y : Int32) : Int32 := (x.toUInt32 >>> (y.toUInt32 &&& Int32.toUInt32 31)).toInt32
def zlushr (x : Int64) (y : Int32) : Int64 := (x.toUInt64 >>> (y.toInt64.toUInt64 &&& Int64.toUInt64 63)).toInt64
def zlshl (x : Int64) (y : Int32) : Int64 := x <<< (y.toInt64 &&& 63)
def zlshr (x : Int64) (y : Int32) : Int64 := x >>> (y.toInt64 &&& 63)
theorem z_iushr {X : zX} {B : zB} {g : Nat → va_E} {own : String} {cc : ByteArray} {nL d pc : Nat} {lv : List (Nat × Value)} {st : List Value} {x y : Int32} (o : zOk X B own cc nL d) (hd : decode cc pc = .ok (.iushr, 1))  (kk : zW X B g (pc + 1) lv (.int (ziushr x y) :: st)) : zW X B g pc lv (.int y :: .int x :: st) := by
  obtain ⟨p, l, e, R, s, m, args, below, meth, c, Q, k1, sl1⟩ := X
  obtain ⟨hx, hb, hml, hown, hts, hK, hSt, hR, hlk⟩ := o
  intro H locs ls hP hD hS hl
  exact lv_iushr hx hb hd (v := ziushr x y) rfl (kk H locs ls hP hD hS hl)
theorem z_lushr {X : zX} {B : zB} {g : Nat → va_E} {own : String} {cc : ByteArray} {nL d pc : Nat} {lv : List (Nat × Value)} {st : List Value} {x : Int64} {y : Int32} (o : zOk X B own cc nL d) (hd : decode cc pc = .ok (.lushr, 1))  (kk : zW X B g (pc + 1) lv (.long (zlushr x y) :: st)) : zW X B g pc lv (.int y :: .long x :: st) := by
  obtain ⟨p, l, e, R, s, m, args, below, meth, c, Q, k1, sl1⟩ := X
  obtain ⟨hx, hb, hml, hown, hts, hK, hSt, hR, hlk⟩ := o
  intro H locs ls hP hD hS hl
  exact lv_lushr hx hb hd (v := zlushr x y) rfl (kk H locs ls hP hD hS hl)
theorem z_lshl {X : zX} {B : zB} {g : Nat → va_E} {own : String} {cc : ByteArray} {nL d pc : Nat} {lv : List (Nat × Value)} {st : List Value} {x : Int64} {y : Int32} (o : zOk X B own cc nL d) (hd : decode cc pc = .ok (.lshl, 1))  (kk : zW X B g (pc + 1) lv (.long (zlshl x y) :: st)) : zW X B g pc lv (.int y :: .long x :: st) := by
  obtain ⟨p, l, e, R, s, m, args, below, meth, c, Q, k1, sl1⟩ := X
  obtain ⟨hx, hb, hml, hown, hts, hK, hSt, hR, hlk⟩ := o
  intro H locs ls hP hD hS hl
  exact lv_lshl hx hb hd (v := zlshl x y) rfl (kk H locs ls hP hD hS hl)
theorem z_lshr {X : zX} {B : zB} {g : Nat → va_E} {own : String} {cc : ByteArray} {nL d pc : Nat} {lv : List (Nat × Value)} {st : List Value} {x : Int64} {y : Int32} (o : zOk X B own cc nL d) (hd : decode cc pc = .ok (.lshr, 1))  (kk : zW X B g (pc + 1) lv (.long (zlshr x y) :: st)) : zW X B g pc lv (.int y :: .long x :: st) := by
  obtain ⟨p, l, e, R, s, m, args, below, meth, c, Q, k1, sl1⟩ := X
  obtain ⟨hx, hb, hml, hown, hts, hK, hSt, hR, hlk⟩ := o
  intro H locs ls hP hD hS hl
  exact lv_lshr hx hb hd (v := zlshr x y) rfl (kk H locs ls hP hD hS hl)
theorem z_i2l {X : zX} {B : zB} {g : Nat → va_E} {own : String} {cc : ByteArray} {nL d pc : Nat} {lv : List (Nat × Value)} {st : List Value} {x : Int32} (o : zOk X B own cc nL d) (hd : decode cc pc = .ok (.i2l, 1))  (kk : zW X B g (pc + 1) lv (.long x.toInt64 :: st)) : zW X B g pc lv (.int x :: st) := by
  obtain ⟨p, l, e, R, s, m, args, below, meth, c, Q, k1, sl1⟩ := X
  obtain ⟨hx, hb, hml, hown, hts, hK, hSt, hR, hlk⟩ := o
  intro H locs ls hP hD hS hl
  exact lv_i2l hx hb hd rfl (kk H locs ls hP hD hS hl)
theorem z_l2i {X : zX} {B : zB} {g : Nat → va_E} {own : String} {cc : ByteArray} {nL d pc : Nat} {lv : List (Nat × Value)} {st : List Value} {x : Int64} (o : zOk X B own cc nL d) (hd : decode cc pc = .ok (.l2i, 1))  (kk : zW X B g (pc + 1) lv (.int x.toInt32 :: st)) : zW X B g pc lv (.long x :: st) := by
  obtain ⟨p, l, e, R, s, m, args, below, meth, c, Q, k1, sl1⟩ := X
  obtain ⟨hx, hb, hml, hown, hts, hK, hSt, hR, hlk⟩ := o
  intro H locs ls hP hD hS hl
  exact lv_l2i hx hb hd rfl (kk H locs ls hP hD hS hl)
theorem z_i2b {X : zX} {B : zB} {g : Nat → va_E} {own : String} {cc : ByteArray} {nL d pc : Nat} {lv : List (Nat × Value)} {st : List Value} {x : Int32} (o : zOk X B own cc nL d) (hd : decode cc pc = .ok (.i2b, 1))  (kk : zW X B g (pc + 1) lv (.int x.toInt8.toInt32 :: st)) : zW X B g pc lv (.int x :: st) := by
  obtain ⟨p, l, e, R, s, m, args, below, meth, c, Q, k1, sl1⟩ := X
  obtain ⟨hx, hb, hml, hown, hts, hK, hSt, hR, hlk⟩ := o
  intro H locs ls hP hD hS hl
  exact lv_i2b hx hb hd rfl (kk H locs ls hP hD hS hl)
theorem z_i2s {X : zX} {B : zB} {g : Nat → va_E} {own : String} {cc : ByteArray} {nL d pc : Nat} {lv : List (Nat × Value)} {st : List Value} {x : Int32} (o : zOk X B own cc nL d) (hd : decode cc pc = .ok (.i2s, 1))  (kk : zW X B g (pc + 1) lv (.int x.toInt16.toInt32 :: st)) : zW X B g pc lv (.int x :: st) := by
  obtain ⟨p, l, e, R, s, m, args, below, meth, c, Q, k1, sl1⟩ := X
  obtain ⟨hx, hb, hml, hown, hts, hK, hSt, hR, hlk⟩ := o
  intro H locs ls hP hD hS hl
  exact lv_i2s hx hb hd rfl (kk H locs ls hP hD hS hl)
theorem z_i2c {X : zX} {B : zB} {g : Nat → va_E} {own : String} {cc : ByteArray} {nL d pc : Nat} {lv : List (Nat × Value)} {st : List Value} {x : Int32} (o : zOk X B own cc nL d) (hd : decode cc pc = .ok (.i2c, 1))  (kk : zW X B g (pc + 1) lv (.int (x.toUInt32 % 65536).toInt32 :: st)) : zW X B g pc lv (.int x :: st) := by
  obtain ⟨p, l, e, R, s, m, args, below, meth, c, Q, k1, sl1⟩ := X
  obtain ⟨hx, hb, hml, hown, hts, hK, hSt, hR, hlk⟩ := o
  intro H locs ls hP hD hS hl
  exact lv_i2c hx hb hd rfl (kk H locs ls hP hD hS hl)
theorem z_dup {X : zX} {B : zB} {g : Nat → va_E} {own : String} {cc : ByteArray} {nL d pc : Nat} {lv : List (Nat × Value)} {st : List Value} {va : Value} (o : zOk X B own cc nL d) (hd : decode cc pc = .ok (.dup, 1)) (h1 : va.category = 1) (kk : zW X B g (pc + 1) lv (va :: va :: st)) : zW X B g pc lv (va :: st) := by
  obtain ⟨p, l, e, R, s, m, args, below, meth, c, Q, k1, sl1⟩ := X
  obtain ⟨hx, hb, hml, hown, hts, hK, hSt, hR, hlk⟩ := o
  intro H locs ls hP hD hS hl
  exact lv_dup hx hb hd h1 (kk H locs ls hP hD hS hl)
theorem z_pop {X : zX} {B : zB} {g : Nat → va_E} {own : String} {cc : ByteArray} {nL d pc : Nat} {lv : List (Nat × Value)} {st : List Value} {va : Value} (o : zOk X B own cc nL d) (hd : decode cc pc = .ok (.pop, 1)) (h1 : va.category = 1) (kk : zW X B g (pc + 1) lv (st)) : zW X B g pc lv (va :: st) := by
  obtain ⟨p, l, e, R, s, m, args, below, meth, c, Q, k1, sl1⟩ := X
  obtain ⟨hx, hb, hml, hown, hts, hK, hSt, hR, hlk⟩ := o
  intro H locs ls hP hD hS hl
  exact lv_pop hx hb hd h1 (kk H locs ls hP hD hS hl)
theorem z_dup_x1 {X : zX} {B : zB} {g : Nat → va_E} {own : String} {cc : ByteArray} {nL d pc : Nat} {lv : List (Nat × Value)} {st : List Value} {va vb : Value} (o : zOk X B own cc nL d) (hd : decode cc pc = .ok (.dup_x1, 1)) (h1 : va.category = 1) (h2 : vb.category = 1) (kk : zW X B g (pc + 1) lv (va :: vb :: va :: st)) : zW X B g pc lv (va :: vb :: st) := by
  obtain ⟨p, l, e, R, s, m, args, below, meth, c, Q, k1, sl1⟩ := X
  obtain ⟨hx, hb, hml, hown, hts, hK, hSt, hR, hlk⟩ := o
  intro H locs ls hP hD hS hl
  exact lv_dup_x1 hx hb hd h1 h2 (kk H locs ls hP hD hS hl)
theorem z_dup_x2 {X : zX} {B : zB} {g : Nat → va_E} {own : String} {cc : ByteArray} {nL d pc : Nat} {lv : List (Nat × Value)} {st : List Value} {va vb vd : Value} (o : zOk X B own cc nL d) (hd : decode cc pc = .ok (.dup_x2, 1)) (h1 : va.category = 1) (h2 : vb.category = 1) (h3 : vd.category = 1) (kk : zW X B g (pc + 1) lv (va :: vb :: vd :: va :: st)) : zW X B g pc lv (va :: vb :: vd :: st) := by
  obtain ⟨p, l, e, R, s, m, args, below, meth, c, Q, k1, sl1⟩ := X
  obtain ⟨hx, hb, hml, hown, hts, hK, hSt, hR, hlk⟩ := o
  intro H locs ls hP hD hS hl
  exact lv_dup_x2 hx hb hd h1 h2 h3 (kk H locs ls hP hD hS hl)
theorem z_dup2 {X : zX} {B : zB} {g : Nat → va_E} {own : String} {cc : ByteArray} {nL d pc : Nat} {lv : List (Nat × Value)} {st : List Value} {va vb : Value} (o : zOk X B own cc nL d) (hd : decode cc pc = .ok (.dup2, 1)) (h1 : va.category = 1) (h2 : vb.category = 1) (kk : zW X B g (pc + 1) lv (va :: vb :: va :: vb :: st)) : zW X B g pc lv (va :: vb :: st) := by
  obtain ⟨p, l, e, R, s, m, args, below, meth, c, Q, k1, sl1⟩ := X
  obtain ⟨hx, hb, hml, hown, hts, hK, hSt, hR, hlk⟩ := o
  intro H locs ls hP hD hS hl
  exact lv_dup2_11 hx hb hd h1 h2 (kk H locs ls hP hD hS hl)
theorem z_goto {X : zX} {B : zB} {g : Nat → va_E} {own : String} {cc : ByteArray} {nL d pc : Nat} {lv : List (Nat × Value)} {st : List Value} {off : Int} {tgt : Nat} (o : zOk X B own cc nL d) (hd : decode cc pc = .ok (.goto off, 3)) (ht : (pc : Int) + off = (tgt : Int)) (kk : zW X B g tgt lv (st)) : zW X B g pc lv (st) := by
  obtain ⟨p, l, e, R, s, m, args, below, meth, c, Q, k1, sl1⟩ := X
  obtain ⟨hx, hb, hml, hown, hts, hK, hSt, hR, hlk⟩ := o
  intro H locs ls hP hD hS hl
  exact lv_goto hx hb hd ht (kk H locs ls hP hD hS hl)
theorem z_ifeq {X : zX} {B : zB} {g : Nat → va_E} {own : String} {cc : ByteArray} {nL d pc : Nat} {lv : List (Nat × Value)} {st : List Value} {x : Int32} {off : Int} {tgt : Nat} (o : zOk X B own cc nL d) (hd : decode cc pc = .ok (.ifCond .eq off, 3)) (ht : (pc : Int) + off = (tgt : Int)) (kt : x = 0 → zW X B g tgt lv st) (kf : ¬ x = 0 → zW X B g (pc + 3) lv st) : zW X B g pc lv (.int x :: st) := by
  obtain ⟨p, l, e, R, s, m, args, below, meth, c, Q, k1, sl1⟩ := X
  obtain ⟨hx, hb, hml, hown, hts, hK, hSt, hR, hlk⟩ := o
  intro H locs ls hP hD hS hl
  exact lv_if_eq hx hb hd ht (fun q => kt q H locs ls hP hD hS hl) (fun q => kf q H locs ls hP hD hS hl)
theorem z_iflt {X : zX} {B : zB} {g : Nat → va_E} {own : String} {cc : ByteArray} {nL d pc : Nat} {lv : List (Nat × Value)} {st : List Value} {x : Int32} {off : Int} {tgt : Nat} (o : zOk X B own cc nL d) (hd : decode cc pc = .ok (.ifCond .lt off, 3)) (ht : (pc : Int) + off = (tgt : Int)) (kt : x < 0 → zW X B g tgt lv st) (kf : ¬ x < 0 → zW X B g (pc + 3) lv st) : zW X B g pc lv (.int x :: st) := by
  obtain ⟨p, l, e, R, s, m, args, below, meth, c, Q, k1, sl1⟩ := X
  obtain ⟨hx, hb, hml, hown, hts, hK, hSt, hR, hlk⟩ := o
  intro H locs ls hP hD hS hl
  exact lv_if_lt hx hb hd ht (fun q => kt q H locs ls hP hD hS hl) (fun q => kf q H locs ls hP hD hS hl)
theorem z_ifne {X : zX} {B : zB} {g : Nat → va_E} {own : String} {cc : ByteArray} {nL d pc : Nat} {lv : List (Nat × Value)} {st : List Value} {x : Int32} {off : Int} {tgt : Nat} (o : zOk X B own cc nL d) (hd : decode cc pc = .ok (.ifCond .ne off, 3)) (ht : (pc : Int) + off = (tgt : Int)) (kt : ¬ x = 0 → zW X B g tgt lv st) (kf : x = 0 → zW X B g (pc + 3) lv st) : zW X B g pc lv (.int x :: st) := by
  obtain ⟨p, l, e, R, s, m, args, below, meth, c, Q, k1, sl1⟩ := X
  obtain ⟨hx, hb, hml, hown, hts, hK, hSt, hR, hlk⟩ := o
  intro H locs ls hP hD hS hl
  exact lv_if_ne hx hb hd ht (fun q => kt q H locs ls hP hD hS hl) (fun q => kf q H locs ls hP hD hS hl)
theorem z_ifge {X : zX} {B : zB} {g : Nat → va_E} {own : String} {cc : ByteArray} {nL d pc : Nat} {lv : List (Nat × Value)} {st : List Value} {x : Int32} {off : Int} {tgt : Nat} (o : zOk X B own cc nL d) (hd : decode cc pc = .ok (.ifCond .ge off, 3)) (ht : (pc : Int) + off = (tgt : Int)) (kt : 0 ≤ x → zW X B g tgt lv st) (kf : ¬ 0 ≤ x → zW X B g (pc + 3) lv st) : zW X B g pc lv (.int x :: st) := by
  obtain ⟨p, l, e, R, s, m, args, below, meth, c, Q, k1, sl1⟩ := X
  obtain ⟨hx, hb, hml, hown, hts, hK, hSt, hR, hlk⟩ := o
  intro H locs ls hP hD hS hl
  exact lv_if_ge hx hb hd ht (fun q => kt q H locs ls hP hD hS hl) (fun q => kf q H locs ls hP hD hS hl)
theorem z_ifgt {X : zX} {B : zB} {g : Nat → va_E} {own : String} {cc : ByteArray} {nL d pc : Nat} {lv : List (Nat × Value)} {st : List Value} {x : Int32} {off : Int} {tgt : Nat} (o : zOk X B own cc nL d) (hd : decode cc pc = .ok (.ifCond .gt off, 3)) (ht : (pc : Int) + off = (tgt : Int)) (kt : 0 < x → zW X B g tgt lv st) (kf : ¬ 0 < x → zW X B g (pc + 3) lv st) : zW X B g pc lv (.int x :: st) := by
  obtain ⟨p, l, e, R, s, m, args, below, meth, c, Q, k1, sl1⟩ := X
  obtain ⟨hx, hb, hml, hown, hts, hK, hSt, hR, hlk⟩ := o
  intro H locs ls hP hD hS hl
  exact lv_if_gt hx hb hd ht (fun q => kt q H locs ls hP hD hS hl) (fun q => kf q H locs ls hP hD hS hl)
theorem z_ifle {X : zX} {B : zB} {g : Nat → va_E} {own : String} {cc : ByteArray} {nL d pc : Nat} {lv : List (Nat × Value)} {st : List Value} {x : Int32} {off : Int} {tgt : Nat} (o : zOk X B own cc nL d) (hd : decode cc pc = .ok (.ifCond .le off, 3)) (ht : (pc : Int) + off = (tgt : Int)) (kt : x ≤ 0 → zW X B g tgt lv st) (kf : ¬ x ≤ 0 → zW X B g (pc + 3) lv st) : zW X B g pc lv (.int x :: st) := by
  obtain ⟨p, l, e, R, s, m, args, below, meth, c, Q, k1, sl1⟩ := X
  obtain ⟨hx, hb, hml, hown, hts, hK, hSt, hR, hlk⟩ := o
  intro H locs ls hP hD hS hl
  exact lv_if_le hx hb hd ht (fun q => kt q H locs ls hP hD hS hl) (fun q => kf q H locs ls hP hD hS hl)
theorem z_icmpeq {X : zX} {B : zB} {g : Nat → va_E} {own : String} {cc : ByteArray} {nL d pc : Nat} {lv : List (Nat × Value)} {st : List Value} {x y : Int32} {off : Int} {tgt : Nat} (o : zOk X B own cc nL d) (hd : decode cc pc = .ok (.if_icmp .eq off, 3)) (ht : (pc : Int) + off = (tgt : Int)) (kt : x = y → zW X B g tgt lv st) (kf : ¬ x = y → zW X B g (pc + 3) lv st) : zW X B g pc lv (.int y :: .int x :: st) := by
  obtain ⟨p, l, e, R, s, m, args, below, meth, c, Q, k1, sl1⟩ := X
  obtain ⟨hx, hb, hml, hown, hts, hK, hSt, hR, hlk⟩ := o
  intro H locs ls hP hD hS hl
  exact lv_icmp_eq hx hb hd ht (fun q => kt q H locs ls hP hD hS hl) (fun q => kf q H locs ls hP hD hS hl)
theorem z_icmpne {X : zX} {B : zB} {g : Nat → va_E} {own : String} {cc : ByteArray} {nL d pc : Nat} {lv : List (Nat × Value)} {st : List Value} {x y : Int32} {off : Int} {tgt : Nat} (o : zOk X B own cc nL d) (hd : decode cc pc = .ok (.if_icmp .ne off, 3)) (ht : (pc : Int) + off = (tgt : Int)) (kt : ¬ x = y → zW X B g tgt lv st) (kf : x = y → zW X B g (pc + 3) lv st) : zW X B g pc lv (.int y :: .int x :: st) := by
  obtain ⟨p, l, e, R, s, m, args, below, meth, c, Q, k1, sl1⟩ := X
  obtain ⟨hx, hb, hml, hown, hts, hK, hSt, hR, hlk⟩ := o
  intro H locs ls hP hD hS hl
  exact lv_icmp_ne hx hb hd ht (fun q => kt q H locs ls hP hD hS hl) (fun q => kf q H locs ls hP hD hS hl)
theorem z_icmplt {X : zX} {B : zB} {g : Nat → va_E} {own : String} {cc : ByteArray} {nL d pc : Nat} {lv : List (Nat × Value)} {st : List Value} {x y : Int32} {off : Int} {tgt : Nat} (o : zOk X B own cc nL d) (hd : decode cc pc = .ok (.if_icmp .lt off, 3)) (ht : (pc : Int) + off = (tgt : Int)) (kt : x < y → zW X B g tgt lv st) (kf : ¬ x < y → zW X B g (pc + 3) lv st) : zW X B g pc lv (.int y :: .int x :: st) := by
  obtain ⟨p, l, e, R, s, m, args, below, meth, c, Q, k1, sl1⟩ := X
  obtain ⟨hx, hb, hml, hown, hts, hK, hSt, hR, hlk⟩ := o
  intro H locs ls hP hD hS hl
  exact lv_icmp_lt hx hb hd ht (fun q => kt q H locs ls hP hD hS hl) (fun q => kf q H locs ls hP hD hS hl)
theorem z_icmpge {X : zX} {B : zB} {g : Nat → va_E} {own : String} {cc : ByteArray} {nL d pc : Nat} {lv : List (Nat × Value)} {st : List Value} {x y : Int32} {off : Int} {tgt : Nat} (o : zOk X B own cc nL d) (hd : decode cc pc = .ok (.if_icmp .ge off, 3)) (ht : (pc : Int) + off = (tgt : Int)) (kt : y ≤ x → zW X B g tgt lv st) (kf : ¬ y ≤ x → zW X B g (pc + 3) lv st) : zW X B g pc lv (.int y :: .int x :: st) := by
  obtain ⟨p, l, e, R, s, m, args, below, meth, c, Q, k1, sl1⟩ := X
  obtain ⟨hx, hb, hml, hown, hts, hK, hSt, hR, hlk⟩ := o
  intro H locs ls hP hD hS hl
  exact lv_icmp_ge hx hb hd ht (fun q => kt q H locs ls hP hD hS hl) (fun q => kf q H locs ls hP hD hS hl)
theorem z_icmpgt {X : zX} {B : zB} {g : Nat → va_E} {own : String} {cc : ByteArray} {nL d pc : Nat} {lv : List (Nat × Value)} {st : List Value} {x y : Int32} {off : Int} {tgt : Nat} (o : zOk X B own cc nL d) (hd : decode cc pc = .ok (.if_icmp .gt off, 3)) (ht : (pc : Int) + off = (tgt : Int)) (kt : y < x → zW X B g tgt lv st) (kf : ¬ y < x → zW X B g (pc + 3) lv st) : zW X B g pc lv (.int y :: .int x :: st) := by
  obtain ⟨p, l, e, R, s, m, args, below, meth, c, Q, k1, sl1⟩ := X
  obtain ⟨hx, hb, hml, hown, hts, hK, hSt, hR, hlk⟩ := o
  intro H locs ls hP hD hS hl
  exact lv_icmp_gt hx hb hd ht (fun q => kt q H locs ls hP hD hS hl) (fun q => kf q H locs ls hP hD hS hl)
theorem z_icmple {X : zX} {B : zB} {g : Nat → va_E} {own : String} {cc : ByteArray} {nL d pc : Nat} {lv : List (Nat × Value)} {st : List Value} {x y : Int32} {off : Int} {tgt : Nat} (o : zOk X B own cc nL d) (hd : decode cc pc = .ok (.if_icmp .le off, 3)) (ht : (pc : Int) + off = (tgt : Int)) (kt : x ≤ y → zW X B g tgt lv st) (kf : ¬ x ≤ y → zW X B g (pc + 3) lv st) : zW X B g pc lv (.int y :: .int x :: st) := by
  obtain ⟨p, l, e, R, s, m, args, below, meth, c, Q, k1, sl1⟩ := X
  obtain ⟨hx, hb, hml, hown, hts, hK, hSt, hR, hlk⟩ := o
  intro H locs ls hP hD hS hl
  exact lv_icmp_le hx hb hd ht (fun q => kt q H locs ls hP hD hS hl) (fun q => kf q H locs ls hP hD hS hl)
end
section
/-! memory -/
def zFld (own : String) (ix ci k : Nat) : Prop := ∃ (C : String) (T : u_T) (Nf : Nat), zcl[ci]? = some (C, T, Nf) ∧ k < Nf ∧ (∀ w ∈ u_ws C T Nf, w ∈ zTB) ∧ Cond.fieldLink own ix (T k).1 (T k).2.1 (T k).2.2.1 ∈ zTB
def zFldW (own : String) (ix ci k : Nat) (ty : FieldType) (fin : Bool) : Prop := ∃ (C : String) (T : u_T) (Nf : Nat) (ty0 : Nat → FieldType), zcl[ci]? = some (C, T, Nf) ∧ k < Nf ∧ (∀ w ∈ u_ws C T Nf, w ∈ zTB) ∧ Cond.fieldLink own ix (T k).1 (T k).2.1 (T k).2.2.1 ∈ zTB ∧ (∀ j, j < Nf → parseFieldDescriptor (T j).2.2.1 = some (ty0 j)) ∧ (∀ a, a < Nf → ∀ b, b < Nf → a ≠ b → (T a).2.1 ≠ (T b).2.1) ∧ (T k).2.2.2 = fin ∧ parseFieldDescriptor (T k).2.2.1 = some ty ∧ (T k).1 = own
def zFldP (own : String) (ix ci k : Nat) (ty : FieldType) : Prop := ∃ (C : String) (T : u_T) (Nf : Nat) (ty0 : Nat → FieldType), zcl[ci]? = some (C, T, Nf) ∧ k < Nf ∧ (∀ w ∈ u_ws C T Nf, w ∈ zTB) ∧ Cond.fieldLink own ix (T k).1 (T k).2.1 (T k).2.2.1 ∈ zTB ∧ (∀ j, j < Nf → parseFieldDescriptor (T j).2.2.1 = some (ty0 j)) ∧ (∀ a, a < Nf → ∀ b, b < Nf → a ≠ b → (T a).2.1 ≠ (T b).2.1) ∧ (T k).2.2.2 = false ∧ parseFieldDescriptor (T k).2.2.1 = some ty
theorem z_getf {X : zX} {B : zB} {g : Nat → va_E} {own : String} {cc : ByteArray} {nL d pc : Nat} {lv : List (Nat × Value)} {st : List Value} {ix ci k i : Nat} {fs : List Value} {v : Value} (o : zOk X B own cc nL d) (hd : decode cc pc = .ok (.getfield ix, 3)) (hF : zFld own ix ci k) (hi : i < znn B) (he : g i = .inr (ci, fs)) (hv : fs[k]? = some v) (kk : zW X B g (pc + 3) lv (v :: st)) : zW X B g pc lv (zref B i :: st) := by
  obtain ⟨p, l, e, R, s, m, args, below, meth, c, Q, k1, sl1⟩ := X
  obtain ⟨hx, hb, hml, hown, hts, hK, hSt, hR, hlk⟩ := o
  intro H locs ls hP hD hS hl
  obtain ⟨C, T, Nf, f1, f2, f3, f4⟩ := hF
  exact va_get (D := B.1) hx hb hts f3 hown hK hP i (zwl_e hi he) f1 k f2 (hts _ f4) (fun _ h9 => h9) hv hd (kk H locs ls hP hD hS hl)
theorem z_putf {X : zX} {B : zB} {g : Nat → va_E} {own : String} {cc : ByteArray} {nL d pc : Nat} {lv : List (Nat × Value)} {st : List Value} {ix ci k i : Nat} {fs : List Value} {v : Value} {ty : FieldType} (o : zOk X B own cc nL d) (hd : decode cc pc = .ok (.putfield ix, 3)) (hF : zFldP own ix ci k ty) (hi : i < znn B) (he : g i = .inr (ci, fs)) (hn : narrow ty v = v) (hfit : fits ty v = true) (hlen : k < fs.length) (kk : zW X B (va_up g i (.inr (ci, fs.set k v))) (pc + 3) lv st) : zW X B g pc lv (v :: zref B i :: st) := by
  obtain ⟨p, l, e, R, s, m, args, below, meth, c, Q, k1, sl1⟩ := X
  obtain ⟨hx, hb, hml, hown, hts, hK, hSt, hR, hlk⟩ := o
  intro H locs ls hP hD hS hl
  obtain ⟨C, T, Nf, ty0, f1, f2, f3, f4, f5, f6, f7, f8⟩ := hF
  exact va_put (D := B.1) hx hb hts f3 ty0 f5 f6 hown hK hP hD hS i (zwl_e hi he) f1 k f2 (hts _ f4) (fun _ h9 => h9) f7 f8 hn hfit hlen hd (fun H1 locs1 hP1 hD1 hS1 => kk H1 locs1 ls (by rw [zwl_set hi] at hP1; exact hP1) (by rw [zwl_set hi] at hD1; exact hD1) hS1 hl)
def zInit (X : zX) : Prop := match X with | (p, l, e, R, s, m, args, below, meth, c, Q, k, sl) => meth.name = "<init>"
theorem z_putF {X : zX} {B : zB} {g : Nat → va_E} {own : String} {cc : ByteArray} {nL d pc : Nat} {lv : List (Nat × Value)} {st : List Value} {ix ci k i : Nat} {fs : List Value} {v : Value} {ty : FieldType} (o : zOk X B own cc nL d) (hin : zInit X) (hd : decode cc pc = .ok (.putfield ix, 3)) (hF : zFldW own ix ci k ty true) (hi : i < znn B) (he : g i = .inr (ci, fs)) (hn : narrow ty v = v) (hfit : fits ty v = true) (hlen : k < fs.length) (kk : zW X B (va_up g i (.inr (ci, fs.set k v))) (pc + 3) lv st) : zW X B g pc lv (v :: zref B i :: st) := by
  obtain ⟨p, l, e, R, s, m, args, below, meth, c, Q, k1, sl1⟩ := X
  obtain ⟨hx, hb, hml, hown, hts, hK, hSt, hR, hlk⟩ := o
  intro H locs ls hP hD hS hl
  obtain ⟨C, T, Nf, ty0, f1, f2, f3, f4, f5, f6, f7, f8, f9⟩ := hF
  exact va_putF (D := B.1) hx hb hts f3 ty0 f5 f6 hown hK hP hD hS i (zwl_e hi he) f1 k f2 (hts _ f4) (fun _ h9 => h9) f7 hin f9 f8 hn hfit hlen hd (fun H1 locs1 hP1 hD1 hS1 => kk H1 locs1 ls (by rw [zwl_set hi] at hP1; exact hP1) (by rw [zwl_set hi] at hD1; exact hD1) hS1 hl)
theorem z_iald {X : zX} {B : zB} {g : Nat → va_E} {own : String} {cc : ByteArray} {nL d pc : Nat} {lv : List (Nat × Value)} {st : List Value} {i n : Nat} {f : Nat → Int32} {j : Int32} (o : zOk X B own cc nL d) (hd : decode cc pc = .ok (.iaload, 1)) (hi : i < znn B) (he : g i = .inl (zcy B 1, n, .inl f)) (hin : vp_in j n) (kk : zW X B g (pc + 1) lv (.int (f j.toNatClampNeg) :: st)) : zW X B g pc lv (.int j :: zref B i :: st) := by
  obtain ⟨p, l, e, R, s, m, args, below, meth, c, Q, k1, sl1⟩ := X
  obtain ⟨hx, hb, hml, hown, hts, hK, hSt, hR, hlk⟩ := o
  intro H locs ls hP hD hS hl
  exact va_iald (D := B.1) hx hb hK hP i 1 (zwl_e hi he) rfl hin hd (kk H locs ls hP hD hS hl)
theorem z_bald {X : zX} {B : zB} {g : Nat → va_E} {own : String} {cc : ByteArray} {nL d pc : Nat} {lv : List (Nat × Value)} {st : List Value} {i n : Nat} {f : Nat → Int32} {j : Int32} (o : zOk X B own cc nL d) (hd : decode cc pc = .ok (.baload, 1)) (hi : i < znn B) (he : g i = .inl (zcy B 0, n, .inl f)) (hin : vp_in j n) (kk : zW X B g (pc + 1) lv (.int (f j.toNatClampNeg) :: st)) : zW X B g pc lv (.int j :: zref B i :: st) := by
  obtain ⟨p, l, e, R, s, m, args, below, meth, c, Q, k1, sl1⟩ := X
  obtain ⟨hx, hb, hml, hown, hts, hK, hSt, hR, hlk⟩ := o
  intro H locs ls hP hD hS hl
  exact va_bald (D := B.1) hx hb hK hP i 0 (zwl_e hi he) rfl hin hd (kk H locs ls hP hD hS hl)
theorem z_lald {X : zX} {B : zB} {g : Nat → va_E} {own : String} {cc : ByteArray} {nL d pc : Nat} {lv : List (Nat × Value)} {st : List Value} {i n : Nat} {f : Nat → Int64} {j : Int32} (o : zOk X B own cc nL d) (hd : decode cc pc = .ok (.laload, 1)) (hi : i < znn B) (he : g i = .inl (zcy B 2, n, .inr (.inl f))) (hin : vp_in j n) (kk : zW X B g (pc + 1) lv (.long (f j.toNatClampNeg) :: st)) : zW X B g pc lv (.int j :: zref B i :: st) := by
  obtain ⟨p, l, e, R, s, m, args, below, meth, c, Q, k1, sl1⟩ := X
  obtain ⟨hx, hb, hml, hown, hts, hK, hSt, hR, hlk⟩ := o
  intro H locs ls hP hD hS hl
  exact va_lald (D := B.1) hx hb hK hP i 2 (zwl_e hi he) rfl hin hd (kk H locs ls hP hD hS hl)
theorem z_iast {X : zX} {B : zB} {g : Nat → va_E} {own : String} {cc : ByteArray} {nL d pc : Nat} {lv : List (Nat × Value)} {st : List Value} {i n : Nat} {f : Nat → Int32} {j : Int32} {x : Int32} (o : zOk X B own cc nL d) (hd : decode cc pc = .ok (.iastore, 1)) (hi : i < znn B) (he : g i = .inl (zcy B 1, n, .inl f)) (hin : vp_in j n) (kk : zW X B (va_up g i (.inl (zcy B 1, n, .inl (upd f j.toNatClampNeg x)))) (pc + 1) lv st) : zW X B g pc lv (.int x :: .int j :: zref B i :: st) := by
  obtain ⟨p, l, e, R, s, m, args, below, meth, c, Q, k1, sl1⟩ := X
  obtain ⟨hx, hb, hml, hown, hts, hK, hSt, hR, hlk⟩ := o
  intro H locs ls hP hD hS hl
  exact va_iast (D := B.1) hx hb hK hP hD hS i 1 (zwl_e hi he) rfl hin hd (fun H1 locs1 hP1 hD1 hS1 => kk H1 locs1 ls (by rw [zwl_set hi] at hP1; exact hP1) (by rw [zwl_set hi] at hD1; exact hD1) hS1 hl)
theorem z_bast {X : zX} {B : zB} {g : Nat → va_E} {own : String} {cc : ByteArray} {nL d pc : Nat} {lv : List (Nat × Value)} {st : List Value} {i n : Nat} {f : Nat → Int32} {j : Int32} {x : Int32} (o : zOk X B own cc nL d) (hd : decode cc pc = .ok (.bastore, 1)) (hi : i < znn B) (he : g i = .inl (zcy B 0, n, .inl f)) (hin : vp_in j n) (kk : zW X B (va_up g i (.inl (zcy B 0, n, .inl (upd f j.toNatClampNeg (vp_nar .byte x))))) (pc + 1) lv st) : zW X B g pc lv (.int x :: .int j :: zref B i :: st) := by
  obtain ⟨p, l, e, R, s, m, args, below, meth, c, Q, k1, sl1⟩ := X
  obtain ⟨hx, hb, hml, hown, hts, hK, hSt, hR, hlk⟩ := o
  intro H locs ls hP hD hS hl
  exact va_bast (D := B.1) hx hb hK hP hD hS i 0 (zwl_e hi he) rfl hin hd (fun H1 locs1 hP1 hD1 hS1 => kk H1 locs1 ls (by rw [zwl_set hi] at hP1; exact hP1) (by rw [zwl_set hi] at hD1; exact hD1) hS1 hl)
theorem z_last {X : zX} {B : zB} {g : Nat → va_E} {own : String} {cc : ByteArray} {nL d pc : Nat} {lv : List (Nat × Value)} {st : List Value} {i n : Nat} {f : Nat → Int64} {j : Int32} {x : Int64} (o : zOk X B own cc nL d) (hd : decode cc pc = .ok (.lastore, 1)) (hi : i < znn B) (he : g i = .inl (zcy B 2, n, .inr (.inl f))) (hin : vp_in j n) (kk : zW X B (va_up g i (.inl (zcy B 2, n, .inr (.inl (vp_updL f j.toNatClampNeg x))))) (pc + 1) lv st) : zW X B g pc lv (.long x :: .int j :: zref B i :: st) := by
  obtain ⟨p, l, e, R, s, m, args, below, meth, c, Q, k1, sl1⟩ := X
  obtain ⟨hx, hb, hml, hown, hts, hK, hSt, hR, hlk⟩ := o
  intro H locs ls hP hD hS hl
  exact va_last (D := B.1) hx hb hK hP hD hS i 2 (zwl_e hi he) rfl hin hd (fun H1 locs1 hP1 hD1 hS1 => kk H1 locs1 ls (by rw [zwl_set hi] at hP1; exact hP1) (by rw [zwl_set hi] at hD1; exact hD1) hS1 hl)
theorem z_aald {X : zX} {B : zB} {g : Nat → va_E} {own : String} {cc : ByteArray} {nL d pc : Nat} {lv : List (Nat × Value)} {st : List Value} {i n t : Nat} {C : String} {f : Nat → Option Nat} {j : Int32} (o : zOk X B own cc nL d) (hd : decode cc pc = .ok (.aaload, 1)) (hi : i < znn B) (he : g i = .inl (zcy B t, n, .inr (.inr (.inr (.inr f))))) (ht : (zty (zcy B))[t]? = some (zcy B t, .object C)) (hin : vp_in j n) (kk : zW X B g (pc + 1) lv (va_rf (f j.toNatClampNeg) :: st)) : zW X B g pc lv (.int j :: zref B i :: st) := by
  obtain ⟨p, l, e, R, s, m, args, below, meth, c, Q, k1, sl1⟩ := X
  obtain ⟨hx, hb, hml, hown, hts, hK, hSt, hR, hlk⟩ := o
  intro H locs ls hP hD hS hl
  exact va_aldq (D := B.1) hx hb hK hP i t (zwl_e hi he) ht hin hd (kk H locs ls hP hD hS hl)
theorem z_alen {X : zX} {B : zB} {g : Nat → va_E} {own : String} {cc : ByteArray} {nL d pc : Nat} {lv : List (Nat × Value)} {st : List Value} {i t : Nat} {x : vp_A} {ty : FieldType} (o : zOk X B own cc nL d) (hd : decode cc pc = .ok (.arraylength, 1)) (hi : i < znn B) (he : g i = .inl (zcy B t, x)) (ht : (zty (zcy B))[t]? = some (zcy B t, ty)) (kk : zW X B g (pc + 1) lv (.int (Int32.ofNat x.1) :: st)) : zW X B g pc lv (zref B i :: st) := by
  obtain ⟨p, l, e, R, s, m, args, below, meth, c, Q, k1, sl1⟩ := X
  obtain ⟨hx, hb, hml, hown, hts, hK, hSt, hR, hlk⟩ := o
  intro H locs ls hP hD hS hl
  exact va_alen (D := B.1) hx hb hK hP i t (zwl_e hi he) ht rfl hd (kk H locs ls hP hD hS hl)
theorem z_lcmp {X : zX} {B : zB} {g : Nat → va_E} {own : String} {cc : ByteArray} {nL d pc : Nat} {lv : List (Nat × Value)} {st : List Value} {x y : Int64} (o : zOk X B own cc nL d) (hd : decode cc pc = .ok (.lcmp, 1)) (kk : zW X B g (pc + 1) lv (.int (lg_cmp x y) :: st)) : zW X B g pc lv (.long y :: .long x :: st) := by
  obtain ⟨p, l, e, R, s, m, args, below, meth, c, Q, k1, sl1⟩ := X
  obtain ⟨hx, hb, hml, hown, hts, hK, hSt, hR, hlk⟩ := o
  intro H locs ls hP hD hS hl
  exact W.lcmp hx hb hd (kk H locs ls hP hD hS hl)
/-- the table ABOVE: a length, or a number of it -/
theorem z_aboveLen {X : zX} {B : zB} {g : Nat → va_E} {own : String} {cc : ByteArray} {nL d pc : Nat} {lv : List (Nat × Value)} {st : List Value} {ix : Nat} (o : zOk X B own cc nL d) (hd : decode cc pc = .ok (.getstatic ix, 3)) (hl0 : Cond.fieldLink own ix "WalkFences" "ABOVE" "[I" ∈ zTB) (hd2 : decode cc (pc + 3) = .ok (.arraylength, 1)) (kk : zW X B g (pc + 3 + 1) lv (.int 7 :: st)) : zW X B g pc lv st := by
  obtain ⟨p, l, e, R, s, m, args, below, meth, c, Q, k1, sl1⟩ := X
  obtain ⟨hx, hb, hml, hown, hts, hK, hSt, hR, hlk⟩ := o
  intro H locs ls hP hD hS hl
  obtain ⟨⟨t, hZ, hT⟩, -⟩ := hSt
  refine va_gets hx hb hZ hS hown (hts _ hl0) (fun _ h9 => h9) hd ?_
  exact va_tlen hx hb hT hS rfl hd2 (kk H locs ls hP hD hS hl)
theorem z_aboveAt {X : zX} {B : zB} {g : Nat → va_E} {own : String} {cc : ByteArray} {nL d pc : Nat} {lv : List (Nat × Value)} {st : List Value} {ix k j1 : Nat} {kk4 : Fin 4} {j : Int32} (o : zOk X B own cc nL d) (hd : decode cc pc = .ok (.getstatic ix, 3)) (hl0 : Cond.fieldLink own ix "WalkFences" "ABOVE" "[I" ∈ zTB) (hd1 : decode cc (pc + 3) = .ok (.iload_n kk4, 1)) (hv : lv[j1]? = some ((kk4 : Nat), .int j)) (hd2 : decode cc (pc + 3 + 1) = .ok (.iaload, 1)) (hin : vp_in j 7) (kk : zW X B g (pc + 3 + 1 + 1) lv (.int (([-1, 0, 0, 0, 1, 2, 0] : List Int32).getD j.toNatClampNeg 0) :: st)) : zW X B g pc lv st := by
  obtain ⟨p, l, e, R, s, m, args, below, meth, c, Q, k1, sl1⟩ := X
  obtain ⟨hx, hb, hml, hown, hts, hK, hSt, hR, hlk⟩ := o
  intro H locs ls hP hD hS hl
  obtain ⟨⟨t, hZ, hT⟩, -⟩ := hSt
  refine va_gets hx hb hZ hS hown (hts _ hl0) (fun _ h9 => h9) hd ?_
  refine lv_iload_n hx hb hd1 rfl (lv_at hl j1 hv) ?_
  exact va_ti hx hb hT hS hin rfl hd2 (kk H locs ls hP hD hS hl)
/-! contracts -/
def zR (d : Nat) : Room := { frames := d, cells := 0, slots := 0, locals := 60 * d }
def zCi (B : zB) (g : Nat → va_E) (y : MethodName) (cc : ByteArray) (nL : Nat) (ret : Option FieldType) (d : Nat) (av : List Value) (post : Int32 → (Nat → va_E) → Prop) : Prop := ∀ l : Launch, Met l y (.code y cc nL ret :: zTB) (zR d) (va_Pc av (zIn B g)) (va_Qi post (fun u t => zIn B u t) (zA (zlo B))) 0 0 (zA (zlo B))
def zCl (B : zB) (g : Nat → va_E) (y : MethodName) (cc : ByteArray) (nL : Nat) (ret : Option FieldType) (d : Nat) (av : List Value) (post : Int64 → (Nat → va_E) → Prop) : Prop := ∀ l : Launch, Met l y (.code y cc nL ret :: zTB) (zR d) (va_Pc av (zIn B g)) (va_Ql post (fun u t => zIn B u t) (zA (zlo B))) 0 0 (zA (zlo B))
def zCv (B : zB) (g : Nat → va_E) (y : MethodName) (cc : ByteArray) (nL : Nat) (ret : Option FieldType) (d : Nat) (av : List Value) (post : (Nat → va_E) → Prop) : Prop := ∀ l : Launch, Met l y (.code y cc nL ret :: zTB) (zR d) (va_Pc av (zIn B g)) (va_Qv post (fun u t => zIn B u t) (zA (zlo B))) 0 0 (zA (zlo B))
def zCr (B : zB) (g : Nat → va_E) (y : MethodName) (cc : ByteArray) (nL : Nat) (ret : Option FieldType) (d : Nat) (av : List Value) (post : Nat → (Nat → va_E) → Prop) : Prop := ∀ l : Launch, Met l y (.code y cc nL ret :: zTB) (zR d) (va_Pc av (zIn B g)) (va_Qr (fun u : Nat × (Nat → va_E) => post u.1 u.2) (fun u ra t => u.1 = ra ∧ zIn B u.2 t) (zA (zlo B))) 0 0 (zA (zlo B))
theorem zIn_blind {B : zB} {g : Nat → va_E} {av : List Value} : FrameBlind (va_Pc av (zIn B g)) := by
  intro a U gf mk h
  obtain ⟨h0, h1, h2, h3, h4⟩ := h
  exact ⟨h0, h1, h2, va_K.moved (u := U) (U := U.calling gf mk a) (Vm.Alike.refl U.vm) h3, zSt_same h4 rfl rfl⟩
theorem zIn_of {B : zB} {g : Nat → va_E} {s U : State} {H : Heap} {locs : List Loc} (hP : va_P B.1 zcl (zwl (zad B) (znn B) g) H) (hD : va_D (zA (zlo B)) (zwl (zad B) (znn B) g)) (hK : va_K B.1 zcl (zty (zcy B)) s) (hSt : zSt B s) (hS : va_S (zA (zlo B)) s.heap H locs) (hU : U.heap = H) (hW : s.WarmedH U.vm) : zIn B g U :=
  ⟨by rw [hU]; exact hP, hD, va_K.moved hW.alike hK, zSt_kept hSt hW hS hU⟩
/-- a body's frame, for any of the four kinds of answer -/
theorem zBody {B : zB} {g : Nat → va_E} {y : MethodName} {cc : ByteArray} {nL d : Nat} {ret : Option FieldType} {av : List Value} {Qc : Array Value → State → Outcome → State → Prop} (hy : plainName y.cls = true) (hn : (lg_sl av).length ≤ nL)
    (body : ∀ (p : Program) (l : Launch) (e : Env) (s : State) (m : MethodId) (below : List Frame) (meth : Method) (c : Code), meth.sig.returnType = ret → (y.name = "<init>" → meth.name = "<init>") → zOk (p, l, e, zR d, s, m, av.toArray, below, meth, c, MQ below Qc av.toArray s 0 0 (zA (zlo B)), 0, 0) B y.cls cc nL d → zW (p, l, e, zR d, s, m, av.toArray, below, meth, c, MQ below Qc av.toArray s 0 0 (zA (zlo B)), 0, 0) B g 0 (lv_args 0 av) []) (l : Launch) : Met l y (.code y cc nL ret :: zTB) (zR d) (va_Pc av (zIn B g)) Qc 0 0 (zA (zlo B)) := by
  refine Met.ofW (cc := cc) (maxL := nL) (ret := ret) hy rfl ?_
  intro p e s m args below meth c s₁ Bo hml hv
  obtain ⟨rfl, hP, hD, hK, hSt⟩ := hv
  have hts0 := atoms_spec (ws := .code y cc nL ret :: zTB) Bo.pre
  have hown : s.vm.findClass y.cls = some m.cls := findClass_of_methodNamed Bo.named
  have hnm : meth.name = y.name := (name_of_methodNamed Bo.named Bo.method).1
  have hl := lv_entry av (n := nL) hn
  rw [lg_entry_eq]
  generalize (lg_sl av ++ List.replicate (nL - (lg_sl av).length) Slot.unset).toArray = ls at hl ⊢
  exact body p l e s m below meth c Bo.returns (fun h => hnm.trans h) ⟨Bo.exec, Bo.bytes, hml, hown, fun w hw => hts0 w (List.mem_cons_of_mem _ hw), hK, hSt, ⟨Nat.le_refl _, Nat.le_refl _, Nat.le_refl _, Nat.le_refl _⟩, Bo.notSynchronized⟩ s.heap [] ls hP hD va_S.rf (by rw [hml]; exact hl)
theorem zCi_of {B : zB} {g : Nat → va_E} {y : MethodName} {cc : ByteArray} {nL d : Nat} {ret : Option FieldType} {av : List Value} {post : Int32 → (Nat → va_E) → Prop} (hy : plainName y.cls = true) (hn : (lg_sl av).length ≤ nL) (ty : FieldType) (hret : ret = some ty) (hnar : ∀ r g', post r g' → narrow ty (.int r) = .int r)
    (body : ∀ X : zX, zOk X B y.cls cc nL d → (∀ (r : Int32) (g' : Nat → va_E) (pc : Nat) (lv : List (Nat × Value)), decode cc pc = .ok (.ireturn, 1) → post r g' → zW X B g' pc lv [.int r]) → zW X B g 0 (lv_args 0 av) []) : zCi B g y cc nL ret d av post := by
  intro l
  refine zBody hy hn (fun p l e s m below meth c hr _ o => body _ o ?_) l
  intro r g' pc lv hd hp
  obtain ⟨hx, hb, hml, hown, hts, hK, hSt, hR, hlk⟩ := o
  intro H locs ls hP hD hS hl
  exact W.zret hx hb (hr.trans hret) (hnar r g' hp) (fun t ht hW => ⟨⟨r, g', rfl, hp, zIn_of hP hD hK hSt hS ht hW⟩, hS.F ht⟩) hS.2.2 hd hlk
theorem zCl_of {B : zB} {g : Nat → va_E} {y : MethodName} {cc : ByteArray} {nL d : Nat} {av : List Value} {post : Int64 → (Nat → va_E) → Prop} (hy : plainName y.cls = true) (hn : (lg_sl av).length ≤ nL)
    (body : ∀ X : zX, zOk X B y.cls cc nL d → (∀ (r : Int64) (g' : Nat → va_E) (pc : Nat) (lv : List (Nat × Value)), decode cc pc = .ok (.lreturn, 1) → post r g' → zW X B g' pc lv [.long r]) → zW X B g 0 (lv_args 0 av) []) : zCl B g y cc nL (some .long) d av post := by
  intro l
  refine zBody hy hn (fun p l e s m below meth c hr _ o => body _ o ?_) l
  intro r g' pc lv hd hp
  obtain ⟨hx, hb, hml, hown, hts, hK, hSt, hR, hlk⟩ := o
  intro H locs ls hP hD hS hl
  exact W.lret hx hb hr (fun t ht hW => ⟨⟨r, g', rfl, hp, zIn_of hP hD hK hSt hS ht hW⟩, hS.F ht⟩) hS.2.2 hd hlk
theorem zCv_of {B : zB} {g : Nat → va_E} {y : MethodName} {cc : ByteArray} {nL d : Nat} {av : List Value} {post : (Nat → va_E) → Prop} (hy : plainName y.cls = true) (hn : (lg_sl av).length ≤ nL)
    (body : ∀ X : zX, zOk X B y.cls cc nL d → (∀ (g' : Nat → va_E) (pc : Nat) (lv : List (Nat × Value)), decode cc pc = .ok (.return_, 1) → post g' → zW X B g' pc lv []) → zW X B g 0 (lv_args 0 av) []) : zCv B g y cc nL none d av post := by
  intro l
  refine zBody hy hn (fun p l e s m below meth c hr _ o => body _ o ?_) l
  intro g' pc lv hd hp
  obtain ⟨hx, hb, hml, hown, hts, hK, hSt, hR, hlk⟩ := o
  intro H locs ls hP hD hS hl
  exact W.vret hx hb hr (fun t ht hW => ⟨⟨g', rfl, hp, zIn_of hP hD hK hSt hS ht hW⟩, hS.F ht⟩) hS.2.2 hd hlk
theorem zCr_of {B : zB} {g : Nat → va_E} {y : MethodName} {cc : ByteArray} {nL d : Nat} {ret : Option FieldType} {av : List Value} {post : Nat → (Nat → va_E) → Prop} (hy : plainName y.cls = true) (hn : (lg_sl av).length ≤ nL) (rt : FieldType) (hret : ret = some rt) (hrt : (∃ n, rt = .object n) ∨ ∃ t, rt = .array t)
    (body : ∀ X : zX, zOk X B y.cls cc nL d → (∀ (r : Nat) (g' : Nat → va_E) (pc : Nat) (lv : List (Nat × Value)), decode cc pc = .ok (.areturn, 1) → post r g' → zW X B g' pc lv [.ref r]) → zW X B g 0 (lv_args 0 av) []) : zCr B g y cc nL ret d av post := by
  intro l
  refine zBody hy hn (fun p l e s m below meth c hr _ o => body _ o ?_) l
  intro r g' pc lv hd hp
  obtain ⟨hx, hb, hml, hown, hts, hK, hSt, hR, hlk⟩ := o
  intro H locs ls hP hD hS hl
  exact W.aret hx hb (hr.trans hret) hrt (Or.inr ⟨r, rfl⟩) (fun t ht hW => ⟨⟨(r, g'), r, rfl, hp, rfl, zIn_of hP hD hK hSt hS ht hW⟩, hS.F ht⟩) hS.2.2 hd hlk
/-! calls -/
def zVw (own : String) (ix : Nat) (y : MethodName) (bytes : ByteArray) (maxL : Nat) (ret : Option FieldType) (n : Nat) : Prop := Cond.methodLink own ix y ∈ zTB ∧ Cond.instanceMethod y ∈ zTB ∧ Cond.selects y.cls y y ∈ zTB ∧ Cond.initialized y.cls ∈ zTB ∧ Cond.code y bytes maxL ret ∈ zTB ∧ (y.cls ≠ "java/lang/invoke/MethodHandle" ∧ y.cls ≠ "java/lang/invoke/VarHandle" ∧ (parseMethodDescriptor y.desc).map (fun d => d.parameters.length) = some n) ∧ maxL ≤ 41
def zSw (own : String) (ix : Nat) (y : MethodName) (bytes : ByteArray) (maxL : Nat) (ret : Option FieldType) (n : Nat) : Prop := Cond.methodLink own ix y ∈ zTB ∧ Cond.static y ∈ zTB ∧ Cond.initialized y.cls ∈ zTB ∧ Cond.code y bytes maxL ret ∈ zTB ∧ (y.cls ≠ "java/lang/invoke/MethodHandle" ∧ y.cls ≠ "java/lang/invoke/VarHandle" ∧ (parseMethodDescriptor y.desc).map (fun d => d.parameters.length) = some n) ∧ maxL ≤ 41
def zNw (own : String) (ix : Nat) (y : MethodName) (host : String) (bytes : ByteArray) (maxL : Nat) (ret : Option FieldType) (n : Nat) : Prop := Cond.methodLinkNest own ix y host ∈ zTB ∧ Cond.static y ∈ zTB ∧ Cond.initialized y.cls ∈ zTB ∧ Cond.code y bytes maxL ret ∈ zTB ∧ (y.cls ≠ "java/lang/invoke/MethodHandle" ∧ y.cls ≠ "java/lang/invoke/VarHandle" ∧ (parseMethodDescriptor y.desc).map (fun d => d.parameters.length) = some n) ∧ maxL ≤ 41
theorem zGood {y : MethodName} {bytes : ByteArray} {maxL : Nat} {ret : Option FieldType} (h : Cond.code y bytes maxL ret ∈ zTB) : GoodIn zTB (Cond.code y bytes maxL ret :: zTB) := by
  intro w hw
  rcases List.mem_cons.mp hw with rfl | hw
  · exact ⟨h, zTB_good h⟩
  · exact ⟨hw, zTB_good hw⟩
theorem zGoodV {own : String} {ix : Nat} {y : MethodName} {bytes : ByteArray} {maxL n : Nat} {ret : Option FieldType} (h : zVw own ix y bytes maxL ret n) : GoodIn zTB (wsV own ix y.cls y (Cond.code y bytes maxL ret :: zTB)) := by
  intro w hw
  have hz : w ∈ zTB ∨ w ∈ (Cond.code y bytes maxL ret :: zTB) := by
    rcases List.mem_append.mp hw with h1 | h1
    · simp only [List.mem_cons, List.not_mem_nil, or_false] at h1
      rcases h1 with rfl | rfl | rfl | rfl
      · exact Or.inl h.1
      · exact Or.inl h.2.1
      · exact Or.inl h.2.2.1
      · exact Or.inl h.2.2.2.1
    · exact Or.inr h1
  rcases hz with h1 | h1
  · exact ⟨h1, zTB_good h1⟩
  · exact zGood h.2.2.2.2.1 w h1
theorem zGoodS {own : String} {ix : Nat} {y : MethodName} {bytes : ByteArray} {maxL n : Nat} {ret : Option FieldType} (h : zSw own ix y bytes maxL ret n) : GoodIn zTB (va_wsS own ix y (Cond.code y bytes maxL ret :: zTB)) := by
  intro w hw
  have hz : w ∈ zTB ∨ w ∈ (Cond.code y bytes maxL ret :: zTB) := by
    rcases List.mem_append.mp hw with h1 | h1
    · simp only [List.mem_cons, List.not_mem_nil, or_false] at h1
      rcases h1 with rfl | rfl | rfl
      · exact Or.inl h.1
      · exact Or.inl h.2.1
      · exact Or.inl h.2.2.1
    · exact Or.inr h1
  rcases hz with h1 | h1
  · exact ⟨h1, zTB_good h1⟩
  · exact zGood h.2.2.2.1 w h1
theorem zRoom {R : Room} {d d' maxL k sl : Nat} (hR : d ≤ R.frames ∧ 60 * d ≤ R.locals ∧ k ≤ R.cells ∧ sl ≤ R.slots) (h : d' < d) (hm : maxL ≤ 41) : (zR d').frames + 1 ≤ R.frames ∧ 8 + (maxL + 11) + (zR d').locals ≤ R.locals := by
  refine ⟨?_, ?_⟩
  · show d' + 1 ≤ R.frames
    omega
  · show 8 + (maxL + 11) + 60 * d' ≤ R.locals
    omega

theorem z_callVi {X : zX} {B : zB} {g : Nat → va_E} {own : String} {cc : ByteArray} {nL d pc : Nat} {lv : List (Nat × Value)} {st : List Value} {ix maxL n d1 : Nat} {y : MethodName} {bytes : ByteArray} {ret : Option FieldType} {As st0 : List Value} {i ci : Nat} {fs : List Value} {post : Int32 → (Nat → va_E) → Prop} (o : zOk X B own cc nL d) (hd : decode cc pc = .ok (.invokevirtual ix, 3)) (hC : zCi B g y bytes maxL ret d1 (zref B i :: As) post) (hw : zVw own ix y bytes maxL ret n) (hdd : d1 < d) (hi : i < znn B) (he : g i = .inr (ci, fs)) (hci : zcl[ci]?.map (fun q => q.1) = some y.cls) (hn : As.length = n) (hst : st0 = As.reverse ++ zref B i :: st) (hcat : (st.map fun v => v.category).sum ≤ 8) (kk : ∀ (r : Int32) (g1 : Nat → va_E), post r g1 → zW X B g1 (pc + 3) lv (.int r :: st)) : zW X B g pc lv st0 := by
  obtain ⟨p, l, e, R, s, m, args, below, meth, c, Q, k1, sl1⟩ := X
  obtain ⟨hx, hb, hml, hown, hts, hK, hSt, hR, hlk⟩ := o
  intro H locs ls hP hD hS hl
  have hrc : ∃ cell : Cell, H[zad B i]? = some cell ∧ cell.vm.isStatics = false ∧ s.vm.findClass y.cls = some cell.cls := by
    cases hq : zcl[ci]? with
    | none => rw [hq] at hci; cases hci
    | some q =>
      rw [hq] at hci
      have h9 := va_recv hK hP hq (zwl_e hi he)
      rw [show q.1 = y.cls from Option.some.inj hci] at h9
      exact h9
  refine va_calli (va_runV (As := As) (rest := st) ⟨hx, hb, hml, hown, hts⟩ (hC l) (cwV n hts (zGoodV hw) rfl rfl rfl ⟨rfl, hw.2.2.2.2.2.1⟩ (zRoom hR hdd hw.2.2.2.2.2.2)) ⟨zIn_blind, hrc, fun U hU hW => ⟨rfl, zIn_of hP hD hK hSt hS hU hW⟩⟩ rfl hn (hl.1.trans hml) hst (lv_room hcat) hd ⟨hR.2.2.1, hR.2.2.2⟩) hS (fun q _ h => h) (fun q h => h) (fun r u t H1 locs1 ht hvm hp hb1 hz1 hk1 hS1 => ?_)
  obtain ⟨i1, i2, i3, i4⟩ := hb1
  rw [ht] at i1
  exact kk r u hp H1 locs1 ls i1 i2 hS1 hl
theorem z_callSi {X : zX} {B : zB} {g : Nat → va_E} {own : String} {cc : ByteArray} {nL d pc : Nat} {lv : List (Nat × Value)} {st : List Value} {ix maxL n d1 : Nat} {y : MethodName} {bytes : ByteArray} {ret : Option FieldType} {As st0 : List Value} {post : Int32 → (Nat → va_E) → Prop} (o : zOk X B own cc nL d) (hd : decode cc pc = .ok (.invokestatic ix, 3)) (hC : zCi B g y bytes maxL ret d1 As post) (hw : zSw own ix y bytes maxL ret n) (hdd : d1 < d) (hn : As.length = n) (hst : st0 = As.reverse ++ st) (hcat : (st.map fun v => v.category).sum ≤ 8) (kk : ∀ (r : Int32) (g1 : Nat → va_E), post r g1 → zW X B g1 (pc + 3) lv (.int r :: st)) : zW X B g pc lv st0 := by
  obtain ⟨p, l, e, R, s, m, args, below, meth, c, Q, k1, sl1⟩ := X
  obtain ⟨hx, hb, hml, hown, hts, hK, hSt, hR, hlk⟩ := o
  intro H locs ls hP hD hS hl
  refine va_calli (va_runS (As := As) (rest := st) ⟨hx, hb, hml, hown, hts⟩ (hC l) (va_cwS n hts (zGoodS hw) rfl rfl rfl hw.2.2.2.2.1 (zRoom hR hdd hw.2.2.2.2.2)) ⟨zIn_blind, fun U hU hW => ⟨rfl, zIn_of hP hD hK hSt hS hU hW⟩⟩ rfl hn (hl.1.trans hml) hst (lv_room hcat) hd ⟨hR.2.2.1, hR.2.2.2⟩) hS (fun q _ h => h) (fun q h => h) (fun r u t H1 locs1 ht hvm hp hb1 hz1 hk1 hS1 => ?_)
  obtain ⟨i1, i2, i3, i4⟩ := hb1
  rw [ht] at i1
  exact kk r u hp H1 locs1 ls i1 i2 hS1 hl
theorem z_callNi {X : zX} {B : zB} {g : Nat → va_E} {own : String} {cc : ByteArray} {nL d pc : Nat} {lv : List (Nat × Value)} {st : List Value} {ix maxL n d1 : Nat} {y : MethodName} {bytes : ByteArray} {ret : Option FieldType} {As st0 : List Value} {host : String} {post : Int32 → (Nat → va_E) → Prop} (o : zOk X B own cc nL d) (hd : decode cc pc = .ok (.invokestatic ix, 3)) (hC : zCi B g y bytes maxL ret d1 As post) (hw : zNw own ix y host bytes maxL ret n) (hdd : d1 < d) (hn : As.length = n) (hst : st0 = As.reverse ++ st) (hcat : (st.map fun v => v.category).sum ≤ 8) (kk : ∀ (r : Int32) (g1 : Nat → va_E), post r g1 → zW X B g1 (pc + 3) lv (.int r :: st)) : zW X B g pc lv st0 := by
  obtain ⟨p, l, e, R, s, m, args, below, meth, c, Q, k1, sl1⟩ := X
  obtain ⟨hx, hb, hml, hown, hts, hK, hSt, hR, hlk⟩ := o
  intro H locs ls hP hD hS hl
  refine va_calli (va_runSN (As := As) (rest := st) ⟨hx, hb, hml, hown, hts⟩ (hC l) ⟨va_cnB n hts (zGood hw.2.2.2.1) rfl rfl rfl (va_Nw.of rfl (hts _ hw.1)) (hts _ hw.2.2.1) hw.2.2.2.2.1 (zRoom hR hdd hw.2.2.2.2.2), hts _ hw.2.1, trivial⟩ ⟨zIn_blind, fun U hU hW => ⟨rfl, zIn_of hP hD hK hSt hS hU hW⟩⟩ rfl hn (hl.1.trans hml) hst (lv_room hcat) hd ⟨hR.2.2.1, hR.2.2.2⟩) hS (fun q _ h => h) (fun q h => h) (fun r u t H1 locs1 ht hvm hp hb1 hz1 hk1 hS1 => ?_)
  obtain ⟨i1, i2, i3, i4⟩ := hb1
  rw [ht] at i1
  exact kk r u hp H1 locs1 ls i1 i2 hS1 hl
theorem z_callVl {X : zX} {B : zB} {g : Nat → va_E} {own : String} {cc : ByteArray} {nL d pc : Nat} {lv : List (Nat × Value)} {st : List Value} {ix maxL n d1 : Nat} {y : MethodName} {bytes : ByteArray} {ret : Option FieldType} {As st0 : List Value} {i ci : Nat} {fs : List Value} {post : Int64 → (Nat → va_E) → Prop} (o : zOk X B own cc nL d) (hd : decode cc pc = .ok (.invokevirtual ix, 3)) (hC : zCl B g y bytes maxL ret d1 (zref B i :: As) post) (hw : zVw own ix y bytes maxL ret n) (hdd : d1 < d) (hi : i < znn B) (he : g i = .inr (ci, fs)) (hci : zcl[ci]?.map (fun q => q.1) = some y.cls) (hn : As.length = n) (hst : st0 = As.reverse ++ zref B i :: st) (hcat : (st.map fun v => v.category).sum ≤ 8) (kk : ∀ (r : Int64) (g1 : Nat → va_E), post r g1 → zW X B g1 (pc + 3) lv (.long r :: st)) : zW X B g pc lv st0 := by
  obtain ⟨p, l, e, R, s, m, args, below, meth, c, Q, k1, sl1⟩ := X
  obtain ⟨hx, hb, hml, hown, hts, hK, hSt, hR, hlk⟩ := o
  intro H locs ls hP hD hS hl
  have hrc : ∃ cell : Cell, H[zad B i]? = some cell ∧ cell.vm.isStatics = false ∧ s.vm.findClass y.cls = some cell.cls := by
    cases hq : zcl[ci]? with
    | none => rw [hq] at hci; cases hci
    | some q =>
      rw [hq] at hci
      have h9 := va_recv hK hP hq (zwl_e hi he)
      rw [show q.1 = y.cls from Option.some.inj hci] at h9
      exact h9
  refine va_calll (va_runV (As := As) (rest := st) ⟨hx, hb, hml, hown, hts⟩ (hC l) (cwV n hts (zGoodV hw) rfl rfl rfl ⟨rfl, hw.2.2.2.2.2.1⟩ (zRoom hR hdd hw.2.2.2.2.2.2)) ⟨zIn_blind, hrc, fun U hU hW => ⟨rfl, zIn_of hP hD hK hSt hS hU hW⟩⟩ rfl hn (hl.1.trans hml) hst (lv_room hcat) hd ⟨hR.2.2.1, hR.2.2.2⟩) hS (fun q _ h => h) (fun q h => h) (fun r u t H1 locs1 ht hvm hp hb1 hz1 hk1 hS1 => ?_)
  obtain ⟨i1, i2, i3, i4⟩ := hb1
  rw [ht] at i1
  exact kk r u hp H1 locs1 ls i1 i2 hS1 hl
theorem z_callSl {X : zX} {B : zB} {g : Nat → va_E} {own : String} {cc : ByteArray} {nL d pc : Nat} {lv : List (Nat × Value)} {st : List Value} {ix maxL n d1 : Nat} {y : MethodName} {bytes : ByteArray} {ret : Option FieldType} {As st0 : List Value} {post : Int64 → (Nat → va_E) → Prop} (o : zOk X B own cc nL d) (hd : decode cc pc = .ok (.invokestatic ix, 3)) (hC : zCl B g y bytes maxL ret d1 As post) (hw : zSw own ix y bytes maxL ret n) (hdd : d1 < d) (hn : As.length = n) (hst : st0 = As.reverse ++ st) (hcat : (st.map fun v => v.category).sum ≤ 8) (kk : ∀ (r : Int64) (g1 : Nat → va_E), post r g1 → zW X B g1 (pc + 3) lv (.long r :: st)) : zW X B g pc lv st0 := by
  obtain ⟨p, l, e, R, s, m, args, below, meth, c, Q, k1, sl1⟩ := X
  obtain ⟨hx, hb, hml, hown, hts, hK, hSt, hR, hlk⟩ := o
  intro H locs ls hP hD hS hl
  refine va_calll (va_runS (As := As) (rest := st) ⟨hx, hb, hml, hown, hts⟩ (hC l) (va_cwS n hts (zGoodS hw) rfl rfl rfl hw.2.2.2.2.1 (zRoom hR hdd hw.2.2.2.2.2)) ⟨zIn_blind, fun U hU hW => ⟨rfl, zIn_of hP hD hK hSt hS hU hW⟩⟩ rfl hn (hl.1.trans hml) hst (lv_room hcat) hd ⟨hR.2.2.1, hR.2.2.2⟩) hS (fun q _ h => h) (fun q h => h) (fun r u t H1 locs1 ht hvm hp hb1 hz1 hk1 hS1 => ?_)
  obtain ⟨i1, i2, i3, i4⟩ := hb1
  rw [ht] at i1
  exact kk r u hp H1 locs1 ls i1 i2 hS1 hl
theorem z_callNl {X : zX} {B : zB} {g : Nat → va_E} {own : String} {cc : ByteArray} {nL d pc : Nat} {lv : List (Nat × Value)} {st : List Value} {ix maxL n d1 : Nat} {y : MethodName} {bytes : ByteArray} {ret : Option FieldType} {As st0 : List Value} {host : String} {post : Int64 → (Nat → va_E) → Prop} (o : zOk X B own cc nL d) (hd : decode cc pc = .ok (.invokestatic ix, 3)) (hC : zCl B g y bytes maxL ret d1 As post) (hw : zNw own ix y host bytes maxL ret n) (hdd : d1 < d) (hn : As.length = n) (hst : st0 = As.reverse ++ st) (hcat : (st.map fun v => v.category).sum ≤ 8) (kk : ∀ (r : Int64) (g1 : Nat → va_E), post r g1 → zW X B g1 (pc + 3) lv (.long r :: st)) : zW X B g pc lv st0 := by
  obtain ⟨p, l, e, R, s, m, args, below, meth, c, Q, k1, sl1⟩ := X
  obtain ⟨hx, hb, hml, hown, hts, hK, hSt, hR, hlk⟩ := o
  intro H locs ls hP hD hS hl
  refine va_calll (va_runSN (As := As) (rest := st) ⟨hx, hb, hml, hown, hts⟩ (hC l) ⟨va_cnB n hts (zGood hw.2.2.2.1) rfl rfl rfl (va_Nw.of rfl (hts _ hw.1)) (hts _ hw.2.2.1) hw.2.2.2.2.1 (zRoom hR hdd hw.2.2.2.2.2), hts _ hw.2.1, trivial⟩ ⟨zIn_blind, fun U hU hW => ⟨rfl, zIn_of hP hD hK hSt hS hU hW⟩⟩ rfl hn (hl.1.trans hml) hst (lv_room hcat) hd ⟨hR.2.2.1, hR.2.2.2⟩) hS (fun q _ h => h) (fun q h => h) (fun r u t H1 locs1 ht hvm hp hb1 hz1 hk1 hS1 => ?_)
  obtain ⟨i1, i2, i3, i4⟩ := hb1
  rw [ht] at i1
  exact kk r u hp H1 locs1 ls i1 i2 hS1 hl
theorem z_callVv {X : zX} {B : zB} {g : Nat → va_E} {own : String} {cc : ByteArray} {nL d pc : Nat} {lv : List (Nat × Value)} {st : List Value} {ix maxL n d1 : Nat} {y : MethodName} {bytes : ByteArray} {ret : Option FieldType} {As st0 : List Value} {i ci : Nat} {fs : List Value} {post : (Nat → va_E) → Prop} (o : zOk X B own cc nL d) (hd : decode cc pc = .ok (.invokevirtual ix, 3)) (hC : zCv B g y bytes maxL ret d1 (zref B i :: As) post) (hw : zVw own ix y bytes maxL ret n) (hdd : d1 < d) (hi : i < znn B) (he : g i = .inr (ci, fs)) (hci : zcl[ci]?.map (fun q => q.1) = some y.cls) (hn : As.length = n) (hst : st0 = As.reverse ++ zref B i :: st) (hcat : (st.map fun v => v.category).sum ≤ 8) (kk : ∀ (g1 : Nat → va_E), post g1 → zW X B g1 (pc + 3) lv (st)) : zW X B g pc lv st0 := by
  obtain ⟨p, l, e, R, s, m, args, below, meth, c, Q, k1, sl1⟩ := X
  obtain ⟨hx, hb, hml, hown, hts, hK, hSt, hR, hlk⟩ := o
  intro H locs ls hP hD hS hl
  have hrc : ∃ cell : Cell, H[zad B i]? = some cell ∧ cell.vm.isStatics = false ∧ s.vm.findClass y.cls = some cell.cls := by
    cases hq : zcl[ci]? with
    | none => rw [hq] at hci; cases hci
    | some q =>
      rw [hq] at hci
      have h9 := va_recv hK hP hq (zwl_e hi he)
      rw [show q.1 = y.cls from Option.some.inj hci] at h9
      exact h9
  refine va_callv (va_runV (As := As) (rest := st) ⟨hx, hb, hml, hown, hts⟩ (hC l) (cwV n hts (zGoodV hw) rfl rfl rfl ⟨rfl, hw.2.2.2.2.2.1⟩ (zRoom hR hdd hw.2.2.2.2.2.2)) ⟨zIn_blind, hrc, fun U hU hW => ⟨rfl, zIn_of hP hD hK hSt hS hU hW⟩⟩ rfl hn (hl.1.trans hml) hst (lv_room hcat) hd ⟨hR.2.2.1, hR.2.2.2⟩) hS (fun q _ h => h) (fun q h => h) (fun u t H1 locs1 ht hvm hp hb1 hz1 hk1 hS1 => ?_)
  obtain ⟨i1, i2, i3, i4⟩ := hb1
  rw [ht] at i1
  exact kk u hp H1 locs1 ls i1 i2 hS1 hl
theorem z_callSv {X : zX} {B : zB} {g : Nat → va_E} {own : String} {cc : ByteArray} {nL d pc : Nat} {lv : List (Nat × Value)} {st : List Value} {ix maxL n d1 : Nat} {y : MethodName} {bytes : ByteArray} {ret : Option FieldType} {As st0 : List Value} {post : (Nat → va_E) → Prop} (o : zOk X B own cc nL d) (hd : decode cc pc = .ok (.invokestatic ix, 3)) (hC : zCv B g y bytes maxL ret d1 As post) (hw : zSw own ix y bytes maxL ret n) (hdd : d1 < d) (hn : As.length = n) (hst : st0 = As.reverse ++ st) (hcat : (st.map fun v => v.category).sum ≤ 8) (kk : ∀ (g1 : Nat → va_E), post g1 → zW X B g1 (pc + 3) lv (st)) : zW X B g pc lv st0 := by
  obtain ⟨p, l, e, R, s, m, args, below, meth, c, Q, k1, sl1⟩ := X
  obtain ⟨hx, hb, hml, hown, hts, hK, hSt, hR, hlk⟩ := o
  intro H locs ls hP hD hS hl
  refine va_callv (va_runS (As := As) (rest := st) ⟨hx, hb, hml, hown, hts⟩ (hC l) (va_cwS n hts (zGoodS hw) rfl rfl rfl hw.2.2.2.2.1 (zRoom hR hdd hw.2.2.2.2.2)) ⟨zIn_blind, fun U hU hW => ⟨rfl, zIn_of hP hD hK hSt hS hU hW⟩⟩ rfl hn (hl.1.trans hml) hst (lv_room hcat) hd ⟨hR.2.2.1, hR.2.2.2⟩) hS (fun q _ h => h) (fun q h => h) (fun u t H1 locs1 ht hvm hp hb1 hz1 hk1 hS1 => ?_)
  obtain ⟨i1, i2, i3, i4⟩ := hb1
  rw [ht] at i1
  exact kk u hp H1 locs1 ls i1 i2 hS1 hl
theorem z_callNv {X : zX} {B : zB} {g : Nat → va_E} {own : String} {cc : ByteArray} {nL d pc : Nat} {lv : List (Nat × Value)} {st : List Value} {ix maxL n d1 : Nat} {y : MethodName} {bytes : ByteArray} {ret : Option FieldType} {As st0 : List Value} {host : String} {post : (Nat → va_E) → Prop} (o : zOk X B own cc nL d) (hd : decode cc pc = .ok (.invokestatic ix, 3)) (hC : zCv B g y bytes maxL ret d1 As post) (hw : zNw own ix y host bytes maxL ret n) (hdd : d1 < d) (hn : As.length = n) (hst : st0 = As.reverse ++ st) (hcat : (st.map fun v => v.category).sum ≤ 8) (kk : ∀ (g1 : Nat → va_E), post g1 → zW X B g1 (pc + 3) lv (st)) : zW X B g pc lv st0 := by
  obtain ⟨p, l, e, R, s, m, args, below, meth, c, Q, k1, sl1⟩ := X
  obtain ⟨hx, hb, hml, hown, hts, hK, hSt, hR, hlk⟩ := o
  intro H locs ls hP hD hS hl
  refine va_callv (va_runSN (As := As) (rest := st) ⟨hx, hb, hml, hown, hts⟩ (hC l) ⟨va_cnB n hts (zGood hw.2.2.2.1) rfl rfl rfl (va_Nw.of rfl (hts _ hw.1)) (hts _ hw.2.2.1) hw.2.2.2.2.1 (zRoom hR hdd hw.2.2.2.2.2), hts _ hw.2.1, trivial⟩ ⟨zIn_blind, fun U hU hW => ⟨rfl, zIn_of hP hD hK hSt hS hU hW⟩⟩ rfl hn (hl.1.trans hml) hst (lv_room hcat) hd ⟨hR.2.2.1, hR.2.2.2⟩) hS (fun q _ h => h) (fun q h => h) (fun u t H1 locs1 ht hvm hp hb1 hz1 hk1 hS1 => ?_)
  obtain ⟨i1, i2, i3, i4⟩ := hb1
  rw [ht] at i1
  exact kk u hp H1 locs1 ls i1 i2 hS1 hl
theorem z_callSr {X : zX} {B : zB} {g : Nat → va_E} {own : String} {cc : ByteArray} {nL d pc : Nat} {lv : List (Nat × Value)} {st : List Value} {ix maxL n d1 : Nat} {y : MethodName} {bytes : ByteArray} {ret : Option FieldType} {As st0 : List Value} {post : Nat → (Nat → va_E) → Prop} (o : zOk X B own cc nL d) (hd : decode cc pc = .ok (.invokestatic ix, 3)) (hC : zCr B g y bytes maxL ret d1 As post) (hw : zSw own ix y bytes maxL ret n) (hdd : d1 < d) (hn : As.length = n) (hst : st0 = As.reverse ++ st) (hcat : (st.map fun v => v.category).sum ≤ 8) (kk : ∀ (r : Nat) (g1 : Nat → va_E), post r g1 → zW X B g1 (pc + 3) lv (.ref r :: st)) : zW X B g pc lv st0 := by
  obtain ⟨p, l, e, R, s, m, args, below, meth, c, Q, k1, sl1⟩ := X
  obtain ⟨hx, hb, hml, hown, hts, hK, hSt, hR, hlk⟩ := o
  intro H locs ls hP hD hS hl
  refine va_callr (va_runS (As := As) (rest := st) ⟨hx, hb, hml, hown, hts⟩ (hC l) (va_cwS n hts (zGoodS hw) rfl rfl rfl hw.2.2.2.2.1 (zRoom hR hdd hw.2.2.2.2.2)) ⟨zIn_blind, fun U hU hW => ⟨rfl, zIn_of hP hD hK hSt hS hU hW⟩⟩ rfl hn (hl.1.trans hml) hst (lv_room hcat) hd ⟨hR.2.2.1, hR.2.2.2⟩) hS (fun q _ h => h) (fun q h => h) (fun u ra t H1 locs1 ht hvm hp hb1 hz1 hk1 hS1 => ?_)
  obtain ⟨hra, i1, i2, i3, i4⟩ := hb1
  rw [ht] at i1
  rw [← hra]
  exact kk u.1 u.2 hp H1 locs1 ls i1 i2 hS1 hl
theorem z_mmax {X : zX} {B : zB} {g : Nat → va_E} {own : String} {cc : ByteArray} {nL d pc : Nat} {lv : List (Nat × Value)} {st : List Value} {ix : Nat} {x y : Int32} (o : zOk X B own cc nL d) (hd : decode cc pc = .ok (.invokestatic ix, 3)) (h1 : Cond.methodLink own ix Lib.Math.max.name ∈ zTB) (h2 : Cond.static Lib.Math.max.name ∈ zTB) (h3 : Cond.initialized "java/lang/Math" ∈ zTB) (h4 : Cond.code Lib.Math.max.name Lib.Math.max.code 2 (some .int) ∈ zTB) (hdd : 0 < d) (hcat : (st.map fun v => v.category).sum ≤ 8) (kk : zW X B g (pc + 3) lv (.int (if x < y then y else x) :: st)) : zW X B g pc lv (.int y :: .int x :: st) := by
  obtain ⟨p, l, e, R, s, m, args, below, meth, c, Q, k1, sl1⟩ := X
  obtain ⟨hx, hb, hml, hown, hts, hK, hSt, hR, hlk⟩ := o
  intro H locs ls hP hD hS hl
  exact va_mmax hx hb (hl.1.symm) hown (hts _ h1) (hts _ h2) (hts _ h3) (hts _ h4) (by omega) (by omega) hR.2.2.1 hR.2.2.2 hd (kk H locs ls hP hD hS hl)
theorem z_mmin {X : zX} {B : zB} {g : Nat → va_E} {own : String} {cc : ByteArray} {nL d pc : Nat} {lv : List (Nat × Value)} {st : List Value} {ix : Nat} {x y : Int32} (o : zOk X B own cc nL d) (hd : decode cc pc = .ok (.invokestatic ix, 3)) (h1 : Cond.methodLink own ix Lib.Math.min.name ∈ zTB) (h2 : Cond.static Lib.Math.min.name ∈ zTB) (h3 : Cond.initialized "java/lang/Math" ∈ zTB) (h4 : Cond.code Lib.Math.min.name Lib.Math.min.code 2 (some .int) ∈ zTB) (hdd : 0 < d) (hcat : (st.map fun v => v.category).sum ≤ 8) (kk : zW X B g (pc + 3) lv (.int (if y < x then y else x) :: st)) : zW X B g pc lv (.int y :: .int x :: st) := by
  obtain ⟨p, l, e, R, s, m, args, below, meth, c, Q, k1, sl1⟩ := X
  obtain ⟨hx, hb, hml, hown, hts, hK, hSt, hR, hlk⟩ := o
  intro H locs ls hP hD hS hl
  exact va_mmin hx hb (hl.1.symm) hown (hts _ h1) (hts _ h2) (hts _ h3) (hts _ h4) (by omega) (by omega) hR.2.2.1 hR.2.2.2 hd (kk H locs ls hP hD hS hl)
theorem z_copyi {X : zX} {B : zB} {g : Nat → va_E} {own : String} {cc : ByteArray} {nL d pc : Nat} {lv : List (Nat × Value)} {st : List Value} {ix i0 i1 n0 n1 : Nat} {f g1 : Nat → Int32} {sp dp n : Int32} (o : zOk X B own cc nL d) (hd : decode cc pc = .ok (.invokestatic ix, 3)) (h1 : Cond.methodLink own ix arraycopyName ∈ zTB) (h2 : Cond.native arraycopyName ∈ zTB) (h3 : Cond.static arraycopyName ∈ zTB) (h4 : Cond.initialized "java/lang/System" ∈ zTB) (hi0 : i0 < znn B) (hi1 : i1 < znn B) (he0 : g i0 = .inl (zcy B 1, n0, .inl f)) (he1 : g i1 = .inl (zcy B 1, n1, .inl g1)) (p1 : ¬ sp < 0) (p2 : ¬ dp < 0) (p3 : ¬ n < 0) (p4 : sp.toNatClampNeg + n.toNatClampNeg ≤ n0) (p5 : dp.toNatClampNeg + n.toNatClampNeg ≤ n1) (hdd : 0 < d) (hcat : (st.map fun v => v.category).sum ≤ 8) (kk : zW X B (va_up g i1 (.inl (zcy B 1, n1, .inl (va_cpy f g1 sp.toNatClampNeg dp.toNatClampNeg n.toNatClampNeg)))) (pc + 3) lv st) : zW X B g pc lv (.int n :: .int dp :: zref B i1 :: .int sp :: zref B i0 :: st) := by
  obtain ⟨p, l, e, R, s, m, args, below, meth, c, Q, k1, sl1⟩ := X
  obtain ⟨hx, hb, hml, hown, hts, hK, hSt, hR, hlk⟩ := o
  intro H locs ls hP hD hS hl
  have h9 : nativeFrameWords "java/lang/System" "arraycopy" 5 = 7 := by decide +kernel
  have h8 : (st.map fun v => v.category).sum + (nativeFrameWords "java/lang/System" "arraycopy" 5 + 11) ≤ R.locals := by rw [h9]; omega
  exact va_copyi (D := B.1) (ty := .int) hx hb (hl.1.symm) hown (hts _ h1) (hts _ h2) (hts _ h3) (hts _ h4) hK hP hD hS i0 i1 1 1 (zwl_e hi0 he0) (zwl_e hi1 he1) rfl rfl rfl p1 p2 p3 p4 p5 (fun _ _ => rfl) (by omega) h8 hd (fun H1 locs1 hP1 hD1 hS1 => kk H1 locs1 ls (by rw [zwl_set hi1] at hP1; exact hP1) (by rw [zwl_set hi1] at hD1; exact hD1) hS1 hl)
theorem z_copyb {X : zX} {B : zB} {g : Nat → va_E} {own : String} {cc : ByteArray} {nL d pc : Nat} {lv : List (Nat × Value)} {st : List Value} {ix i0 i1 n0 n1 : Nat} {f g1 : Nat → Int32} {sp dp n : Int32} (o : zOk X B own cc nL d) (hd : decode cc pc = .ok (.invokestatic ix, 3)) (h1 : Cond.methodLink own ix arraycopyName ∈ zTB) (h2 : Cond.native arraycopyName ∈ zTB) (h3 : Cond.static arraycopyName ∈ zTB) (h4 : Cond.initialized "java/lang/System" ∈ zTB) (hi0 : i0 < znn B) (hi1 : i1 < znn B) (he0 : g i0 = .inl (zcy B 0, n0, .inl f)) (he1 : g i1 = .inl (zcy B 0, n1, .inl g1)) (p1 : ¬ sp < 0) (p2 : ¬ dp < 0) (p3 : ¬ n < 0) (p4 : sp.toNatClampNeg + n.toNatClampNeg ≤ n0) (p5 : dp.toNatClampNeg + n.toNatClampNeg ≤ n1) (hfit : ∀ i, i < n.toNatClampNeg → fits .byte (.int (f (sp.toNatClampNeg + i))) = true) (hdd : 0 < d) (hcat : (st.map fun v => v.category).sum ≤ 8) (kk : zW X B (va_up g i1 (.inl (zcy B 0, n1, .inl (va_cpy f g1 sp.toNatClampNeg dp.toNatClampNeg n.toNatClampNeg)))) (pc + 3) lv st) : zW X B g pc lv (.int n :: .int dp :: zref B i1 :: .int sp :: zref B i0 :: st) := by
  obtain ⟨p, l, e, R, s, m, args, below, meth, c, Q, k1, sl1⟩ := X
  obtain ⟨hx, hb, hml, hown, hts, hK, hSt, hR, hlk⟩ := o
  intro H locs ls hP hD hS hl
  have h9 : nativeFrameWords "java/lang/System" "arraycopy" 5 = 7 := by decide +kernel
  have h8 : (st.map fun v => v.category).sum + (nativeFrameWords "java/lang/System" "arraycopy" 5 + 11) ≤ R.locals := by rw [h9]; omega
  exact va_copyi (D := B.1) (ty := .byte) hx hb (hl.1.symm) hown (hts _ h1) (hts _ h2) (hts _ h3) (hts _ h4) hK hP hD hS i0 i1 0 0 (zwl_e hi0 he0) (zwl_e hi1 he1) rfl rfl rfl p1 p2 p3 p4 p5 hfit (by omega) h8 hd (fun H1 locs1 hP1 hD1 hS1 => kk H1 locs1 ls (by rw [zwl_set hi1] at hP1; exact hP1) (by rw [zwl_set hi1] at hD1; exact hD1) hS1 hl)
end
