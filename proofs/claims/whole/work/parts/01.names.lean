/-- a private method of a class that the tables say can be made, by its rows of tables_1 -/
def lw_okq (q : MethodName × Nat) : Prop := (q.1.cls ≠ "java/lang/invoke/MethodHandle" ∧ q.1.cls ≠ "java/lang/invoke/VarHandle") ∧ Cond.instantiable q.1.cls q.2 ∈ tables_1 ∧ Cond.privateMethod q.1 ∈ tables_1 ∧ Cond.instanceMethod q.1 ∈ tables_1
theorem lw_p0 : lw_okq (⟨"WalkFences", "error", "(I)I"⟩, 8) := ⟨⟨by decide +kernel, by decide +kernel⟩, List.mem_of_getElem? (i := 20) (by decide +kernel), List.mem_of_getElem? (i := 268) (by decide +kernel), List.mem_of_getElem? (i := 269) (by decide +kernel)⟩
theorem lw_p1 : lw_okq (⟨"WalkFences", "isFence", "(I)Z"⟩, 8) := ⟨⟨by decide +kernel, by decide +kernel⟩, List.mem_of_getElem? (i := 20) (by decide +kernel), List.mem_of_getElem? (i := 281) (by decide +kernel), List.mem_of_getElem? (i := 282) (by decide +kernel)⟩
theorem lw_p2 : lw_okq (⟨"WalkFences$Law", "workedOut", "(III)I"⟩, 4) := ⟨⟨by decide +kernel, by decide +kernel⟩, List.mem_of_getElem? (i := 75) (by decide +kernel), List.mem_of_getElem? (i := 331) (by decide +kernel), List.mem_of_getElem? (i := 332) (by decide +kernel)⟩
theorem lw_p3 : lw_okq (⟨"WalkFences", "isPost", "(II)Z"⟩, 8) := ⟨⟨by decide +kernel, by decide +kernel⟩, List.mem_of_getElem? (i := 20) (by decide +kernel), List.mem_of_getElem? (i := 351) (by decide +kernel), List.mem_of_getElem? (i := 352) (by decide +kernel)⟩
theorem lw_p4 : lw_okq (⟨"WalkFences$Fence", "turnsBy", "(I)I"⟩, 6) := ⟨⟨by decide +kernel, by decide +kernel⟩, List.mem_of_getElem? (i := 37) (by decide +kernel), List.mem_of_getElem? (i := 363) (by decide +kernel), List.mem_of_getElem? (i := 364) (by decide +kernel)⟩
theorem lw_p5 : lw_okq (⟨"WalkFences", "isCow", "(I)Z"⟩, 8) := ⟨⟨by decide +kernel, by decide +kernel⟩, List.mem_of_getElem? (i := 20) (by decide +kernel), List.mem_of_getElem? (i := 405) (by decide +kernel), List.mem_of_getElem? (i := 406) (by decide +kernel)⟩
theorem lw_p6 : lw_okq (⟨"WalkFences$TextReader", "readLevel", "(II)Z"⟩, 6) := ⟨⟨by decide +kernel, by decide +kernel⟩, List.mem_of_getElem? (i := 157) (by decide +kernel), List.mem_of_getElem? (i := 444) (by decide +kernel), List.mem_of_getElem? (i := 445) (by decide +kernel)⟩
theorem lw_p7 : lw_okq (⟨"WalkFences$TextReader", "readQ", "(I)Z"⟩, 6) := ⟨⟨by decide +kernel, by decide +kernel⟩, List.mem_of_getElem? (i := 157) (by decide +kernel), List.mem_of_getElem? (i := 448) (by decide +kernel), List.mem_of_getElem? (i := 449) (by decide +kernel)⟩
theorem lw_p8 : lw_okq (⟨"WalkFences$TextReader", "sign", "()C"⟩, 6) := ⟨⟨by decide +kernel, by decide +kernel⟩, List.mem_of_getElem? (i := 157) (by decide +kernel), List.mem_of_getElem? (i := 452) (by decide +kernel), List.mem_of_getElem? (i := 453) (by decide +kernel)⟩
theorem lw_p9 : lw_okq (⟨"WalkFences$TextReader", "readNumber", "()V"⟩, 6) := ⟨⟨by decide +kernel, by decide +kernel⟩, List.mem_of_getElem? (i := 157) (by decide +kernel), List.mem_of_getElem? (i := 459) (by decide +kernel), List.mem_of_getElem? (i := 460) (by decide +kernel)⟩
theorem lw_p10 : lw_okq (⟨"WalkFences$TextReader", "add", "(I)V"⟩, 6) := ⟨⟨by decide +kernel, by decide +kernel⟩, List.mem_of_getElem? (i := 157) (by decide +kernel), List.mem_of_getElem? (i := 463) (by decide +kernel), List.mem_of_getElem? (i := 464) (by decide +kernel)⟩
theorem lw_p11 : lw_okq (⟨"WalkFences$TextReader", "readOpened", "(CI)Z"⟩, 6) := ⟨⟨by decide +kernel, by decide +kernel⟩, List.mem_of_getElem? (i := 157) (by decide +kernel), List.mem_of_getElem? (i := 467) (by decide +kernel), List.mem_of_getElem? (i := 468) (by decide +kernel)⟩
theorem lw_p12 : lw_okq (⟨"WalkFences$Range", "fencesGraze", "()V"⟩, 15) := ⟨⟨by decide +kernel, by decide +kernel⟩, List.mem_of_getElem? (i := 28) (by decide +kernel), List.mem_of_getElem? (i := 595) (by decide +kernel), List.mem_of_getElem? (i := 596) (by decide +kernel)⟩
theorem lw_p13 : lw_okq (⟨"WalkFences$Range", "cattleFeed", "()V"⟩, 15) := ⟨⟨by decide +kernel, by decide +kernel⟩, List.mem_of_getElem? (i := 28) (by decide +kernel), List.mem_of_getElem? (i := 602) (by decide +kernel), List.mem_of_getElem? (i := 603) (by decide +kernel)⟩
theorem lw_p14 : lw_okq (⟨"WalkFences$Range", "draw", "()I"⟩, 15) := ⟨⟨by decide +kernel, by decide +kernel⟩, List.mem_of_getElem? (i := 28) (by decide +kernel), List.mem_of_getElem? (i := 616) (by decide +kernel), List.mem_of_getElem? (i := 617) (by decide +kernel)⟩
theorem lw_p15 : lw_okq (⟨"WalkFences", "fewestSalts", "(III)J"⟩, 8) := ⟨⟨by decide +kernel, by decide +kernel⟩, List.mem_of_getElem? (i := 20) (by decide +kernel), List.mem_of_getElem? (i := 656) (by decide +kernel), List.mem_of_getElem? (i := 657) (by decide +kernel)⟩
def lw_privs_1 : List (MethodName × Nat) := [(⟨"WalkFences", "error", "(I)I"⟩, 8), (⟨"WalkFences", "isFence", "(I)Z"⟩, 8), (⟨"WalkFences$Law", "workedOut", "(III)I"⟩, 4), (⟨"WalkFences", "isPost", "(II)Z"⟩, 8), (⟨"WalkFences$Fence", "turnsBy", "(I)I"⟩, 6), (⟨"WalkFences", "isCow", "(I)Z"⟩, 8), (⟨"WalkFences$TextReader", "readLevel", "(II)Z"⟩, 6), (⟨"WalkFences$TextReader", "readQ", "(I)Z"⟩, 6), (⟨"WalkFences$TextReader", "sign", "()C"⟩, 6), (⟨"WalkFences$TextReader", "readNumber", "()V"⟩, 6), (⟨"WalkFences$TextReader", "add", "(I)V"⟩, 6), (⟨"WalkFences$TextReader", "readOpened", "(CI)Z"⟩, 6), (⟨"WalkFences$Range", "fencesGraze", "()V"⟩, 15), (⟨"WalkFences$Range", "cattleFeed", "()V"⟩, 15), (⟨"WalkFences$Range", "draw", "()I"⟩, 15), (⟨"WalkFences", "fewestSalts", "(III)J"⟩, 8)]
theorem lw_r1 : ∀ q ∈ lw_privs_1, lw_okq q := List.forall_mem_cons.mpr ⟨lw_p0, List.forall_mem_cons.mpr ⟨lw_p1, List.forall_mem_cons.mpr ⟨lw_p2, List.forall_mem_cons.mpr ⟨lw_p3, List.forall_mem_cons.mpr ⟨lw_p4, List.forall_mem_cons.mpr ⟨lw_p5, List.forall_mem_cons.mpr ⟨lw_p6, List.forall_mem_cons.mpr ⟨lw_p7, List.forall_mem_cons.mpr ⟨lw_p8, List.forall_mem_cons.mpr ⟨lw_p9, List.forall_mem_cons.mpr ⟨lw_p10, List.forall_mem_cons.mpr ⟨lw_p11, List.forall_mem_cons.mpr ⟨lw_p12, List.forall_mem_cons.mpr ⟨lw_p13, List.forall_mem_cons.mpr ⟨lw_p14, List.forall_mem_cons.mpr ⟨lw_p15, fun _ h => absurd h List.not_mem_nil⟩⟩⟩⟩⟩⟩⟩⟩⟩⟩⟩⟩⟩⟩⟩⟩
theorem lw_p16 : lw_okq (⟨"WalkFences", "isInsideSalted", "(IIIJ)Z"⟩, 8) := ⟨⟨by decide +kernel, by decide +kernel⟩, List.mem_of_getElem? (i := 20) (by decide +kernel), List.mem_of_getElem? (i := 660) (by decide +kernel), List.mem_of_getElem? (i := 661) (by decide +kernel)⟩
theorem lw_p17 : lw_okq (⟨"WalkFences$Voices", "sings", "(II)I"⟩, 6) := ⟨⟨by decide +kernel, by decide +kernel⟩, List.mem_of_getElem? (i := 185) (by decide +kernel), List.mem_of_getElem? (i := 715) (by decide +kernel), List.mem_of_getElem? (i := 716) (by decide +kernel)⟩
theorem lw_p18 : lw_okq (⟨"WalkFences$Voices", "begins", "(I)V"⟩, 6) := ⟨⟨by decide +kernel, by decide +kernel⟩, List.mem_of_getElem? (i := 185) (by decide +kernel), List.mem_of_getElem? (i := 719) (by decide +kernel), List.mem_of_getElem? (i := 720) (by decide +kernel)⟩
theorem lw_p19 : lw_okq (⟨"WalkFences$Voices", "leans", "(II)I"⟩, 6) := ⟨⟨by decide +kernel, by decide +kernel⟩, List.mem_of_getElem? (i := 185) (by decide +kernel), List.mem_of_getElem? (i := 723) (by decide +kernel), List.mem_of_getElem? (i := 724) (by decide +kernel)⟩
theorem lw_p20 : lw_okq (⟨"WalkFences$Voices", "sprouts", "(II)I"⟩, 6) := ⟨⟨by decide +kernel, by decide +kernel⟩, List.mem_of_getElem? (i := 185) (by decide +kernel), List.mem_of_getElem? (i := 727) (by decide +kernel), List.mem_of_getElem? (i := 728) (by decide +kernel)⟩
theorem lw_p21 : lw_okq (⟨"WalkFences$Voices", "parts", "(II)I"⟩, 6) := ⟨⟨by decide +kernel, by decide +kernel⟩, List.mem_of_getElem? (i := 185) (by decide +kernel), List.mem_of_getElem? (i := 731) (by decide +kernel), List.mem_of_getElem? (i := 732) (by decide +kernel)⟩
theorem lw_p22 : lw_okq (⟨"WalkFencesModel", "error", "(I)I"⟩, 20) := ⟨⟨by decide +kernel, by decide +kernel⟩, List.mem_of_getElem? (i := 804) (by decide +kernel), List.mem_of_getElem? (i := 882) (by decide +kernel), List.mem_of_getElem? (i := 883) (by decide +kernel)⟩
theorem lw_p23 : lw_okq (⟨"WalkFencesModel", "lets", "(III)V"⟩, 20) := ⟨⟨by decide +kernel, by decide +kernel⟩, List.mem_of_getElem? (i := 804) (by decide +kernel), List.mem_of_getElem? (i := 888) (by decide +kernel), List.mem_of_getElem? (i := 889) (by decide +kernel)⟩
theorem lw_p24 : lw_okq (⟨"WalkFencesModel", "isFence", "(I)Z"⟩, 20) := ⟨⟨by decide +kernel, by decide +kernel⟩, List.mem_of_getElem? (i := 804) (by decide +kernel), List.mem_of_getElem? (i := 896) (by decide +kernel), List.mem_of_getElem? (i := 897) (by decide +kernel)⟩
theorem lw_p25 : lw_okq (⟨"WalkFencesModel", "of", "(II)I"⟩, 20) := ⟨⟨by decide +kernel, by decide +kernel⟩, List.mem_of_getElem? (i := 804) (by decide +kernel), List.mem_of_getElem? (i := 903) (by decide +kernel), List.mem_of_getElem? (i := 904) (by decide +kernel)⟩
theorem lw_p26 : lw_okq (⟨"WalkFencesModel", "insideOf", "(I)J"⟩, 20) := ⟨⟨by decide +kernel, by decide +kernel⟩, List.mem_of_getElem? (i := 804) (by decide +kernel), List.mem_of_getElem? (i := 911) (by decide +kernel), List.mem_of_getElem? (i := 912) (by decide +kernel)⟩
theorem lw_p27 : lw_okq (⟨"WalkFencesModel", "postsOf", "(I)J"⟩, 20) := ⟨⟨by decide +kernel, by decide +kernel⟩, List.mem_of_getElem? (i := 804) (by decide +kernel), List.mem_of_getElem? (i := 915) (by decide +kernel), List.mem_of_getElem? (i := 916) (by decide +kernel)⟩
theorem lw_p28 : lw_okq (⟨"WalkFencesModel", "grazeOf", "(I)I"⟩, 20) := ⟨⟨by decide +kernel, by decide +kernel⟩, List.mem_of_getElem? (i := 804) (by decide +kernel), List.mem_of_getElem? (i := 929) (by decide +kernel), List.mem_of_getElem? (i := 930) (by decide +kernel)⟩
theorem lw_p29 : lw_okq (⟨"WalkFencesModel", "gives", "(IIII)I"⟩, 20) := ⟨⟨by decide +kernel, by decide +kernel⟩, List.mem_of_getElem? (i := 804) (by decide +kernel), List.mem_of_getElem? (i := 933) (by decide +kernel), List.mem_of_getElem? (i := 934) (by decide +kernel)⟩
theorem lw_p30 : lw_okq (⟨"WalkFencesModel", "works", "(I)I"⟩, 20) := ⟨⟨by decide +kernel, by decide +kernel⟩, List.mem_of_getElem? (i := 804) (by decide +kernel), List.mem_of_getElem? (i := 937) (by decide +kernel), List.mem_of_getElem? (i := 938) (by decide +kernel)⟩
theorem lw_p31 : lw_okq (⟨"WalkFencesModel", "isPost", "(II)Z"⟩, 20) := ⟨⟨by decide +kernel, by decide +kernel⟩, List.mem_of_getElem? (i := 804) (by decide +kernel), List.mem_of_getElem? (i := 951) (by decide +kernel), List.mem_of_getElem? (i := 952) (by decide +kernel)⟩
def lw_privs_2 : List (MethodName × Nat) := [(⟨"WalkFences", "isInsideSalted", "(IIIJ)Z"⟩, 8), (⟨"WalkFences$Voices", "sings", "(II)I"⟩, 6), (⟨"WalkFences$Voices", "begins", "(I)V"⟩, 6), (⟨"WalkFences$Voices", "leans", "(II)I"⟩, 6), (⟨"WalkFences$Voices", "sprouts", "(II)I"⟩, 6), (⟨"WalkFences$Voices", "parts", "(II)I"⟩, 6), (⟨"WalkFencesModel", "error", "(I)I"⟩, 20), (⟨"WalkFencesModel", "lets", "(III)V"⟩, 20), (⟨"WalkFencesModel", "isFence", "(I)Z"⟩, 20), (⟨"WalkFencesModel", "of", "(II)I"⟩, 20), (⟨"WalkFencesModel", "insideOf", "(I)J"⟩, 20), (⟨"WalkFencesModel", "postsOf", "(I)J"⟩, 20), (⟨"WalkFencesModel", "grazeOf", "(I)I"⟩, 20), (⟨"WalkFencesModel", "gives", "(IIII)I"⟩, 20), (⟨"WalkFencesModel", "works", "(I)I"⟩, 20), (⟨"WalkFencesModel", "isPost", "(II)Z"⟩, 20)]
theorem lw_r2 : ∀ q ∈ lw_privs_2, lw_okq q := List.forall_mem_cons.mpr ⟨lw_p16, List.forall_mem_cons.mpr ⟨lw_p17, List.forall_mem_cons.mpr ⟨lw_p18, List.forall_mem_cons.mpr ⟨lw_p19, List.forall_mem_cons.mpr ⟨lw_p20, List.forall_mem_cons.mpr ⟨lw_p21, List.forall_mem_cons.mpr ⟨lw_p22, List.forall_mem_cons.mpr ⟨lw_p23, List.forall_mem_cons.mpr ⟨lw_p24, List.forall_mem_cons.mpr ⟨lw_p25, List.forall_mem_cons.mpr ⟨lw_p26, List.forall_mem_cons.mpr ⟨lw_p27, List.forall_mem_cons.mpr ⟨lw_p28, List.forall_mem_cons.mpr ⟨lw_p29, List.forall_mem_cons.mpr ⟨lw_p30, List.forall_mem_cons.mpr ⟨lw_p31, fun _ h => absurd h List.not_mem_nil⟩⟩⟩⟩⟩⟩⟩⟩⟩⟩⟩⟩⟩⟩⟩⟩
theorem lw_p32 : lw_okq (⟨"WalkFencesModel", "headsOf", "(II)I"⟩, 20) := ⟨⟨by decide +kernel, by decide +kernel⟩, List.mem_of_getElem? (i := 804) (by decide +kernel), List.mem_of_getElem? (i := 959) (by decide +kernel), List.mem_of_getElem? (i := 960) (by decide +kernel)⟩
theorem lw_p33 : lw_okq (⟨"WalkFencesModel", "becomes", "(II)I"⟩, 20) := ⟨⟨by decide +kernel, by decide +kernel⟩, List.mem_of_getElem? (i := 804) (by decide +kernel), List.mem_of_getElem? (i := 967) (by decide +kernel), List.mem_of_getElem? (i := 968) (by decide +kernel)⟩
theorem lw_p34 : lw_okq (⟨"WalkFencesModel", "isCow", "(I)Z"⟩, 20) := ⟨⟨by decide +kernel, by decide +kernel⟩, List.mem_of_getElem? (i := 804) (by decide +kernel), List.mem_of_getElem? (i := 997) (by decide +kernel), List.mem_of_getElem? (i := 998) (by decide +kernel)⟩
theorem lw_p35 : lw_okq (⟨"WalkFencesModel", "brandOf", "(I)I"⟩, 20) := ⟨⟨by decide +kernel, by decide +kernel⟩, List.mem_of_getElem? (i := 804) (by decide +kernel), List.mem_of_getElem? (i := 1001) (by decide +kernel), List.mem_of_getElem? (i := 1002) (by decide +kernel)⟩
theorem lw_p36 : lw_okq (⟨"WalkFencesModel", "any", "()V"⟩, 20) := ⟨⟨by decide +kernel, by decide +kernel⟩, List.mem_of_getElem? (i := 804) (by decide +kernel), List.mem_of_getElem? (i := 1018) (by decide +kernel), List.mem_of_getElem? (i := 1019) (by decide +kernel)⟩
theorem lw_p37 : lw_okq (⟨"WalkFencesModel", "all", "()V"⟩, 20) := ⟨⟨by decide +kernel, by decide +kernel⟩, List.mem_of_getElem? (i := 804) (by decide +kernel), List.mem_of_getElem? (i := 1022) (by decide +kernel), List.mem_of_getElem? (i := 1023) (by decide +kernel)⟩
theorem lw_p38 : lw_okq (⟨"WalkFencesModel", "compares", "()V"⟩, 20) := ⟨⟨by decide +kernel, by decide +kernel⟩, List.mem_of_getElem? (i := 804) (by decide +kernel), List.mem_of_getElem? (i := 1026) (by decide +kernel), List.mem_of_getElem? (i := 1027) (by decide +kernel)⟩
theorem lw_p39 : lw_okq (⟨"WalkFencesModel", "sum", "()V"⟩, 20) := ⟨⟨by decide +kernel, by decide +kernel⟩, List.mem_of_getElem? (i := 804) (by decide +kernel), List.mem_of_getElem? (i := 1030) (by decide +kernel), List.mem_of_getElem? (i := 1031) (by decide +kernel)⟩
theorem lw_p40 : lw_okq (⟨"WalkFencesModel", "times", "()V"⟩, 20) := ⟨⟨by decide +kernel, by decide +kernel⟩, List.mem_of_getElem? (i := 804) (by decide +kernel), List.mem_of_getElem? (i := 1034) (by decide +kernel), List.mem_of_getElem? (i := 1035) (by decide +kernel)⟩
theorem lw_p41 : lw_okq (⟨"WalkFencesModel", "one", "()V"⟩, 20) := ⟨⟨by decide +kernel, by decide +kernel⟩, List.mem_of_getElem? (i := 804) (by decide +kernel), List.mem_of_getElem? (i := 1038) (by decide +kernel), List.mem_of_getElem? (i := 1039) (by decide +kernel)⟩
theorem lw_p42 : lw_okq (⟨"WalkFencesModel", "look", "()I"⟩, 20) := ⟨⟨by decide +kernel, by decide +kernel⟩, List.mem_of_getElem? (i := 804) (by decide +kernel), List.mem_of_getElem? (i := 1042) (by decide +kernel), List.mem_of_getElem? (i := 1043) (by decide +kernel)⟩
theorem lw_p43 : lw_okq (⟨"WalkFencesModel", "nameOf", "(I)I"⟩, 20) := ⟨⟨by decide +kernel, by decide +kernel⟩, List.mem_of_getElem? (i := 804) (by decide +kernel), List.mem_of_getElem? (i := 1046) (by decide +kernel), List.mem_of_getElem? (i := 1047) (by decide +kernel)⟩
theorem lw_p44 : lw_okq (⟨"WalkFencesModel", "step", "(II)V"⟩, 20) := ⟨⟨by decide +kernel, by decide +kernel⟩, List.mem_of_getElem? (i := 804) (by decide +kernel), List.mem_of_getElem? (i := 1050) (by decide +kernel), List.mem_of_getElem? (i := 1051) (by decide +kernel)⟩
theorem lw_p45 : lw_okq (⟨"WalkFencesModel", "opens", "(I)V"⟩, 20) := ⟨⟨by decide +kernel, by decide +kernel⟩, List.mem_of_getElem? (i := 804) (by decide +kernel), List.mem_of_getElem? (i := 1054) (by decide +kernel), List.mem_of_getElem? (i := 1055) (by decide +kernel)⟩
theorem lw_p46 : lw_okq (⟨"WalkFencesModel", "number", "()V"⟩, 20) := ⟨⟨by decide +kernel, by decide +kernel⟩, List.mem_of_getElem? (i := 804) (by decide +kernel), List.mem_of_getElem? (i := 1058) (by decide +kernel), List.mem_of_getElem? (i := 1059) (by decide +kernel)⟩
theorem lw_p47 : lw_okq (⟨"WalkFencesModel", "goes", "()V"⟩, 20) := ⟨⟨by decide +kernel, by decide +kernel⟩, List.mem_of_getElem? (i := 804) (by decide +kernel), List.mem_of_getElem? (i := 1074) (by decide +kernel), List.mem_of_getElem? (i := 1075) (by decide +kernel)⟩
def lw_privs_3 : List (MethodName × Nat) := [(⟨"WalkFencesModel", "headsOf", "(II)I"⟩, 20), (⟨"WalkFencesModel", "becomes", "(II)I"⟩, 20), (⟨"WalkFencesModel", "isCow", "(I)Z"⟩, 20), (⟨"WalkFencesModel", "brandOf", "(I)I"⟩, 20), (⟨"WalkFencesModel", "any", "()V"⟩, 20), (⟨"WalkFencesModel", "all", "()V"⟩, 20), (⟨"WalkFencesModel", "compares", "()V"⟩, 20), (⟨"WalkFencesModel", "sum", "()V"⟩, 20), (⟨"WalkFencesModel", "times", "()V"⟩, 20), (⟨"WalkFencesModel", "one", "()V"⟩, 20), (⟨"WalkFencesModel", "look", "()I"⟩, 20), (⟨"WalkFencesModel", "nameOf", "(I)I"⟩, 20), (⟨"WalkFencesModel", "step", "(II)V"⟩, 20), (⟨"WalkFencesModel", "opens", "(I)V"⟩, 20), (⟨"WalkFencesModel", "number", "()V"⟩, 20), (⟨"WalkFencesModel", "goes", "()V"⟩, 20)]
theorem lw_r3 : ∀ q ∈ lw_privs_3, lw_okq q := List.forall_mem_cons.mpr ⟨lw_p32, List.forall_mem_cons.mpr ⟨lw_p33, List.forall_mem_cons.mpr ⟨lw_p34, List.forall_mem_cons.mpr ⟨lw_p35, List.forall_mem_cons.mpr ⟨lw_p36, List.forall_mem_cons.mpr ⟨lw_p37, List.forall_mem_cons.mpr ⟨lw_p38, List.forall_mem_cons.mpr ⟨lw_p39, List.forall_mem_cons.mpr ⟨lw_p40, List.forall_mem_cons.mpr ⟨lw_p41, List.forall_mem_cons.mpr ⟨lw_p42, List.forall_mem_cons.mpr ⟨lw_p43, List.forall_mem_cons.mpr ⟨lw_p44, List.forall_mem_cons.mpr ⟨lw_p45, List.forall_mem_cons.mpr ⟨lw_p46, List.forall_mem_cons.mpr ⟨lw_p47, fun _ h => absurd h List.not_mem_nil⟩⟩⟩⟩⟩⟩⟩⟩⟩⟩⟩⟩⟩⟩⟩⟩
theorem lw_p48 : lw_okq (⟨"WalkFencesModel", "moves", "()V"⟩, 20) := ⟨⟨by decide +kernel, by decide +kernel⟩, List.mem_of_getElem? (i := 804) (by decide +kernel), List.mem_of_getElem? (i := 1078) (by decide +kernel), List.mem_of_getElem? (i := 1079) (by decide +kernel)⟩
theorem lw_p49 : lw_okq (⟨"WalkFencesModel", "drawn", "()V"⟩, 20) := ⟨⟨by decide +kernel, by decide +kernel⟩, List.mem_of_getElem? (i := 804) (by decide +kernel), List.mem_of_getElem? (i := 1090) (by decide +kernel), List.mem_of_getElem? (i := 1091) (by decide +kernel)⟩
theorem lw_p50 : lw_okq (⟨"WalkFencesModel", "draw", "()I"⟩, 20) := ⟨⟨by decide +kernel, by decide +kernel⟩, List.mem_of_getElem? (i := 804) (by decide +kernel), List.mem_of_getElem? (i := 1094) (by decide +kernel), List.mem_of_getElem? (i := 1095) (by decide +kernel)⟩
theorem lw_p51 : lw_okq (⟨"WalkFencesModel", "countOf", "(I)I"⟩, 20) := ⟨⟨by decide +kernel, by decide +kernel⟩, List.mem_of_getElem? (i := 804) (by decide +kernel), List.mem_of_getElem? (i := 1099) (by decide +kernel), List.mem_of_getElem? (i := 1100) (by decide +kernel)⟩
theorem lw_p52 : lw_okq (⟨"WalkFencesModel", "thinks", "()V"⟩, 20) := ⟨⟨by decide +kernel, by decide +kernel⟩, List.mem_of_getElem? (i := 804) (by decide +kernel), List.mem_of_getElem? (i := 1115) (by decide +kernel), List.mem_of_getElem? (i := 1116) (by decide +kernel)⟩
theorem lw_p53 : lw_okq (⟨"WalkFencesModel", "putsBack", "()V"⟩, 20) := ⟨⟨by decide +kernel, by decide +kernel⟩, List.mem_of_getElem? (i := 804) (by decide +kernel), List.mem_of_getElem? (i := 1122) (by decide +kernel), List.mem_of_getElem? (i := 1123) (by decide +kernel)⟩
theorem lw_p54 : lw_okq (⟨"WalkFencesModel", "isHad", "(IIIII)Z"⟩, 20) := ⟨⟨by decide +kernel, by decide +kernel⟩, List.mem_of_getElem? (i := 804) (by decide +kernel), List.mem_of_getElem? (i := 1135) (by decide +kernel), List.mem_of_getElem? (i := 1136) (by decide +kernel)⟩
theorem lw_p55 : lw_okq (⟨"WalkFencesModel", "allPosts", "()J"⟩, 20) := ⟨⟨by decide +kernel, by decide +kernel⟩, List.mem_of_getElem? (i := 804) (by decide +kernel), List.mem_of_getElem? (i := 1143) (by decide +kernel), List.mem_of_getElem? (i := 1144) (by decide +kernel)⟩
theorem lw_p56 : lw_okq (⟨"WalkFencesModel", "isSo", "(II)Z"⟩, 20) := ⟨⟨by decide +kernel, by decide +kernel⟩, List.mem_of_getElem? (i := 804) (by decide +kernel), List.mem_of_getElem? (i := 1158) (by decide +kernel), List.mem_of_getElem? (i := 1159) (by decide +kernel)⟩
theorem lw_p57 : lw_okq (⟨"WalkFencesModel", "sings", "(II)I"⟩, 20) := ⟨⟨by decide +kernel, by decide +kernel⟩, List.mem_of_getElem? (i := 804) (by decide +kernel), List.mem_of_getElem? (i := 1166) (by decide +kernel), List.mem_of_getElem? (i := 1167) (by decide +kernel)⟩
theorem lw_p58 : lw_okq (⟨"WalkFencesModel", "northernSings", "(II)I"⟩, 20) := ⟨⟨by decide +kernel, by decide +kernel⟩, List.mem_of_getElem? (i := 804) (by decide +kernel), List.mem_of_getElem? (i := 1170) (by decide +kernel), List.mem_of_getElem? (i := 1171) (by decide +kernel)⟩
theorem lw_p59 : lw_okq (⟨"WalkFencesModel", "begins", "(I)V"⟩, 20) := ⟨⟨by decide +kernel, by decide +kernel⟩, List.mem_of_getElem? (i := 804) (by decide +kernel), List.mem_of_getElem? (i := 1174) (by decide +kernel), List.mem_of_getElem? (i := 1175) (by decide +kernel)⟩
theorem lw_p60 : lw_okq (⟨"WalkFencesModel", "plainSings", "(II)I"⟩, 20) := ⟨⟨by decide +kernel, by decide +kernel⟩, List.mem_of_getElem? (i := 804) (by decide +kernel), List.mem_of_getElem? (i := 1178) (by decide +kernel), List.mem_of_getElem? (i := 1179) (by decide +kernel)⟩
theorem lw_p61 : lw_okq (⟨"WalkFencesModel", "leans", "(II)I"⟩, 20) := ⟨⟨by decide +kernel, by decide +kernel⟩, List.mem_of_getElem? (i := 804) (by decide +kernel), List.mem_of_getElem? (i := 1182) (by decide +kernel), List.mem_of_getElem? (i := 1183) (by decide +kernel)⟩
theorem lw_p62 : lw_okq (⟨"WalkFencesModel", "laggingLeans", "(II)I"⟩, 20) := ⟨⟨by decide +kernel, by decide +kernel⟩, List.mem_of_getElem? (i := 804) (by decide +kernel), List.mem_of_getElem? (i := 1186) (by decide +kernel), List.mem_of_getElem? (i := 1187) (by decide +kernel)⟩
theorem lw_p63 : lw_okq (⟨"WalkFencesModel", "plainLeans", "(II)I"⟩, 20) := ⟨⟨by decide +kernel, by decide +kernel⟩, List.mem_of_getElem? (i := 804) (by decide +kernel), List.mem_of_getElem? (i := 1190) (by decide +kernel), List.mem_of_getElem? (i := 1191) (by decide +kernel)⟩
def lw_privs_4 : List (MethodName × Nat) := [(⟨"WalkFencesModel", "moves", "()V"⟩, 20), (⟨"WalkFencesModel", "drawn", "()V"⟩, 20), (⟨"WalkFencesModel", "draw", "()I"⟩, 20), (⟨"WalkFencesModel", "countOf", "(I)I"⟩, 20), (⟨"WalkFencesModel", "thinks", "()V"⟩, 20), (⟨"WalkFencesModel", "putsBack", "()V"⟩, 20), (⟨"WalkFencesModel", "isHad", "(IIIII)Z"⟩, 20), (⟨"WalkFencesModel", "allPosts", "()J"⟩, 20), (⟨"WalkFencesModel", "isSo", "(II)Z"⟩, 20), (⟨"WalkFencesModel", "sings", "(II)I"⟩, 20), (⟨"WalkFencesModel", "northernSings", "(II)I"⟩, 20), (⟨"WalkFencesModel", "begins", "(I)V"⟩, 20), (⟨"WalkFencesModel", "plainSings", "(II)I"⟩, 20), (⟨"WalkFencesModel", "leans", "(II)I"⟩, 20), (⟨"WalkFencesModel", "laggingLeans", "(II)I"⟩, 20), (⟨"WalkFencesModel", "plainLeans", "(II)I"⟩, 20)]
theorem lw_r4 : ∀ q ∈ lw_privs_4, lw_okq q := List.forall_mem_cons.mpr ⟨lw_p48, List.forall_mem_cons.mpr ⟨lw_p49, List.forall_mem_cons.mpr ⟨lw_p50, List.forall_mem_cons.mpr ⟨lw_p51, List.forall_mem_cons.mpr ⟨lw_p52, List.forall_mem_cons.mpr ⟨lw_p53, List.forall_mem_cons.mpr ⟨lw_p54, List.forall_mem_cons.mpr ⟨lw_p55, List.forall_mem_cons.mpr ⟨lw_p56, List.forall_mem_cons.mpr ⟨lw_p57, List.forall_mem_cons.mpr ⟨lw_p58, List.forall_mem_cons.mpr ⟨lw_p59, List.forall_mem_cons.mpr ⟨lw_p60, List.forall_mem_cons.mpr ⟨lw_p61, List.forall_mem_cons.mpr ⟨lw_p62, List.forall_mem_cons.mpr ⟨lw_p63, fun _ h => absurd h List.not_mem_nil⟩⟩⟩⟩⟩⟩⟩⟩⟩⟩⟩⟩⟩⟩⟩⟩
theorem lw_p64 : lw_okq (⟨"WalkFencesModel", "sprouts", "(II)I"⟩, 20) := ⟨⟨by decide +kernel, by decide +kernel⟩, List.mem_of_getElem? (i := 804) (by decide +kernel), List.mem_of_getElem? (i := 1194) (by decide +kernel), List.mem_of_getElem? (i := 1195) (by decide +kernel)⟩
theorem lw_p65 : lw_okq (⟨"WalkFencesModel", "plainSprouts", "(II)I"⟩, 20) := ⟨⟨by decide +kernel, by decide +kernel⟩, List.mem_of_getElem? (i := 804) (by decide +kernel), List.mem_of_getElem? (i := 1198) (by decide +kernel), List.mem_of_getElem? (i := 1199) (by decide +kernel)⟩
theorem lw_p66 : lw_okq (⟨"WalkFencesModel", "parts", "(II)I"⟩, 20) := ⟨⟨by decide +kernel, by decide +kernel⟩, List.mem_of_getElem? (i := 804) (by decide +kernel), List.mem_of_getElem? (i := 1202) (by decide +kernel), List.mem_of_getElem? (i := 1203) (by decide +kernel)⟩
theorem lw_p67 : lw_okq (⟨"WalkFencesModel", "plainParts", "(II)I"⟩, 20) := ⟨⟨by decide +kernel, by decide +kernel⟩, List.mem_of_getElem? (i := 804) (by decide +kernel), List.mem_of_getElem? (i := 1206) (by decide +kernel), List.mem_of_getElem? (i := 1207) (by decide +kernel)⟩
theorem lw_p68 : lw_okq (⟨"WalkFencesModel", "notThere", "(I)I"⟩, 20) := ⟨⟨by decide +kernel, by decide +kernel⟩, List.mem_of_getElem? (i := 804) (by decide +kernel), List.mem_of_getElem? (i := 1223) (by decide +kernel), List.mem_of_getElem? (i := 1224) (by decide +kernel)⟩
theorem lw_p69 : lw_okq (⟨"WalkFencesModel", "notMoved", "(IIIII)I"⟩, 20) := ⟨⟨by decide +kernel, by decide +kernel⟩, List.mem_of_getElem? (i := 804) (by decide +kernel), List.mem_of_getElem? (i := 1231) (by decide +kernel), List.mem_of_getElem? (i := 1232) (by decide +kernel)⟩
def lw_privs_5 : List (MethodName × Nat) := [(⟨"WalkFencesModel", "sprouts", "(II)I"⟩, 20), (⟨"WalkFencesModel", "plainSprouts", "(II)I"⟩, 20), (⟨"WalkFencesModel", "parts", "(II)I"⟩, 20), (⟨"WalkFencesModel", "plainParts", "(II)I"⟩, 20), (⟨"WalkFencesModel", "notThere", "(I)I"⟩, 20), (⟨"WalkFencesModel", "notMoved", "(IIIII)I"⟩, 20)]
theorem lw_r5 : ∀ q ∈ lw_privs_5, lw_okq q := List.forall_mem_cons.mpr ⟨lw_p64, List.forall_mem_cons.mpr ⟨lw_p65, List.forall_mem_cons.mpr ⟨lw_p66, List.forall_mem_cons.mpr ⟨lw_p67, List.forall_mem_cons.mpr ⟨lw_p68, List.forall_mem_cons.mpr ⟨lw_p69, fun _ h => absurd h List.not_mem_nil⟩⟩⟩⟩⟩⟩
def lw_privs : List (MethodName × Nat) := lw_privs_1 ++ (lw_privs_2 ++ (lw_privs_3 ++ (lw_privs_4 ++ (lw_privs_5))))
def lw_tbl : List Cond := k2_sels lw_privs ++ tables_1
theorem lw_privs_ok : ∀ q ∈ lw_privs, lw_okq q := by
  show ∀ q ∈ lw_privs_1 ++ (lw_privs_2 ++ (lw_privs_3 ++ (lw_privs_4 ++ (lw_privs_5)))), lw_okq q
  exact List.forall_mem_append.mpr ⟨lw_r1, List.forall_mem_append.mpr ⟨lw_r2, List.forall_mem_append.mpr ⟨lw_r3, List.forall_mem_append.mpr ⟨lw_r4, lw_r5⟩⟩⟩⟩
def RX0 : String := "WalkFences$Fence"
def TX0 : u_T := fun k => match k with
  | 0 => ("WalkFences$Fence", "cells", "[I", true)
  | 1 => ("WalkFences$Fence", "posts", "I", false)
  | 2 => ("WalkFences$Fence", "kind", "I", false)
  | 3 => ("WalkFences$Fence", "m", "I", false)
  | 4 => ("WalkFences$Fence", "heading", "I", false)
  | _ => ("WalkFences$Fence", "rich", "I", false)
def tyX0 : Nat → FieldType := fun k => match k with
  | 0 => .array .int
  | 1 => .int
  | 2 => .int
  | 3 => .int
  | 4 => .int
  | _ => .int
abbrev wsX00 : List Cond := u_ws RX0 TX0 6
theorem nmX0 : ∀ a, a < 6 → ∀ b, b < 6 → a ≠ b → (TX0 a).2.1 ≠ (TX0 b).2.1 := by decide +kernel
theorem tyX0_ok : ∀ k, k < 6 → parseFieldDescriptor (TX0 k).2.2.1 = some (tyX0 k) := by decide +kernel
abbrev cX0_init : ByteArray := prog_2_method_1_code
def yX0_init : MethodName := ⟨RX0, "<init>", "()V"⟩
abbrev cX0_begin : ByteArray := prog_2_method_2_code
def yX0_begin : MethodName := ⟨RX0, "begin", "(II)V"⟩
abbrev cX0_takeAll : ByteArray := prog_2_method_3_code
def yX0_takeAll : MethodName := ⟨RX0, "takeAll", "(LWalkFences$Fence;)V"⟩
abbrev cX0_standAt : ByteArray := prog_2_method_4_code
def yX0_standAt : MethodName := ⟨RX0, "standAt", "([II)V"⟩
abbrev cX0_headsAt : ByteArray := prog_2_method_5_code
def yX0_headsAt : MethodName := ⟨RX0, "headsAt", "(II)I"⟩
abbrev cX0_turnsBy : ByteArray := prog_2_method_6_code
def yX0_turnsBy : MethodName := ⟨RX0, "turnsBy", "(I)I"⟩
abbrev cX0_postsMove : ByteArray := prog_2_method_7_code
def yX0_postsMove : MethodName := ⟨RX0, "postsMove", "(JJI)V"⟩
abbrev cX0_tried : ByteArray := prog_2_method_8_code
def yX0_tried : MethodName := ⟨RX0, "tried", "(II)J"⟩
abbrev cX0_standing : ByteArray := prog_2_method_9_code
def yX0_standing : MethodName := ⟨RX0, "standing", "()J"⟩
abbrev cX0_inside : ByteArray := prog_2_method_10_code
def yX0_inside : MethodName := ⟨RX0, "inside", "()J"⟩
def RX1 : String := "WalkFences$Ground"
def TX1 : u_T := fun k => match k with
  | _ => ("", "", "", false)
def tyX1 : Nat → FieldType := fun k => match k with
  | _ => .int
abbrev wsX10 : List Cond := u_ws RX1 TX1 0
theorem nmX1 : ∀ a, a < 0 → ∀ b, b < 0 → a ≠ b → (TX1 a).2.1 ≠ (TX1 b).2.1 := by decide +kernel
theorem tyX1_ok : ∀ k, k < 0 → parseFieldDescriptor (TX1 k).2.2.1 = some (tyX1 k) := by decide +kernel
abbrev cX1_isCell : ByteArray := prog_3_method_2_code
def yX1_isCell : MethodName := ⟨RX1, "isCell", "(I)Z"⟩
abbrev cX1_bit : ByteArray := prog_3_method_3_code
def yX1_bit : MethodName := ⟨RX1, "bit", "(I)J"⟩
abbrev cX1_has : ByteArray := prog_3_method_4_code
def yX1_has : MethodName := ⟨RX1, "has", "(JI)Z"⟩
abbrev cX1_next : ByteArray := prog_3_method_5_code
def yX1_next : MethodName := ⟨RX1, "next", "(II)I"⟩
abbrev cX1_nextOf : ByteArray := prog_3_method_6_code
def yX1_nextOf : MethodName := ⟨RX1, "nextOf", "(JI)J"⟩
abbrev cX1_beside : ByteArray := prog_3_method_7_code
def yX1_beside : MethodName := ⟨RX1, "beside", "(J)J"⟩
abbrev cX1_inside : ByteArray := prog_3_method_8_code
def yX1_inside : MethodName := ⟨RX1, "inside", "(J)J"⟩
def RX2 : String := "WalkFences$Law"
def TX2 : u_T := fun k => match k with
  | 0 => ("WalkFences$Law", "use", "I", true)
  | 1 => ("WalkFences$Law", "stack", "[I", true)
  | 2 => ("WalkFences$Law", "code", "[I", true)
  | _ => ("WalkFences$Law", "length", "I", false)
def tyX2 : Nat → FieldType := fun k => match k with
  | 0 => .int
  | 1 => .array .int
  | 2 => .array .int
  | _ => .int
abbrev wsX20 : List Cond := u_ws RX2 TX2 4
theorem nmX2 : ∀ a, a < 4 → ∀ b, b < 4 → a ≠ b → (TX2 a).2.1 ≠ (TX2 b).2.1 := by decide +kernel
theorem tyX2_ok : ∀ k, k < 4 → parseFieldDescriptor (TX2 k).2.2.1 = some (tyX2 k) := by decide +kernel
abbrev cX2_init : ByteArray := prog_4_method_1_code
def yX2_init : MethodName := ⟨RX2, "<init>", "(I)V"⟩
abbrev cX2_namesOf : ByteArray := prog_4_method_2_code
def yX2_namesOf : MethodName := ⟨RX2, "namesOf", "(I)Ljava/lang/String;"⟩
abbrev cX2_takeCode : ByteArray := prog_4_method_3_code
def yX2_takeCode : MethodName := ⟨RX2, "takeCode", "([II)V"⟩
abbrev cX2_gives : ByteArray := prog_4_method_4_code
def yX2_gives : MethodName := ⟨RX2, "gives", "(III)I"⟩
abbrev cX2_workedOut : ByteArray := prog_4_method_5_code
def yX2_workedOut : MethodName := ⟨RX2, "workedOut", "(III)I"⟩
abbrev cX2_joined : ByteArray := prog_4_method_6_code
def yX2_joined : MethodName := ⟨RX2, "joined", "(III)I"⟩
abbrev cX2_truth : ByteArray := prog_4_method_7_code
def yX2_truth : MethodName := ⟨RX2, "truth", "(Z)I"⟩
def RX3 : String := "WalkFences$Range"
def TX3 : u_T := fun k => match k with
  | 0 => ("WalkFences$Range", "fences", "[LWalkFences$Fence;", true)
  | 1 => ("WalkFences$Range", "fenceCount", "I", false)
  | 2 => ("WalkFences$Range", "cowCells", "[I", true)
  | 3 => ("WalkFences$Range", "fats", "[I", true)
  | 4 => ("WalkFences$Range", "cows", "I", false)
  | 5 => ("WalkFences$Range", "salt", "J", false)
  | 6 => ("WalkFences$Range", "water", "J", false)
  | 7 => ("WalkFences$Range", "dawn", "I", false)
  | 8 => ("WalkFences$Range", "z", "I", false)
  | 9 => ("WalkFences$Range", "tape", "[B", true)
  | 10 => ("WalkFences$Range", "taped", "I", false)
  | 11 => ("WalkFences$Range", "laws", "[LWalkFences$Law;", true)
  | 12 => ("WalkFences$Range", "waiting", "[I", true)
  | 13 => ("WalkFences$Range", "waitingCount", "I", false)
  | _ => ("WalkFences$Range", "seen", "[J", true)
def tyX3 : Nat → FieldType := fun k => match k with
  | 0 => .array (.object "WalkFences$Fence")
  | 1 => .int
  | 2 => .array .int
  | 3 => .array .int
  | 4 => .int
  | 5 => .long
  | 6 => .long
  | 7 => .int
  | 8 => .int
  | 9 => .array .byte
  | 10 => .int
  | 11 => .array (.object "WalkFences$Law")
  | 12 => .array .int
  | 13 => .int
  | _ => .array .long
abbrev wsX30 : List Cond := u_ws RX3 TX3 15
theorem nmX3 : ∀ a, a < 15 → ∀ b, b < 15 → a ≠ b → (TX3 a).2.1 ≠ (TX3 b).2.1 := by decide +kernel
theorem tyX3_ok : ∀ k, k < 15 → parseFieldDescriptor (TX3 k).2.2.1 = some (tyX3 k) := by decide +kernel
abbrev cX3_init : ByteArray := prog_5_method_1_code
def yX3_init : MethodName := ⟨RX3, "<init>", "()V"⟩
abbrev cX3_takeAll : ByteArray := prog_5_method_2_code
def yX3_takeAll : MethodName := ⟨RX3, "takeAll", "(LWalkFences$Range;)V"⟩
abbrev cX3_postsMove : ByteArray := prog_5_method_3_code
def yX3_postsMove : MethodName := ⟨RX3, "postsMove", "()V"⟩
abbrev cX3_dawnsCome : ByteArray := prog_5_method_4_code
def yX3_dawnsCome : MethodName := ⟨RX3, "dawnsCome", "(I)V"⟩
abbrev cX3_fencesGraze : ByteArray := prog_5_method_5_code
def yX3_fencesGraze : MethodName := ⟨RX3, "fencesGraze", "()V"⟩
abbrev cX3_cattleFeed : ByteArray := prog_5_method_6_code
def yX3_cattleFeed : MethodName := ⟨RX3, "cattleFeed", "()V"⟩
abbrev cX3_graze : ByteArray := prog_5_method_7_code
def yX3_graze : MethodName := ⟨RX3, "graze", "(LWalkFences$Fence;J)I"⟩
abbrev cX3_strayByDraws : ByteArray := prog_5_method_8_code
def yX3_strayByDraws : MethodName := ⟨RX3, "strayByDraws", "()V"⟩
abbrev cX3_draw : ByteArray := prog_5_method_9_code
def yX3_draw : MethodName := ⟨RX3, "draw", "()I"⟩
abbrev cX3_standing : ByteArray := prog_5_method_10_code
def yX3_standing : MethodName := ⟨RX3, "standing", "()J"⟩
abbrev cX3_lookInside : ByteArray := prog_5_method_11_code
def yX3_lookInside : MethodName := ⟨RX3, "lookInside", "()V"⟩
abbrev cX3_brandSeen : ByteArray := prog_5_method_12_code
def yX3_brandSeen : MethodName := ⟨RX3, "brandSeen", "(I)I"⟩
abbrev cX3_branded : ByteArray := prog_5_method_13_code
def yX3_branded : MethodName := ⟨RX3, "branded", "()J"⟩
def RX4 : String := "WalkFences$Sheet"
def TX4 : u_T := fun k => match k with
  | 0 => ("WalkFences$Sheet", "numbers", "[I", true)
  | 1 => ("WalkFences$Sheet", "size", "I", false)
  | _ => ("WalkFences$Sheet", "bits", "I", false)
def tyX4 : Nat → FieldType := fun k => match k with
  | 0 => .array .int
  | 1 => .int
  | _ => .int
abbrev wsX40 : List Cond := u_ws RX4 TX4 3
theorem nmX4 : ∀ a, a < 3 → ∀ b, b < 3 → a ≠ b → (TX4 a).2.1 ≠ (TX4 b).2.1 := by decide +kernel
theorem tyX4_ok : ∀ k, k < 3 → parseFieldDescriptor (TX4 k).2.2.1 = some (tyX4 k) := by decide +kernel
abbrev cX4_init : ByteArray := prog_6_method_1_code
def yX4_init : MethodName := ⟨RX4, "<init>", "()V"⟩
abbrev cX4_isBits : ByteArray := prog_6_method_2_code
def yX4_isBits : MethodName := ⟨RX4, "isBits", "(I)Z"⟩
abbrev cX4_begin : ByteArray := prog_6_method_3_code
def yX4_begin : MethodName := ⟨RX4, "begin", "(II)V"⟩
abbrev cX4_lowestBits : ByteArray := prog_6_method_4_code
def yX4_lowestBits : MethodName := ⟨RX4, "lowestBits", "(I)I"⟩
abbrev cX4_hasPart : ByteArray := prog_6_method_5_code
def yX4_hasPart : MethodName := ⟨RX4, "hasPart", "(II)Z"⟩
abbrev cX4_tells : ByteArray := prog_6_method_6_code
def yX4_tells : MethodName := ⟨RX4, "tells", "(LWalkFences$Fence;)Z"⟩
def RX5 : String := "WalkFences$TextReader"
def TX5 : u_T := fun k => match k with
  | 0 => ("WalkFences$TextReader", "code", "[I", true)
  | 1 => ("WalkFences$TextReader", "length", "I", false)
  | 2 => ("WalkFences$TextReader", "bytes", "[B", false)
  | 3 => ("WalkFences$TextReader", "size", "I", false)
  | 4 => ("WalkFences$TextReader", "place", "I", false)
  | _ => ("WalkFences$TextReader", "names", "Ljava/lang/String;", false)
def tyX5 : Nat → FieldType := fun k => match k with
  | 0 => .array .int
  | 1 => .int
  | 2 => .array .byte
  | 3 => .int
  | 4 => .int
  | _ => .object "java/lang/String"
abbrev wsX50 : List Cond := u_ws RX5 TX5 6
theorem nmX5 : ∀ a, a < 6 → ∀ b, b < 6 → a ≠ b → (TX5 a).2.1 ≠ (TX5 b).2.1 := by decide +kernel
theorem tyX5_ok : ∀ k, k < 6 → parseFieldDescriptor (TX5 k).2.2.1 = some (tyX5 k) := by decide +kernel
abbrev cX5_init : ByteArray := prog_7_method_1_code
def yX5_init : MethodName := ⟨RX5, "<init>", "()V"⟩
abbrev cX5_faultOf : ByteArray := prog_7_method_2_code
def yX5_faultOf : MethodName := ⟨RX5, "faultOf", "([BILjava/lang/String;)I"⟩
abbrev cX5_readLevel : ByteArray := prog_7_method_3_code
def yX5_readLevel : MethodName := ⟨RX5, "readLevel", "(II)Z"⟩
abbrev cX5_joins : ByteArray := prog_7_method_4_code
def yX5_joins : MethodName := ⟨RX5, "joins", "(IC)Z"⟩
abbrev cX5_readQ : ByteArray := prog_7_method_5_code
def yX5_readQ : MethodName := ⟨RX5, "readQ", "(I)Z"⟩
abbrev cX5_readOpened : ByteArray := prog_7_method_6_code
def yX5_readOpened : MethodName := ⟨RX5, "readOpened", "(CI)Z"⟩
abbrev cX5_readNumber : ByteArray := prog_7_method_7_code
def yX5_readNumber : MethodName := ⟨RX5, "readNumber", "()V"⟩
abbrev cX5_isDigit : ByteArray := prog_7_method_8_code
def yX5_isDigit : MethodName := ⟨RX5, "isDigit", "(C)Z"⟩
abbrev cX5_sign : ByteArray := prog_7_method_9_code
def yX5_sign : MethodName := ⟨RX5, "sign", "()C"⟩
abbrev cX5_add : ByteArray := prog_7_method_10_code
def yX5_add : MethodName := ⟨RX5, "add", "(I)V"⟩
def RX6 : String := "WalkFences$Voices"
def TX6 : u_T := fun k => match k with
  | 0 => ("WalkFences$Voices", "bodies", "[I", true)
  | 1 => ("WalkFences$Voices", "begun", "I", false)
  | 2 => ("WalkFences$Voices", "parted", "Z", false)
  | 3 => ("WalkFences$Voices", "kind", "I", false)
  | 4 => ("WalkFences$Voices", "m", "I", false)
  | _ => ("WalkFences$Voices", "k", "I", false)
def tyX6 : Nat → FieldType := fun k => match k with
  | 0 => .array .int
  | 1 => .int
  | 2 => .boolean
  | 3 => .int
  | 4 => .int
  | _ => .int
abbrev wsX60 : List Cond := u_ws RX6 TX6 6
theorem nmX6 : ∀ a, a < 6 → ∀ b, b < 6 → a ≠ b → (TX6 a).2.1 ≠ (TX6 b).2.1 := by decide +kernel
theorem tyX6_ok : ∀ k, k < 6 → parseFieldDescriptor (TX6 k).2.2.1 = some (tyX6 k) := by decide +kernel
abbrev cX6_init : ByteArray := prog_8_method_1_code
def yX6_init : MethodName := ⟨RX6, "<init>", "()V"⟩
abbrev cX6_answer : ByteArray := prog_8_method_2_code
def yX6_answer : MethodName := ⟨RX6, "answer", "(IIIII)I"⟩
abbrev cX6_begins : ByteArray := prog_8_method_3_code
def yX6_begins : MethodName := ⟨RX6, "begins", "(I)V"⟩
abbrev cX6_sings : ByteArray := prog_8_method_4_code
def yX6_sings : MethodName := ⟨RX6, "sings", "(II)I"⟩
abbrev cX6_leans : ByteArray := prog_8_method_5_code
def yX6_leans : MethodName := ⟨RX6, "leans", "(II)I"⟩
abbrev cX6_sprouts : ByteArray := prog_8_method_6_code
def yX6_sprouts : MethodName := ⟨RX6, "sprouts", "(II)I"⟩
abbrev cX6_parts : ByteArray := prog_8_method_7_code
def yX6_parts : MethodName := ⟨RX6, "parts", "(II)I"⟩
def RX7 : String := "WalkFences"
def TX7 : u_T := fun k => match k with
  | 0 => ("WalkFences", "now", "LWalkFences$Range;", true)
  | 1 => ("WalkFences", "kept", "LWalkFences$Range;", true)
  | 2 => ("WalkFences", "thought", "LWalkFences$Range;", true)
  | 3 => ("WalkFences", "reader", "LWalkFences$TextReader;", true)
  | 4 => ("WalkFences", "voices", "LWalkFences$Voices;", true)
  | 5 => ("WalkFences", "sheets", "[LWalkFences$Sheet;", true)
  | 6 => ("WalkFences", "errors", "[I", true)
  | _ => ("WalkFences", "images", "I", false)
def tyX7 : Nat → FieldType := fun k => match k with
  | 0 => .object "WalkFences$Range"
  | 1 => .object "WalkFences$Range"
  | 2 => .object "WalkFences$Range"
  | 3 => .object "WalkFences$TextReader"
  | 4 => .object "WalkFences$Voices"
  | 5 => .array (.object "WalkFences$Sheet")
  | 6 => .array .int
  | _ => .int
abbrev wsX70 : List Cond := u_ws RX7 TX7 8
theorem nmX7 : ∀ a, a < 8 → ∀ b, b < 8 → a ≠ b → (TX7 a).2.1 ≠ (TX7 b).2.1 := by decide +kernel
theorem tyX7_ok : ∀ k, k < 8 → parseFieldDescriptor (TX7 k).2.2.1 = some (tyX7 k) := by decide +kernel
abbrev cX7_init : ByteArray := prog_1_method_1_code
def yX7_init : MethodName := ⟨RX7, "<init>", "()V"⟩
abbrev cX7_fence : ByteArray := prog_1_method_2_code
def yX7_fence : MethodName := ⟨RX7, "fence", "(II)I"⟩
abbrev cX7_post : ByteArray := prog_1_method_3_code
def yX7_post : MethodName := ⟨RX7, "post", "(II)I"⟩
abbrev cX7_fenceIs : ByteArray := prog_1_method_4_code
def yX7_fenceIs : MethodName := ⟨RX7, "fenceIs", "(II)I"⟩
abbrev cX7_at : ByteArray := prog_1_method_5_code
def yX7_at : MethodName := ⟨RX7, "at", "(II)I"⟩
abbrev cX7_heads : ByteArray := prog_1_method_6_code
def yX7_heads : MethodName := ⟨RX7, "heads", "(II)I"⟩
abbrev cX7_become : ByteArray := prog_1_method_7_code
def yX7_become : MethodName := ⟨RX7, "become", "(II)I"⟩
abbrev cX7_as : ByteArray := prog_1_method_8_code
def yX7_as : MethodName := ⟨RX7, "as", "(II)I"⟩
abbrev cX7_turn : ByteArray := prog_1_method_9_code
def yX7_turn : MethodName := ⟨RX7, "turn", "(II)I"⟩
abbrev cX7_cut : ByteArray := prog_1_method_10_code
def yX7_cut : MethodName := ⟨RX7, "cut", "(I)I"⟩
abbrev cX7_lay : ByteArray := prog_1_method_11_code
def yX7_lay : MethodName := ⟨RX7, "lay", "(III)I"⟩
abbrev cX7_cow : ByteArray := prog_1_method_12_code
def yX7_cow : MethodName := ⟨RX7, "cow", "(I)I"⟩
abbrev cX7_cowIs : ByteArray := prog_1_method_13_code
def yX7_cowIs : MethodName := ⟨RX7, "cowIs", "(II)I"⟩
abbrev cX7_drive : ByteArray := prog_1_method_14_code
def yX7_drive : MethodName := ⟨RX7, "drive", "(II)I"⟩
abbrev cX7_feed : ByteArray := prog_1_method_15_code
def yX7_feed : MethodName := ⟨RX7, "feed", "(JI)I"⟩
abbrev cX7_text : ByteArray := prog_1_method_16_code
def yX7_text : MethodName := ⟨RX7, "text", "(I)I"⟩
abbrev cX7_untell : ByteArray := prog_1_method_17_code
def yX7_untell : MethodName := ⟨RX7, "untell", "(I)I"⟩
abbrev cX7_law : ByteArray := prog_1_method_18_code
def yX7_law : MethodName := ⟨RX7, "law", "(IIII)I"⟩
abbrev cX7_dawns : ByteArray := prog_1_method_19_code
def yX7_dawns : MethodName := ⟨RX7, "dawns", "(I)I"⟩
abbrev cX7_loose : ByteArray := prog_1_method_20_code
def yX7_loose : MethodName := ⟨RX7, "loose", "(I)I"⟩
abbrev cX7_seed : ByteArray := prog_1_method_21_code
def yX7_seed : MethodName := ⟨RX7, "seed", "(I)I"⟩
abbrev cX7_land : ByteArray := prog_1_method_22_code
def yX7_land : MethodName := ⟨RX7, "land", "(II)J"⟩
abbrev cX7_then : ByteArray := prog_1_method_23_code
def yX7_then : MethodName := ⟨RX7, "then", "(III)I"⟩
abbrev cX7_first : ByteArray := prog_1_method_24_code
def yX7_first : MethodName := ⟨RX7, "first", "(II)I"⟩
abbrev cX7_salts : ByteArray := prog_1_method_25_code
def yX7_salts : MethodName := ⟨RX7, "salts", "(IIII)I"⟩
abbrev cX7_way : ByteArray := prog_1_method_26_code
def yX7_way : MethodName := ⟨RX7, "way", "(II)I"⟩
abbrev cX7_odds : ByteArray := prog_1_method_27_code
def yX7_odds : MethodName := ⟨RX7, "odds", "(I)I"⟩
abbrev cX7_fits : ByteArray := prog_1_method_28_code
def yX7_fits : MethodName := ⟨RX7, "fits", "(II)I"⟩
abbrev cX7_voice : ByteArray := prog_1_method_29_code
def yX7_voice : MethodName := ⟨RX7, "voice", "(III)I"⟩
abbrev cX7_body : ByteArray := prog_1_method_30_code
def yX7_body : MethodName := ⟨RX7, "body", "(I)I"⟩
abbrev cX7_sheet : ByteArray := prog_1_method_31_code
def yX7_sheet : MethodName := ⟨RX7, "sheet", "(III)I"⟩
abbrev cX7_put : ByteArray := prog_1_method_32_code
def yX7_put : MethodName := ⟨RX7, "put", "(III)I"⟩
abbrev cX7_move : ByteArray := prog_1_method_33_code
def yX7_move : MethodName := ⟨RX7, "move", "(IIIII)I"⟩
abbrev cX7_sets : ByteArray := prog_1_method_34_code
def yX7_sets : MethodName := ⟨RX7, "sets", "(II)I"⟩
abbrev cX7_judge : ByteArray := prog_1_method_35_code
def yX7_judge : MethodName := ⟨RX7, "judge", "(I)I"⟩
abbrev cX7_image : ByteArray := prog_1_method_36_code
def yX7_image : MethodName := ⟨RX7, "image", "()I"⟩
abbrev cX7_restore : ByteArray := prog_1_method_37_code
def yX7_restore : MethodName := ⟨RX7, "restore", "()I"⟩
abbrev cX7_tell : ByteArray := prog_1_method_38_code
def yX7_tell : MethodName := ⟨RX7, "tell", "(I)I"⟩
abbrev cX7_check : ByteArray := prog_1_method_39_code
def yX7_check : MethodName := ⟨RX7, "check", "()I"⟩
abbrev cX7_count : ByteArray := prog_1_method_40_code
def yX7_count : MethodName := ⟨RX7, "count", "(I)I"⟩
abbrev cX7_told : ByteArray := prog_1_method_41_code
def yX7_told : MethodName := ⟨RX7, "told", "(I)I"⟩
abbrev cX7_error : ByteArray := prog_1_method_42_code
def yX7_error : MethodName := ⟨RX7, "error", "(I)I"⟩
abbrev cX7_isFence : ByteArray := prog_1_method_43_code
def yX7_isFence : MethodName := ⟨RX7, "isFence", "(I)Z"⟩
abbrev cX7_isPost : ByteArray := prog_1_method_44_code
def yX7_isPost : MethodName := ⟨RX7, "isPost", "(II)Z"⟩
abbrev cX7_isCow : ByteArray := prog_1_method_45_code
def yX7_isCow : MethodName := ⟨RX7, "isCow", "(I)Z"⟩
abbrev cX7_isKm : ByteArray := prog_1_method_46_code
def yX7_isKm : MethodName := ⟨RX7, "isKm", "(I)Z"⟩
abbrev cX7_isWay : ByteArray := prog_1_method_47_code
def yX7_isWay : MethodName := ⟨RX7, "isWay", "(I)Z"⟩
abbrev cX7_isUse : ByteArray := prog_1_method_48_code
def yX7_isUse : MethodName := ⟨RX7, "isUse", "(I)Z"⟩
abbrev cX7_isSheet : ByteArray := prog_1_method_49_code
def yX7_isSheet : MethodName := ⟨RX7, "isSheet", "(I)Z"⟩
abbrev cX7_isOfKind : ByteArray := prog_1_method_50_code
def yX7_isOfKind : MethodName := ⟨RX7, "isOfKind", "(II)Z"⟩
abbrev cX7_fewestSalts : ByteArray := prog_1_method_51_code
def yX7_fewestSalts : MethodName := ⟨RX7, "fewestSalts", "(III)J"⟩
abbrev cX7_isInsideSalted : ByteArray := prog_1_method_52_code
def yX7_isInsideSalted : MethodName := ⟨RX7, "isInsideSalted", "(IIIJ)Z"⟩
def RX8 : String := "WalkFencesModel"
def TX8 : u_T := fun k => match k with
  | 0 => ("WalkFencesModel", "row", "[I", true)
  | 1 => ("WalkFencesModel", "kept", "[I", true)
  | 2 => ("WalkFencesModel", "before", "[I", true)
  | 3 => ("WalkFencesModel", "images", "I", false)
  | 4 => ("WalkFencesModel", "errors", "[I", true)
  | 5 => ("WalkFencesModel", "bitsOf", "[I", true)
  | 6 => ("WalkFencesModel", "sizeOf", "[I", true)
  | 7 => ("WalkFencesModel", "cells", "[I", true)
  | 8 => ("WalkFencesModel", "act", "[I", true)
  | 9 => ("WalkFencesModel", "with", "[I", true)
  | 10 => ("WalkFencesModel", "facts", "[I", true)
  | 11 => ("WalkFencesModel", "pile", "[I", true)
  | 12 => ("WalkFencesModel", "laid", "I", false)
  | 13 => ("WalkFencesModel", "here", "I", false)
  | 14 => ("WalkFencesModel", "opened", "I", false)
  | 15 => ("WalkFencesModel", "bad", "Z", false)
  | 16 => ("WalkFencesModel", "using", "I", false)
  | 17 => ("WalkFencesModel", "trace", "[I", true)
  | 18 => ("WalkFencesModel", "traced", "I", false)
  | _ => ("WalkFencesModel", "isParted", "Z", false)
def tyX8 : Nat → FieldType := fun k => match k with
  | 0 => .array .int
  | 1 => .array .int
  | 2 => .array .int
  | 3 => .int
  | 4 => .array .int
  | 5 => .array .int
  | 6 => .array .int
  | 7 => .array .int
  | 8 => .array .int
  | 9 => .array .int
  | 10 => .array .int
  | 11 => .array .int
  | 12 => .int
  | 13 => .int
  | 14 => .int
  | 15 => .boolean
  | 16 => .int
  | 17 => .array .int
  | 18 => .int
  | _ => .boolean
abbrev wsX80 : List Cond := u_ws RX8 TX8 20
theorem nmX8 : ∀ a, a < 20 → ∀ b, b < 20 → a ≠ b → (TX8 a).2.1 ≠ (TX8 b).2.1 := by decide +kernel
theorem tyX8_ok : ∀ k, k < 20 → parseFieldDescriptor (TX8 k).2.2.1 = some (tyX8 k) := by decide +kernel
abbrev cX8_init : ByteArray := prog_10_method_1_code
def yX8_init : MethodName := ⟨RX8, "<init>", "()V"⟩
abbrev cX8_error : ByteArray := prog_10_method_2_code
def yX8_error : MethodName := ⟨RX8, "error", "(I)I"⟩
abbrev cX8_in : ByteArray := prog_10_method_3_code
def yX8_in : MethodName := ⟨RX8, "in", "(III)Z"⟩
abbrev cX8_held : ByteArray := prog_10_method_4_code
def yX8_held : MethodName := ⟨RX8, "held", "(III)I"⟩
abbrev cX8_copyAll : ByteArray := prog_10_method_5_code
def yX8_copyAll : MethodName := ⟨RX8, "copyAll", "([I[I)V"⟩
abbrev cX8_thinks : ByteArray := prog_10_method_6_code
def yX8_thinks : MethodName := ⟨RX8, "thinks", "()V"⟩
abbrev cX8_putsBack : ByteArray := prog_10_method_7_code
def yX8_putsBack : MethodName := ⟨RX8, "putsBack", "()V"⟩
abbrev cX8_bits : ByteArray := prog_10_method_8_code
def yX8_bits : MethodName := ⟨RX8, "bits", "(J)I"⟩
abbrev cX8_isFence : ByteArray := prog_10_method_9_code
def yX8_isFence : MethodName := ⟨RX8, "isFence", "(I)Z"⟩
abbrev cX8_isCow : ByteArray := prog_10_method_10_code
def yX8_isCow : MethodName := ⟨RX8, "isCow", "(I)Z"⟩
abbrev cX8_isCell : ByteArray := prog_10_method_11_code
def yX8_isCell : MethodName := ⟨RX8, "isCell", "(I)Z"⟩
abbrev cX8_becomes : ByteArray := prog_10_method_12_code
def yX8_becomes : MethodName := ⟨RX8, "becomes", "(II)I"⟩
abbrev cX8_of : ByteArray := prog_10_method_13_code
def yX8_of : MethodName := ⟨RX8, "of", "(II)I"⟩
abbrev cX8_lets : ByteArray := prog_10_method_14_code
def yX8_lets : MethodName := ⟨RX8, "lets", "(III)V"⟩
abbrev cX8_headsOf : ByteArray := prog_10_method_15_code
def yX8_headsOf : MethodName := ⟨RX8, "headsOf", "(II)I"⟩
abbrev cX8_next : ByteArray := prog_10_method_16_code
def yX8_next : MethodName := ⟨RX8, "next", "(II)I"⟩
abbrev cX8_moves : ByteArray := prog_10_method_17_code
def yX8_moves : MethodName := ⟨RX8, "moves", "()V"⟩
abbrev cX8_postsOf : ByteArray := prog_10_method_18_code
def yX8_postsOf : MethodName := ⟨RX8, "postsOf", "(I)J"⟩
abbrev cX8_beside : ByteArray := prog_10_method_19_code
def yX8_beside : MethodName := ⟨RX8, "beside", "(J)J"⟩
abbrev cX8_insideOf : ByteArray := prog_10_method_20_code
def yX8_insideOf : MethodName := ⟨RX8, "insideOf", "(I)J"⟩
abbrev cX8_brandOf : ByteArray := prog_10_method_21_code
def yX8_brandOf : MethodName := ⟨RX8, "brandOf", "(I)I"⟩
abbrev cX8_grazeOf : ByteArray := prog_10_method_22_code
def yX8_grazeOf : MethodName := ⟨RX8, "grazeOf", "(I)I"⟩
abbrev cX8_isKm : ByteArray := prog_10_method_23_code
def yX8_isKm : MethodName := ⟨RX8, "isKm", "(I)Z"⟩
abbrev cX8_fence : ByteArray := prog_10_method_24_code
def yX8_fence : MethodName := ⟨RX8, "fence", "(II)I"⟩
abbrev cX8_post : ByteArray := prog_10_method_25_code
def yX8_post : MethodName := ⟨RX8, "post", "(II)I"⟩
abbrev cX8_fenceIs : ByteArray := prog_10_method_26_code
def yX8_fenceIs : MethodName := ⟨RX8, "fenceIs", "(II)I"⟩
abbrev cX8_isPost : ByteArray := prog_10_method_27_code
def yX8_isPost : MethodName := ⟨RX8, "isPost", "(II)Z"⟩
abbrev cX8_at : ByteArray := prog_10_method_28_code
def yX8_at : MethodName := ⟨RX8, "at", "(II)I"⟩
abbrev cX8_heads : ByteArray := prog_10_method_29_code
def yX8_heads : MethodName := ⟨RX8, "heads", "(II)I"⟩
abbrev cX8_become : ByteArray := prog_10_method_30_code
def yX8_become : MethodName := ⟨RX8, "become", "(II)I"⟩
abbrev cX8_as : ByteArray := prog_10_method_31_code
def yX8_as : MethodName := ⟨RX8, "as", "(II)I"⟩
abbrev cX8_turn : ByteArray := prog_10_method_32_code
def yX8_turn : MethodName := ⟨RX8, "turn", "(II)I"⟩
abbrev cX8_cut : ByteArray := prog_10_method_33_code
def yX8_cut : MethodName := ⟨RX8, "cut", "(I)I"⟩
abbrev cX8_lay : ByteArray := prog_10_method_34_code
def yX8_lay : MethodName := ⟨RX8, "lay", "(III)I"⟩
abbrev cX8_cow : ByteArray := prog_10_method_35_code
def yX8_cow : MethodName := ⟨RX8, "cow", "(I)I"⟩
abbrev cX8_cowIs : ByteArray := prog_10_method_36_code
def yX8_cowIs : MethodName := ⟨RX8, "cowIs", "(II)I"⟩
abbrev cX8_drive : ByteArray := prog_10_method_37_code
def yX8_drive : MethodName := ⟨RX8, "drive", "(II)I"⟩
abbrev cX8_feed : ByteArray := prog_10_method_38_code
def yX8_feed : MethodName := ⟨RX8, "feed", "(JI)I"⟩
abbrev cX8_look : ByteArray := prog_10_method_39_code
def yX8_look : MethodName := ⟨RX8, "look", "()I"⟩
abbrev cX8_step : ByteArray := prog_10_method_40_code
def yX8_step : MethodName := ⟨RX8, "step", "(II)V"⟩
abbrev cX8_nameOf : ByteArray := prog_10_method_41_code
def yX8_nameOf : MethodName := ⟨RX8, "nameOf", "(I)I"⟩
abbrev cX8_number : ByteArray := prog_10_method_42_code
def yX8_number : MethodName := ⟨RX8, "number", "()V"⟩
abbrev cX8_opens : ByteArray := prog_10_method_43_code
def yX8_opens : MethodName := ⟨RX8, "opens", "(I)V"⟩
abbrev cX8_one : ByteArray := prog_10_method_44_code
def yX8_one : MethodName := ⟨RX8, "one", "()V"⟩
abbrev cX8_times : ByteArray := prog_10_method_45_code
def yX8_times : MethodName := ⟨RX8, "times", "()V"⟩
abbrev cX8_sum : ByteArray := prog_10_method_46_code
def yX8_sum : MethodName := ⟨RX8, "sum", "()V"⟩
abbrev cX8_compares : ByteArray := prog_10_method_47_code
def yX8_compares : MethodName := ⟨RX8, "compares", "()V"⟩
abbrev cX8_all : ByteArray := prog_10_method_48_code
def yX8_all : MethodName := ⟨RX8, "all", "()V"⟩
abbrev cX8_any : ByteArray := prog_10_method_49_code
def yX8_any : MethodName := ⟨RX8, "any", "()V"⟩
abbrev cX8_text : ByteArray := prog_10_method_50_code
def yX8_text : MethodName := ⟨RX8, "text", "(I)I"⟩
abbrev cX8_untell : ByteArray := prog_10_method_51_code
def yX8_untell : MethodName := ⟨RX8, "untell", "(I)I"⟩
abbrev cX8_twoOf : ByteArray := prog_10_method_52_code
def yX8_twoOf : MethodName := ⟨RX8, "twoOf", "(III)I"⟩
abbrev cX8_works : ByteArray := prog_10_method_53_code
def yX8_works : MethodName := ⟨RX8, "works", "(I)I"⟩
abbrev cX8_gives : ByteArray := prog_10_method_54_code
def yX8_gives : MethodName := ⟨RX8, "gives", "(IIII)I"⟩
abbrev cX8_law : ByteArray := prog_10_method_55_code
def yX8_law : MethodName := ⟨RX8, "law", "(IIII)I"⟩
abbrev cX8_goes : ByteArray := prog_10_method_56_code
def yX8_goes : MethodName := ⟨RX8, "goes", "()V"⟩
abbrev cX8_dawns : ByteArray := prog_10_method_57_code
def yX8_dawns : MethodName := ⟨RX8, "dawns", "(I)I"⟩
abbrev cX8_draw : ByteArray := prog_10_method_58_code
def yX8_draw : MethodName := ⟨RX8, "draw", "()I"⟩
abbrev cX8_drawn : ByteArray := prog_10_method_59_code
def yX8_drawn : MethodName := ⟨RX8, "drawn", "()V"⟩
abbrev cX8_countOf : ByteArray := prog_10_method_60_code
def yX8_countOf : MethodName := ⟨RX8, "countOf", "(I)I"⟩
abbrev cX8_loose : ByteArray := prog_10_method_61_code
def yX8_loose : MethodName := ⟨RX8, "loose", "(I)I"⟩
abbrev cX8_seed : ByteArray := prog_10_method_62_code
def yX8_seed : MethodName := ⟨RX8, "seed", "(I)I"⟩
abbrev cX8_land : ByteArray := prog_10_method_63_code
def yX8_land : MethodName := ⟨RX8, "land", "(II)J"⟩
abbrev cX8_then : ByteArray := prog_10_method_64_code
def yX8_then : MethodName := ⟨RX8, "then", "(III)I"⟩
abbrev cX8_first : ByteArray := prog_10_method_65_code
def yX8_first : MethodName := ⟨RX8, "first", "(II)I"⟩
abbrev cX8_isHad : ByteArray := prog_10_method_66_code
def yX8_isHad : MethodName := ⟨RX8, "isHad", "(IIIII)Z"⟩
abbrev cX8_salts : ByteArray := prog_10_method_67_code
def yX8_salts : MethodName := ⟨RX8, "salts", "(IIII)I"⟩
abbrev cX8_allPosts : ByteArray := prog_10_method_68_code
def yX8_allPosts : MethodName := ⟨RX8, "allPosts", "()J"⟩
abbrev cX8_way : ByteArray := prog_10_method_69_code
def yX8_way : MethodName := ⟨RX8, "way", "(II)I"⟩
abbrev cX8_odds : ByteArray := prog_10_method_70_code
def yX8_odds : MethodName := ⟨RX8, "odds", "(I)I"⟩
abbrev cX8_isSo : ByteArray := prog_10_method_71_code
def yX8_isSo : MethodName := ⟨RX8, "isSo", "(II)Z"⟩
abbrev cX8_fits : ByteArray := prog_10_method_72_code
def yX8_fits : MethodName := ⟨RX8, "fits", "(II)I"⟩
abbrev cX8_begins : ByteArray := prog_10_method_73_code
def yX8_begins : MethodName := ⟨RX8, "begins", "(I)V"⟩
abbrev cX8_plainSings : ByteArray := prog_10_method_74_code
def yX8_plainSings : MethodName := ⟨RX8, "plainSings", "(II)I"⟩
abbrev cX8_northernSings : ByteArray := prog_10_method_75_code
def yX8_northernSings : MethodName := ⟨RX8, "northernSings", "(II)I"⟩
abbrev cX8_sings : ByteArray := prog_10_method_76_code
def yX8_sings : MethodName := ⟨RX8, "sings", "(II)I"⟩
abbrev cX8_plainLeans : ByteArray := prog_10_method_77_code
def yX8_plainLeans : MethodName := ⟨RX8, "plainLeans", "(II)I"⟩
abbrev cX8_laggingLeans : ByteArray := prog_10_method_78_code
def yX8_laggingLeans : MethodName := ⟨RX8, "laggingLeans", "(II)I"⟩
abbrev cX8_leans : ByteArray := prog_10_method_79_code
def yX8_leans : MethodName := ⟨RX8, "leans", "(II)I"⟩
abbrev cX8_plainSprouts : ByteArray := prog_10_method_80_code
def yX8_plainSprouts : MethodName := ⟨RX8, "plainSprouts", "(II)I"⟩
abbrev cX8_sprouts : ByteArray := prog_10_method_81_code
def yX8_sprouts : MethodName := ⟨RX8, "sprouts", "(II)I"⟩
abbrev cX8_plainParts : ByteArray := prog_10_method_82_code
def yX8_plainParts : MethodName := ⟨RX8, "plainParts", "(II)I"⟩
abbrev cX8_parts : ByteArray := prog_10_method_83_code
def yX8_parts : MethodName := ⟨RX8, "parts", "(II)I"⟩
abbrev cX8_voice : ByteArray := prog_10_method_84_code
def yX8_voice : MethodName := ⟨RX8, "voice", "(III)I"⟩
abbrev cX8_body : ByteArray := prog_10_method_85_code
def yX8_body : MethodName := ⟨RX8, "body", "(I)I"⟩
abbrev cX8_isSheet : ByteArray := prog_10_method_86_code
def yX8_isSheet : MethodName := ⟨RX8, "isSheet", "(I)Z"⟩
abbrev cX8_sheet : ByteArray := prog_10_method_87_code
def yX8_sheet : MethodName := ⟨RX8, "sheet", "(III)I"⟩
abbrev cX8_notThere : ByteArray := prog_10_method_88_code
def yX8_notThere : MethodName := ⟨RX8, "notThere", "(I)I"⟩
abbrev cX8_put : ByteArray := prog_10_method_89_code
def yX8_put : MethodName := ⟨RX8, "put", "(III)I"⟩
abbrev cX8_notMoved : ByteArray := prog_10_method_90_code
def yX8_notMoved : MethodName := ⟨RX8, "notMoved", "(IIIII)I"⟩
abbrev cX8_move : ByteArray := prog_10_method_91_code
def yX8_move : MethodName := ⟨RX8, "move", "(IIIII)I"⟩
abbrev cX8_sets : ByteArray := prog_10_method_92_code
def yX8_sets : MethodName := ⟨RX8, "sets", "(II)I"⟩
abbrev cX8_judge : ByteArray := prog_10_method_93_code
def yX8_judge : MethodName := ⟨RX8, "judge", "(I)I"⟩
abbrev cX8_image : ByteArray := prog_10_method_94_code
def yX8_image : MethodName := ⟨RX8, "image", "()I"⟩
abbrev cX8_restore : ByteArray := prog_10_method_95_code
def yX8_restore : MethodName := ⟨RX8, "restore", "()I"⟩
abbrev cX8_tell : ByteArray := prog_10_method_96_code
def yX8_tell : MethodName := ⟨RX8, "tell", "(I)I"⟩
abbrev cX8_check : ByteArray := prog_10_method_97_code
def yX8_check : MethodName := ⟨RX8, "check", "()I"⟩
abbrev cX8_count : ByteArray := prog_10_method_98_code
def yX8_count : MethodName := ⟨RX8, "count", "(I)I"⟩
abbrev cX8_told : ByteArray := prog_10_method_99_code
def yX8_told : MethodName := ⟨RX8, "told", "(I)I"⟩
def RJ11 : String := "java/lang/Character"
def TJ11 : u_T := fun k => match k with
  | _ => ("", "", "", false)
def tyJ11 : Nat → FieldType := fun k => match k with
  | _ => .int
abbrev wsJ110 : List Cond := u_ws RJ11 TJ11 0
theorem nmJ11 : ∀ a, a < 0 → ∀ b, b < 0 → a ≠ b → (TJ11 a).2.1 ≠ (TJ11 b).2.1 := by decide +kernel
theorem tyJ11_ok : ∀ k, k < 0 → parseFieldDescriptor (TJ11 k).2.2.1 = some (tyJ11 k) := by decide +kernel
abbrev cJ11_isValidCodePoint_9a6ad : ByteArray := prog_11_method_11_code
def yJ11_isValidCodePoint_9a6ad : MethodName := ⟨RJ11, "isValidCodePoint", "(I)Z"⟩
abbrev cJ11_highSurrogate_5068e : ByteArray := prog_11_method_28_code
def yJ11_highSurrogate_5068e : MethodName := ⟨RJ11, "highSurrogate", "(I)C"⟩
abbrev cJ11_lowSurrogate_5068e : ByteArray := prog_11_method_29_code
def yJ11_lowSurrogate_5068e : MethodName := ⟨RJ11, "lowSurrogate", "(I)C"⟩
def RJ6 : String := "java/lang/Integer"
def TJ6 : u_T := fun k => match k with
  | _ => ("", "", "", false)
def tyJ6 : Nat → FieldType := fun k => match k with
  | _ => .int
abbrev wsJ60 : List Cond := u_ws RJ6 TJ6 0
theorem nmJ6 : ∀ a, a < 0 → ∀ b, b < 0 → a ≠ b → (TJ6 a).2.1 ≠ (TJ6 b).2.1 := by decide +kernel
theorem tyJ6_ok : ∀ k, k < 0 → parseFieldDescriptor (TJ6 k).2.2.1 = some (tyJ6 k) := by decide +kernel
abbrev cJ6_numberOfTrailingZeros_0f7a4 : ByteArray := prog_12_method_48_code
def yJ6_numberOfTrailingZeros_0f7a4 : MethodName := ⟨RJ6, "numberOfTrailingZeros", "(I)I"⟩
def RJ13 : String := "java/lang/Long"
def TJ13 : u_T := fun k => match k with
  | _ => ("", "", "", false)
def tyJ13 : Nat → FieldType := fun k => match k with
  | _ => .int
abbrev wsJ130 : List Cond := u_ws RJ13 TJ13 0
theorem nmJ13 : ∀ a, a < 0 → ∀ b, b < 0 → a ≠ b → (TJ13 a).2.1 ≠ (TJ13 b).2.1 := by decide +kernel
theorem tyJ13_ok : ∀ k, k < 0 → parseFieldDescriptor (TJ13 k).2.2.1 = some (tyJ13 k) := by decide +kernel
abbrev cJ13_numberOfTrailingZeros_95d88 : ByteArray := prog_13_method_49_code
def yJ13_numberOfTrailingZeros_95d88 : MethodName := ⟨RJ13, "numberOfTrailingZeros", "(J)I"⟩
abbrev cJ13_bitCount_95d88 : ByteArray := prog_13_method_50_code
def yJ13_bitCount_95d88 : MethodName := ⟨RJ13, "bitCount", "(J)I"⟩
def RJ9 : String := "java/lang/Math"
def TJ9 : u_T := fun k => match k with
  | _ => ("", "", "", false)
def tyJ9 : Nat → FieldType := fun k => match k with
  | _ => .int
abbrev wsJ90 : List Cond := u_ws RJ9 TJ9 0
theorem nmJ9 : ∀ a, a < 0 → ∀ b, b < 0 → a ≠ b → (TJ9 a).2.1 ≠ (TJ9 b).2.1 := by decide +kernel
theorem tyJ9_ok : ∀ k, k < 0 → parseFieldDescriptor (TJ9 k).2.2.1 = some (tyJ9 k) := by decide +kernel
abbrev cJ9_max_7cf53 : ByteArray := prog_14_method_65_code
def yJ9_max_7cf53 : MethodName := ⟨RJ9, "max", "(II)I"⟩
abbrev cJ9_min_7cf53 : ByteArray := prog_14_method_69_code
def yJ9_min_7cf53 : MethodName := ⟨RJ9, "min", "(II)I"⟩
def RJ0 : String := "java/lang/String"
def TJ0 : u_T := fun k => match k with
  | _ => ("", "", "", false)
def tyJ0 : Nat → FieldType := fun k => match k with
  | _ => .int
abbrev wsJ00 : List Cond := u_ws RJ0 TJ0 0
theorem nmJ0 : ∀ a, a < 0 → ∀ b, b < 0 → a ≠ b → (TJ0 a).2.1 ≠ (TJ0 b).2.1 := by decide +kernel
theorem tyJ0_ok : ∀ k, k < 0 → parseFieldDescriptor (TJ0 k).2.2.1 = some (tyJ0 k) := by decide +kernel
abbrev cJ0_length_8abf5 : ByteArray := prog_15_method_54_code
def yJ0_length_8abf5 : MethodName := ⟨RJ0, "length", "()I"⟩
abbrev cJ0_indexOf_0f7a4 : ByteArray := prog_15_method_79_code
def yJ0_indexOf_0f7a4 : MethodName := ⟨RJ0, "indexOf", "(I)I"⟩
abbrev cJ0_indexOf_7cf53 : ByteArray := prog_15_method_80_code
def yJ0_indexOf_7cf53 : MethodName := ⟨RJ0, "indexOf", "(II)I"⟩
abbrev cJ0_coder_7d493 : ByteArray := prog_15_method_152_code
def yJ0_coder_7d493 : MethodName := ⟨RJ0, "coder", "()B"⟩
abbrev cJ0_isLatin1_aae02 : ByteArray := prog_15_method_154_code
def yJ0_isLatin1_aae02 : MethodName := ⟨RJ0, "isLatin1", "()Z"⟩
abbrev cJ0_checkBoundsBeginEnd_23922 : ByteArray := prog_15_method_158_code
def yJ0_checkBoundsBeginEnd_23922 : MethodName := ⟨RJ0, "checkBoundsBeginEnd", "(III)V"⟩
def RJ1 : String := "java/lang/StringLatin1"
def TJ1 : u_T := fun k => match k with
  | _ => ("", "", "", false)
def tyJ1 : Nat → FieldType := fun k => match k with
  | _ => .int
abbrev wsJ10 : List Cond := u_ws RJ1 TJ1 0
theorem nmJ1 : ∀ a, a < 0 → ∀ b, b < 0 → a ≠ b → (TJ1 a).2.1 ≠ (TJ1 b).2.1 := by decide +kernel
theorem tyJ1_ok : ∀ k, k < 0 → parseFieldDescriptor (TJ1 k).2.2.1 = some (tyJ1 k) := by decide +kernel
abbrev cJ1_canEncode_9a6ad : ByteArray := prog_16_method_4_code
def yJ1_canEncode_9a6ad : MethodName := ⟨RJ1, "canEncode", "(I)Z"⟩
abbrev cJ1_indexOf_4cfef : ByteArray := prog_16_method_22_code
def yJ1_indexOf_4cfef : MethodName := ⟨RJ1, "indexOf", "([BIII)I"⟩
abbrev cJ1_indexOfChar_4cfef : ByteArray := prog_16_method_23_code
def yJ1_indexOfChar_4cfef : MethodName := ⟨RJ1, "indexOfChar", "([BIII)I"⟩
def RJ2 : String := "java/lang/StringUTF16"
def TJ2 : u_T := fun k => match k with
  | _ => ("", "", "", false)
def tyJ2 : Nat → FieldType := fun k => match k with
  | _ => .int
abbrev wsJ20 : List Cond := u_ws RJ2 TJ2 0
theorem nmJ2 : ∀ a, a < 0 → ∀ b, b < 0 → a ≠ b → (TJ2 a).2.1 ≠ (TJ2 b).2.1 := by decide +kernel
theorem tyJ2_ok : ∀ k, k < 0 → parseFieldDescriptor (TJ2 k).2.2.1 = some (tyJ2 k) := by decide +kernel
abbrev cJ2_getChar_3b067 : ByteArray := prog_17_method_5_code
def yJ2_getChar_3b067 : MethodName := ⟨RJ2, "getChar", "([BI)C"⟩
abbrev cJ2_length_9d52b : ByteArray := prog_17_method_6_code
def yJ2_length_9d52b : MethodName := ⟨RJ2, "length", "([B)I"⟩
abbrev cJ2_indexOf_4cfef : ByteArray := prog_17_method_40_code
def yJ2_indexOf_4cfef : MethodName := ⟨RJ2, "indexOf", "([BIII)I"⟩
abbrev cJ2_indexOfChar_4cfef : ByteArray := prog_17_method_47_code
def yJ2_indexOfChar_4cfef : MethodName := ⟨RJ2, "indexOfChar", "([BIII)I"⟩
abbrev cJ2_indexOfCharUnsafe_4cfef : ByteArray := prog_17_method_48_code
def yJ2_indexOfCharUnsafe_4cfef : MethodName := ⟨RJ2, "indexOfCharUnsafe", "([BIII)I"⟩
abbrev cJ2_indexOfSupplementary_4cfef : ByteArray := prog_17_method_49_code
def yJ2_indexOfSupplementary_4cfef : MethodName := ⟨RJ2, "indexOfSupplementary", "([BIII)I"⟩
abbrev cJ2_checkBoundsBeginEnd_d044e : ByteArray := prog_17_method_93_code
def yJ2_checkBoundsBeginEnd_d044e : MethodName := ⟨RJ2, "checkBoundsBeginEnd", "(II[B)V"⟩
def RJ10 : String := "java/lang/System"
def TJ10 : u_T := fun k => match k with
  | _ => ("", "", "", false)
def tyJ10 : Nat → FieldType := fun k => match k with
  | _ => .int
abbrev wsJ100 : List Cond := u_ws RJ10 TJ10 0
theorem nmJ10 : ∀ a, a < 0 → ∀ b, b < 0 → a ≠ b → (TJ10 a).2.1 ≠ (TJ10 b).2.1 := by decide +kernel
theorem tyJ10_ok : ∀ k, k < 0 → parseFieldDescriptor (TJ10 k).2.2.1 = some (tyJ10 k) := by decide +kernel
def RJ3 : String := "jdk/internal/util/Preconditions"
def TJ3 : u_T := fun k => match k with
  | _ => ("", "", "", false)
def tyJ3 : Nat → FieldType := fun k => match k with
  | _ => .int
abbrev wsJ30 : List Cond := u_ws RJ3 TJ3 0
theorem nmJ3 : ∀ a, a < 0 → ∀ b, b < 0 → a ≠ b → (TJ3 a).2.1 ≠ (TJ3 b).2.1 := by decide +kernel
theorem tyJ3_ok : ∀ k, k < 0 → parseFieldDescriptor (TJ3 k).2.2.1 = some (tyJ3 k) := by decide +kernel
abbrev cJ3_checkFromToIndex_8c36e : ByteArray := prog_19_method_12_code
def yJ3_checkFromToIndex_8c36e : MethodName := ⟨RJ3, "checkFromToIndex", "(IIILjava/util/function/BiFunction;)I"⟩
def RL : String := "WalkFencesLaw"
abbrev cL_law : ByteArray := code
def yL_law : MethodName := ⟨RL, "law", "([I)Z"⟩
abbrev vwCl : List vw_C := [(RX0, TX0, 6), (RX2, TX2, 4), (RX3, TX3, 15), (RX4, TX4, 3), (RX5, TX5, 6), (RX6, TX6, 6), (RX7, TX7, 8), (RX8, TX8, 20)]
