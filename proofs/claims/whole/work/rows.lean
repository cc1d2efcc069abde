section
-- ===== PART A: goes FIRST, ahead of the names: the tables' words, and 'selects' of the private methods out of them =====
/-- a private method of a class that the tables say can be made, by its rows of tables_1 -/
def lw_okq (q : MethodName × Nat) : Prop := (q.1.cls ≠ "java/lang/invoke/MethodHandle" ∧ q.1.cls ≠ "java/lang/invoke/VarHandle") ∧ Cond.instantiable q.1.cls q.2 ∈ tables_1 ∧ Cond.privateMethod q.1 ∈ tables_1 ∧ Cond.instanceMethod q.1 ∈ tables_1
theorem lw_p0 : lw_okq (⟨"SignedClouds", "found", "(I)I"⟩, 12) := ⟨⟨by decide +kernel, by decide +kernel⟩, List.mem_of_getElem? (i := 16) (by decide +kernel), List.mem_of_getElem? (i := 301) (by decide +kernel), List.mem_of_getElem? (i := 302) (by decide +kernel)⟩
theorem lw_p1 : lw_okq (⟨"SignedClouds", "fine", "(I)I"⟩, 12) := ⟨⟨by decide +kernel, by decide +kernel⟩, List.mem_of_getElem? (i := 16) (by decide +kernel), List.mem_of_getElem? (i := 310) (by decide +kernel), List.mem_of_getElem? (i := 311) (by decide +kernel)⟩
theorem lw_p2 : lw_okq (⟨"SignedClouds$Reader", "readLaw", "()V"⟩, 4) := ⟨⟨by decide +kernel, by decide +kernel⟩, List.mem_of_getElem? (i := 59) (by decide +kernel), List.mem_of_getElem? (i := 373) (by decide +kernel), List.mem_of_getElem? (i := 374) (by decide +kernel)⟩
theorem lw_p3 : lw_okq (⟨"SignedClouds$Reader", "take", "(I)V"⟩, 4) := ⟨⟨by decide +kernel, by decide +kernel⟩, List.mem_of_getElem? (i := 59) (by decide +kernel), List.mem_of_getElem? (i := 377) (by decide +kernel), List.mem_of_getElem? (i := 378) (by decide +kernel)⟩
theorem lw_p4 : lw_okq (⟨"SignedClouds$Reader", "takeNumber", "(II)I"⟩, 4) := ⟨⟨by decide +kernel, by decide +kernel⟩, List.mem_of_getElem? (i := 59) (by decide +kernel), List.mem_of_getElem? (i := 385) (by decide +kernel), List.mem_of_getElem? (i := 386) (by decide +kernel)⟩
theorem lw_p5 : lw_okq (⟨"SignedClouds$Reader", "readCloud", "(I)V"⟩, 4) := ⟨⟨by decide +kernel, by decide +kernel⟩, List.mem_of_getElem? (i := 59) (by decide +kernel), List.mem_of_getElem? (i := 393) (by decide +kernel), List.mem_of_getElem? (i := 394) (by decide +kernel)⟩
theorem lw_p6 : lw_okq (⟨"SignedClouds$Reader", "takeSort", "(I)I"⟩, 4) := ⟨⟨by decide +kernel, by decide +kernel⟩, List.mem_of_getElem? (i := 59) (by decide +kernel), List.mem_of_getElem? (i := 397) (by decide +kernel), List.mem_of_getElem? (i := 398) (by decide +kernel)⟩
theorem lw_p7 : lw_okq (⟨"SignedClouds", "noSky", "()Z"⟩, 12) := ⟨⟨by decide +kernel, by decide +kernel⟩, List.mem_of_getElem? (i := 16) (by decide +kernel), List.mem_of_getElem? (i := 436) (by decide +kernel), List.mem_of_getElem? (i := 437) (by decide +kernel)⟩
theorem lw_p8 : lw_okq (⟨"SignedClouds$Sky", "reach", "(I)I"⟩, 10) := ⟨⟨by decide +kernel, by decide +kernel⟩, List.mem_of_getElem? (i := 65) (by decide +kernel), List.mem_of_getElem? (i := 475) (by decide +kernel), List.mem_of_getElem? (i := 476) (by decide +kernel)⟩
theorem lw_p9 : lw_okq (⟨"SignedClouds$Sky", "rainOn", "(II)V"⟩, 10) := ⟨⟨by decide +kernel, by decide +kernel⟩, List.mem_of_getElem? (i := 65) (by decide +kernel), List.mem_of_getElem? (i := 483) (by decide +kernel), List.mem_of_getElem? (i := 484) (by decide +kernel)⟩
theorem lw_p10 : lw_okq (⟨"SignedClouds", "isCloud", "(I)Z"⟩, 12) := ⟨⟨by decide +kernel, by decide +kernel⟩, List.mem_of_getElem? (i := 16) (by decide +kernel), List.mem_of_getElem? (i := 501) (by decide +kernel), List.mem_of_getElem? (i := 502) (by decide +kernel)⟩
theorem lw_p11 : lw_okq (⟨"SignedClouds$Foreteller", "begin", "()V"⟩, 3) := ⟨⟨by decide +kernel, by decide +kernel⟩, List.mem_of_getElem? (i := 166) (by decide +kernel), List.mem_of_getElem? (i := 551) (by decide +kernel), List.mem_of_getElem? (i := 552) (by decide +kernel)⟩
theorem lw_p12 : lw_okq (⟨"SignedClouds", "areTwoClouds", "(II)Z"⟩, 12) := ⟨⟨by decide +kernel, by decide +kernel⟩, List.mem_of_getElem? (i := 16) (by decide +kernel), List.mem_of_getElem? (i := 600) (by decide +kernel), List.mem_of_getElem? (i := 601) (by decide +kernel)⟩
theorem lw_p13 : lw_okq (⟨"SignedClouds$Towing", "findWetted", "(I)V"⟩, 7) := ⟨⟨by decide +kernel, by decide +kernel⟩, List.mem_of_getElem? (i := 184) (by decide +kernel), List.mem_of_getElem? (i := 628) (by decide +kernel), List.mem_of_getElem? (i := 629) (by decide +kernel)⟩
theorem lw_p14 : lw_okq (⟨"SignedClouds$Towing", "tryFrom", "(III)V"⟩, 7) := ⟨⟨by decide +kernel, by decide +kernel⟩, List.mem_of_getElem? (i := 184) (by decide +kernel), List.mem_of_getElem? (i := 634) (by decide +kernel), List.mem_of_getElem? (i := 635) (by decide +kernel)⟩
theorem lw_p15 : lw_okq (⟨"SignedClouds", "refusalOfRain", "(IIIII)I"⟩, 12) := ⟨⟨by decide +kernel, by decide +kernel⟩, List.mem_of_getElem? (i := 16) (by decide +kernel), List.mem_of_getElem? (i := 653) (by decide +kernel), List.mem_of_getElem? (i := 654) (by decide +kernel)⟩
def lw_privs_1 : List (MethodName × Nat) := [(⟨"SignedClouds", "found", "(I)I"⟩, 12), (⟨"SignedClouds", "fine", "(I)I"⟩, 12), (⟨"SignedClouds$Reader", "readLaw", "()V"⟩, 4), (⟨"SignedClouds$Reader", "take", "(I)V"⟩, 4), (⟨"SignedClouds$Reader", "takeNumber", "(II)I"⟩, 4), (⟨"SignedClouds$Reader", "readCloud", "(I)V"⟩, 4), (⟨"SignedClouds$Reader", "takeSort", "(I)I"⟩, 4), (⟨"SignedClouds", "noSky", "()Z"⟩, 12), (⟨"SignedClouds$Sky", "reach", "(I)I"⟩, 10), (⟨"SignedClouds$Sky", "rainOn", "(II)V"⟩, 10), (⟨"SignedClouds", "isCloud", "(I)Z"⟩, 12), (⟨"SignedClouds$Foreteller", "begin", "()V"⟩, 3), (⟨"SignedClouds", "areTwoClouds", "(II)Z"⟩, 12), (⟨"SignedClouds$Towing", "findWetted", "(I)V"⟩, 7), (⟨"SignedClouds$Towing", "tryFrom", "(III)V"⟩, 7), (⟨"SignedClouds", "refusalOfRain", "(IIIII)I"⟩, 12)]
theorem lw_r1 : ∀ q ∈ lw_privs_1, lw_okq q := List.forall_mem_cons.mpr ⟨lw_p0, List.forall_mem_cons.mpr ⟨lw_p1, List.forall_mem_cons.mpr ⟨lw_p2, List.forall_mem_cons.mpr ⟨lw_p3, List.forall_mem_cons.mpr ⟨lw_p4, List.forall_mem_cons.mpr ⟨lw_p5, List.forall_mem_cons.mpr ⟨lw_p6, List.forall_mem_cons.mpr ⟨lw_p7, List.forall_mem_cons.mpr ⟨lw_p8, List.forall_mem_cons.mpr ⟨lw_p9, List.forall_mem_cons.mpr ⟨lw_p10, List.forall_mem_cons.mpr ⟨lw_p11, List.forall_mem_cons.mpr ⟨lw_p12, List.forall_mem_cons.mpr ⟨lw_p13, List.forall_mem_cons.mpr ⟨lw_p14, List.forall_mem_cons.mpr ⟨lw_p15, fun _ h => absurd h List.not_mem_nil⟩⟩⟩⟩⟩⟩⟩⟩⟩⟩⟩⟩⟩⟩⟩⟩
theorem lw_p16 : lw_okq (⟨"SignedClouds$Foreteller", "fits", "(IIII)Z"⟩, 3) := ⟨⟨by decide +kernel, by decide +kernel⟩, List.mem_of_getElem? (i := 166) (by decide +kernel), List.mem_of_getElem? (i := 661) (by decide +kernel), List.mem_of_getElem? (i := 662) (by decide +kernel)⟩
theorem lw_p17 : lw_okq (⟨"SignedClouds$Sky", "isPair", "(II)Z"⟩, 10) := ⟨⟨by decide +kernel, by decide +kernel⟩, List.mem_of_getElem? (i := 65) (by decide +kernel), List.mem_of_getElem? (i := 690) (by decide +kernel), List.mem_of_getElem? (i := 691) (by decide +kernel)⟩
theorem lw_p18 : lw_okq (⟨"SignedClouds$Asks", "answer", "(III)I"⟩, 3) := ⟨⟨by decide +kernel, by decide +kernel⟩, List.mem_of_getElem? (i := 235) (by decide +kernel), List.mem_of_getElem? (i := 783) (by decide +kernel), List.mem_of_getElem? (i := 784) (by decide +kernel)⟩
theorem lw_p19 : lw_okq (⟨"SignedClouds$Asks", "body", "(III)I"⟩, 3) := ⟨⟨by decide +kernel, by decide +kernel⟩, List.mem_of_getElem? (i := 235) (by decide +kernel), List.mem_of_getElem? (i := 795) (by decide +kernel), List.mem_of_getElem? (i := 796) (by decide +kernel)⟩
theorem lw_p20 : lw_okq (⟨"SignedClouds$Asks", "leave", "(I)V"⟩, 3) := ⟨⟨by decide +kernel, by decide +kernel⟩, List.mem_of_getElem? (i := 235) (by decide +kernel), List.mem_of_getElem? (i := 799) (by decide +kernel), List.mem_of_getElem? (i := 800) (by decide +kernel)⟩
theorem lw_p21 : lw_okq (⟨"SignedCloudsModel", "finds", "(I)I"⟩, 20) := ⟨⟨by decide +kernel, by decide +kernel⟩, List.mem_of_getElem? (i := 819) (by decide +kernel), List.mem_of_getElem? (i := 899) (by decide +kernel), List.mem_of_getElem? (i := 900) (by decide +kernel)⟩
theorem lw_p22 : lw_okq (⟨"SignedCloudsModel", "well", "(I)I"⟩, 20) := ⟨⟨by decide +kernel, by decide +kernel⟩, List.mem_of_getElem? (i := 819) (by decide +kernel), List.mem_of_getElem? (i := 904) (by decide +kernel), List.mem_of_getElem? (i := 905) (by decide +kernel)⟩
theorem lw_p23 : lw_okq (⟨"SignedCloudsModel", "isPart", "(III)Z"⟩, 20) := ⟨⟨by decide +kernel, by decide +kernel⟩, List.mem_of_getElem? (i := 819) (by decide +kernel), List.mem_of_getElem? (i := 916) (by decide +kernel), List.mem_of_getElem? (i := 917) (by decide +kernel)⟩
theorem lw_p24 : lw_okq (⟨"SignedCloudsModel", "must", "(I)V"⟩, 20) := ⟨⟨by decide +kernel, by decide +kernel⟩, List.mem_of_getElem? (i := 819) (by decide +kernel), List.mem_of_getElem? (i := 934) (by decide +kernel), List.mem_of_getElem? (i := 935) (by decide +kernel)⟩
theorem lw_p25 : lw_okq (⟨"SignedCloudsModel", "here", "()I"⟩, 20) := ⟨⟨by decide +kernel, by decide +kernel⟩, List.mem_of_getElem? (i := 819) (by decide +kernel), List.mem_of_getElem? (i := 938) (by decide +kernel), List.mem_of_getElem? (i := 939) (by decide +kernel)⟩
theorem lw_p26 : lw_okq (⟨"SignedCloudsModel", "wrong", "(II)V"⟩, 20) := ⟨⟨by decide +kernel, by decide +kernel⟩, List.mem_of_getElem? (i := 819) (by decide +kernel), List.mem_of_getElem? (i := 942) (by decide +kernel), List.mem_of_getElem? (i := 943) (by decide +kernel)⟩
theorem lw_p27 : lw_okq (⟨"SignedCloudsModel", "number", "(II)I"⟩, 20) := ⟨⟨by decide +kernel, by decide +kernel⟩, List.mem_of_getElem? (i := 819) (by decide +kernel), List.mem_of_getElem? (i := 946) (by decide +kernel), List.mem_of_getElem? (i := 947) (by decide +kernel)⟩
theorem lw_p28 : lw_okq (⟨"SignedCloudsModel", "readCloud", "()V"⟩, 20) := ⟨⟨by decide +kernel, by decide +kernel⟩, List.mem_of_getElem? (i := 819) (by decide +kernel), List.mem_of_getElem? (i := 952) (by decide +kernel), List.mem_of_getElem? (i := 953) (by decide +kernel)⟩
theorem lw_p29 : lw_okq (⟨"SignedCloudsModel", "fell", "()I"⟩, 20) := ⟨⟨by decide +kernel, by decide +kernel⟩, List.mem_of_getElem? (i := 819) (by decide +kernel), List.mem_of_getElem? (i := 974) (by decide +kernel), List.mem_of_getElem? (i := 975) (by decide +kernel)⟩
theorem lw_p30 : lw_okq (⟨"SignedCloudsModel", "notes", "()V"⟩, 20) := ⟨⟨by decide +kernel, by decide +kernel⟩, List.mem_of_getElem? (i := 819) (by decide +kernel), List.mem_of_getElem? (i := 978) (by decide +kernel), List.mem_of_getElem? (i := 979) (by decide +kernel)⟩
theorem lw_p31 : lw_okq (⟨"SignedCloudsModel", "goesBy", "()V"⟩, 20) := ⟨⟨by decide +kernel, by decide +kernel⟩, List.mem_of_getElem? (i := 819) (by decide +kernel), List.mem_of_getElem? (i := 982) (by decide +kernel), List.mem_of_getElem? (i := 983) (by decide +kernel)⟩
def lw_privs_2 : List (MethodName × Nat) := [(⟨"SignedClouds$Foreteller", "fits", "(IIII)Z"⟩, 3), (⟨"SignedClouds$Sky", "isPair", "(II)Z"⟩, 10), (⟨"SignedClouds$Asks", "answer", "(III)I"⟩, 3), (⟨"SignedClouds$Asks", "body", "(III)I"⟩, 3), (⟨"SignedClouds$Asks", "leave", "(I)V"⟩, 3), (⟨"SignedCloudsModel", "finds", "(I)I"⟩, 20), (⟨"SignedCloudsModel", "well", "(I)I"⟩, 20), (⟨"SignedCloudsModel", "isPart", "(III)Z"⟩, 20), (⟨"SignedCloudsModel", "must", "(I)V"⟩, 20), (⟨"SignedCloudsModel", "here", "()I"⟩, 20), (⟨"SignedCloudsModel", "wrong", "(II)V"⟩, 20), (⟨"SignedCloudsModel", "number", "(II)I"⟩, 20), (⟨"SignedCloudsModel", "readCloud", "()V"⟩, 20), (⟨"SignedCloudsModel", "fell", "()I"⟩, 20), (⟨"SignedCloudsModel", "notes", "()V"⟩, 20), (⟨"SignedCloudsModel", "goesBy", "()V"⟩, 20)]
theorem lw_r2 : ∀ q ∈ lw_privs_2, lw_okq q := List.forall_mem_cons.mpr ⟨lw_p16, List.forall_mem_cons.mpr ⟨lw_p17, List.forall_mem_cons.mpr ⟨lw_p18, List.forall_mem_cons.mpr ⟨lw_p19, List.forall_mem_cons.mpr ⟨lw_p20, List.forall_mem_cons.mpr ⟨lw_p21, List.forall_mem_cons.mpr ⟨lw_p22, List.forall_mem_cons.mpr ⟨lw_p23, List.forall_mem_cons.mpr ⟨lw_p24, List.forall_mem_cons.mpr ⟨lw_p25, List.forall_mem_cons.mpr ⟨lw_p26, List.forall_mem_cons.mpr ⟨lw_p27, List.forall_mem_cons.mpr ⟨lw_p28, List.forall_mem_cons.mpr ⟨lw_p29, List.forall_mem_cons.mpr ⟨lw_p30, List.forall_mem_cons.mpr ⟨lw_p31, fun _ h => absurd h List.not_mem_nil⟩⟩⟩⟩⟩⟩⟩⟩⟩⟩⟩⟩⟩⟩⟩⟩
theorem lw_p32 : lw_okq (⟨"SignedCloudsModel", "isGone", "(I)Z"⟩, 20) := ⟨⟨by decide +kernel, by decide +kernel⟩, List.mem_of_getElem? (i := 819) (by decide +kernel), List.mem_of_getElem? (i := 986) (by decide +kernel), List.mem_of_getElem? (i := 987) (by decide +kernel)⟩
theorem lw_p33 : lw_okq (⟨"SignedCloudsModel", "of", "(II)I"⟩, 20) := ⟨⟨by decide +kernel, by decide +kernel⟩, List.mem_of_getElem? (i := 819) (by decide +kernel), List.mem_of_getElem? (i := 990) (by decide +kernel), List.mem_of_getElem? (i := 991) (by decide +kernel)⟩
theorem lw_p34 : lw_okq (⟨"SignedCloudsModel", "goesOn", "(I)V"⟩, 20) := ⟨⟨by decide +kernel, by decide +kernel⟩, List.mem_of_getElem? (i := 819) (by decide +kernel), List.mem_of_getElem? (i := 994) (by decide +kernel), List.mem_of_getElem? (i := 995) (by decide +kernel)⟩
theorem lw_p35 : lw_okq (⟨"SignedCloudsModel", "rainsOf", "(I)V"⟩, 20) := ⟨⟨by decide +kernel, by decide +kernel⟩, List.mem_of_getElem? (i := 819) (by decide +kernel), List.mem_of_getElem? (i := 998) (by decide +kernel), List.mem_of_getElem? (i := 999) (by decide +kernel)⟩
theorem lw_p36 : lw_okq (⟨"SignedCloudsModel", "rains", "(II)I"⟩, 20) := ⟨⟨by decide +kernel, by decide +kernel⟩, List.mem_of_getElem? (i := 819) (by decide +kernel), List.mem_of_getElem? (i := 1002) (by decide +kernel), List.mem_of_getElem? (i := 1003) (by decide +kernel)⟩
theorem lw_p37 : lw_okq (⟨"SignedCloudsModel", "fields", "(I)I"⟩, 20) := ⟨⟨by decide +kernel, by decide +kernel⟩, List.mem_of_getElem? (i := 819) (by decide +kernel), List.mem_of_getElem? (i := 1006) (by decide +kernel), List.mem_of_getElem? (i := 1007) (by decide +kernel)⟩
theorem lw_p38 : lw_okq (⟨"SignedCloudsModel", "isCloud", "(I)Z"⟩, 20) := ⟨⟨by decide +kernel, by decide +kernel⟩, List.mem_of_getElem? (i := 819) (by decide +kernel), List.mem_of_getElem? (i := 1019) (by decide +kernel), List.mem_of_getElem? (i := 1020) (by decide +kernel)⟩
theorem lw_p39 : lw_okq (⟨"SignedCloudsModel", "clouds", "(I)I"⟩, 20) := ⟨⟨by decide +kernel, by decide +kernel⟩, List.mem_of_getElem? (i := 819) (by decide +kernel), List.mem_of_getElem? (i := 1044) (by decide +kernel), List.mem_of_getElem? (i := 1045) (by decide +kernel)⟩
theorem lw_p40 : lw_okq (⟨"SignedCloudsModel", "asides", "()V"⟩, 20) := ⟨⟨by decide +kernel, by decide +kernel⟩, List.mem_of_getElem? (i := 819) (by decide +kernel), List.mem_of_getElem? (i := 1053) (by decide +kernel), List.mem_of_getElem? (i := 1054) (by decide +kernel)⟩
theorem lw_p41 : lw_okq (⟨"SignedCloudsModel", "goes", "(I)V"⟩, 20) := ⟨⟨by decide +kernel, by decide +kernel⟩, List.mem_of_getElem? (i := 819) (by decide +kernel), List.mem_of_getElem? (i := 1057) (by decide +kernel), List.mem_of_getElem? (i := 1058) (by decide +kernel)⟩
theorem lw_p42 : lw_okq (⟨"SignedCloudsModel", "backs", "()V"⟩, 20) := ⟨⟨by decide +kernel, by decide +kernel⟩, List.mem_of_getElem? (i := 819) (by decide +kernel), List.mem_of_getElem? (i := 1062) (by decide +kernel), List.mem_of_getElem? (i := 1063) (by decide +kernel)⟩
theorem lw_p43 : lw_okq (⟨"SignedCloudsModel", "dryOnes", "()I"⟩, 20) := ⟨⟨by decide +kernel, by decide +kernel⟩, List.mem_of_getElem? (i := 819) (by decide +kernel), List.mem_of_getElem? (i := 1078) (by decide +kernel), List.mem_of_getElem? (i := 1079) (by decide +kernel)⟩
theorem lw_p44 : lw_okq (⟨"SignedCloudsModel", "canSee", "(IIII)Z"⟩, 20) := ⟨⟨by decide +kernel, by decide +kernel⟩, List.mem_of_getElem? (i := 819) (by decide +kernel), List.mem_of_getElem? (i := 1111) (by decide +kernel), List.mem_of_getElem? (i := 1112) (by decide +kernel)⟩
theorem lw_p45 : lw_okq (⟨"SignedCloudsModel", "partOf", "(III)I"⟩, 20) := ⟨⟨by decide +kernel, by decide +kernel⟩, List.mem_of_getElem? (i := 819) (by decide +kernel), List.mem_of_getElem? (i := 1116) (by decide +kernel), List.mem_of_getElem? (i := 1117) (by decide +kernel)⟩
theorem lw_p46 : lw_okq (⟨"SignedCloudsModel", "isSo", "(III)Z"⟩, 20) := ⟨⟨by decide +kernel, by decide +kernel⟩, List.mem_of_getElem? (i := 819) (by decide +kernel), List.mem_of_getElem? (i := 1120) (by decide +kernel), List.mem_of_getElem? (i := 1121) (by decide +kernel)⟩
theorem lw_p47 : lw_okq (⟨"SignedCloudsModel", "notGone", "()I"⟩, 20) := ⟨⟨by decide +kernel, by decide +kernel⟩, List.mem_of_getElem? (i := 819) (by decide +kernel), List.mem_of_getElem? (i := 1154) (by decide +kernel), List.mem_of_getElem? (i := 1155) (by decide +kernel)⟩
def lw_privs_3 : List (MethodName × Nat) := [(⟨"SignedCloudsModel", "isGone", "(I)Z"⟩, 20), (⟨"SignedCloudsModel", "of", "(II)I"⟩, 20), (⟨"SignedCloudsModel", "goesOn", "(I)V"⟩, 20), (⟨"SignedCloudsModel", "rainsOf", "(I)V"⟩, 20), (⟨"SignedCloudsModel", "rains", "(II)I"⟩, 20), (⟨"SignedCloudsModel", "fields", "(I)I"⟩, 20), (⟨"SignedCloudsModel", "isCloud", "(I)Z"⟩, 20), (⟨"SignedCloudsModel", "clouds", "(I)I"⟩, 20), (⟨"SignedCloudsModel", "asides", "()V"⟩, 20), (⟨"SignedCloudsModel", "goes", "(I)V"⟩, 20), (⟨"SignedCloudsModel", "backs", "()V"⟩, 20), (⟨"SignedCloudsModel", "dryOnes", "()I"⟩, 20), (⟨"SignedCloudsModel", "canSee", "(IIII)Z"⟩, 20), (⟨"SignedCloudsModel", "partOf", "(III)I"⟩, 20), (⟨"SignedCloudsModel", "isSo", "(III)Z"⟩, 20), (⟨"SignedCloudsModel", "notGone", "()I"⟩, 20)]
theorem lw_r3 : ∀ q ∈ lw_privs_3, lw_okq q := List.forall_mem_cons.mpr ⟨lw_p32, List.forall_mem_cons.mpr ⟨lw_p33, List.forall_mem_cons.mpr ⟨lw_p34, List.forall_mem_cons.mpr ⟨lw_p35, List.forall_mem_cons.mpr ⟨lw_p36, List.forall_mem_cons.mpr ⟨lw_p37, List.forall_mem_cons.mpr ⟨lw_p38, List.forall_mem_cons.mpr ⟨lw_p39, List.forall_mem_cons.mpr ⟨lw_p40, List.forall_mem_cons.mpr ⟨lw_p41, List.forall_mem_cons.mpr ⟨lw_p42, List.forall_mem_cons.mpr ⟨lw_p43, List.forall_mem_cons.mpr ⟨lw_p44, List.forall_mem_cons.mpr ⟨lw_p45, List.forall_mem_cons.mpr ⟨lw_p46, List.forall_mem_cons.mpr ⟨lw_p47, fun _ h => absurd h List.not_mem_nil⟩⟩⟩⟩⟩⟩⟩⟩⟩⟩⟩⟩⟩⟩⟩⟩
theorem lw_p48 : lw_okq (⟨"SignedCloudsModel", "sizeOf", "(I)I"⟩, 20) := ⟨⟨by decide +kernel, by decide +kernel⟩, List.mem_of_getElem? (i := 819) (by decide +kernel), List.mem_of_getElem? (i := 1195) (by decide +kernel), List.mem_of_getElem? (i := 1196) (by decide +kernel)⟩
theorem lw_p49 : lw_okq (⟨"SignedCloudsModel", "fogs", "(I)I"⟩, 20) := ⟨⟨by decide +kernel, by decide +kernel⟩, List.mem_of_getElem? (i := 819) (by decide +kernel), List.mem_of_getElem? (i := 1199) (by decide +kernel), List.mem_of_getElem? (i := 1200) (by decide +kernel)⟩
theorem lw_p50 : lw_okq (⟨"SignedCloudsModel", "begins", "(I)V"⟩, 20) := ⟨⟨by decide +kernel, by decide +kernel⟩, List.mem_of_getElem? (i := 819) (by decide +kernel), List.mem_of_getElem? (i := 1203) (by decide +kernel), List.mem_of_getElem? (i := 1204) (by decide +kernel)⟩
theorem lw_p51 : lw_okq (⟨"SignedCloudsModel", "lent", "(I)I"⟩, 20) := ⟨⟨by decide +kernel, by decide +kernel⟩, List.mem_of_getElem? (i := 819) (by decide +kernel), List.mem_of_getElem? (i := 1207) (by decide +kernel), List.mem_of_getElem? (i := 1208) (by decide +kernel)⟩
theorem lw_p52 : lw_okq (⟨"SignedCloudsModel", "marks", "(I)I"⟩, 20) := ⟨⟨by decide +kernel, by decide +kernel⟩, List.mem_of_getElem? (i := 819) (by decide +kernel), List.mem_of_getElem? (i := 1211) (by decide +kernel), List.mem_of_getElem? (i := 1212) (by decide +kernel)⟩
def lw_privs_4 : List (MethodName × Nat) := [(⟨"SignedCloudsModel", "sizeOf", "(I)I"⟩, 20), (⟨"SignedCloudsModel", "fogs", "(I)I"⟩, 20), (⟨"SignedCloudsModel", "begins", "(I)V"⟩, 20), (⟨"SignedCloudsModel", "lent", "(I)I"⟩, 20), (⟨"SignedCloudsModel", "marks", "(I)I"⟩, 20)]
theorem lw_r4 : ∀ q ∈ lw_privs_4, lw_okq q := List.forall_mem_cons.mpr ⟨lw_p48, List.forall_mem_cons.mpr ⟨lw_p49, List.forall_mem_cons.mpr ⟨lw_p50, List.forall_mem_cons.mpr ⟨lw_p51, List.forall_mem_cons.mpr ⟨lw_p52, fun _ h => absurd h List.not_mem_nil⟩⟩⟩⟩⟩
def lw_privs : List (MethodName × Nat) := lw_privs_1 ++ (lw_privs_2 ++ (lw_privs_3 ++ (lw_privs_4)))
def lw_tbl : List Cond := k2_sels lw_privs ++ tables_1
theorem lw_privs_ok : ∀ q ∈ lw_privs, lw_okq q := by
  show ∀ q ∈ lw_privs_1 ++ (lw_privs_2 ++ (lw_privs_3 ++ (lw_privs_4))), lw_okq q
  exact List.forall_mem_append.mpr ⟨lw_r1, List.forall_mem_append.mpr ⟨lw_r2, List.forall_mem_append.mpr ⟨lw_r3, lw_r4⟩⟩⟩
end
section
/-! ===== BEGIN words of one list among another's, by their places ===== -/
theorem goodIn_r {big : List Cond} (ws : List Cond) (ps : List Nat) (hp : ws = ps.filterMap (fun i => big[i]?)) (h : ws.all goodWord = true) : GoodIn big ws := by
  intro w hw
  have h1 := List.all_eq_true.mp h w hw
  rw [hp] at hw
  obtain ⟨i, -, hi⟩ := List.mem_filterMap.mp hw
  have hm : w ∈ big := by first | exact List.mem_of_getElem? hi | exact List.getElem?_mem hi
  exact ⟨hm, good_of_word h1⟩
theorem goodIn_app {big a b : List Cond} (ha : GoodIn big a) (hb : GoodIn big b) : GoodIn big (a ++ b) := fun w h => (List.mem_append.mp h).elim (ha w) (hb w)
theorem goodIn_ca {big a b : List Cond} {c : Cond} (ha : GoodIn big (c :: a)) (hb : GoodIn big b) : GoodIn big (c :: (a ++ b)) := fun w h => (List.mem_cons.mp h).elim (fun e => ha w (List.mem_cons.mpr (Or.inl e))) (fun h => (List.mem_append.mp h).elim (fun h => ha w (List.mem_cons.mpr (Or.inr h))) (hb w))
theorem goodIn_sub {big ws : List Cond} (hm : ∀ w ∈ ws, w ∈ big) (h : ws.all goodWord = true) : GoodIn big ws := fun w hw => ⟨hm w hw, good_of_word (List.all_eq_true.mp h w hw)⟩
/-! ===== END ===== -/

def RX0 : String := "SignedClouds$Acts"
def TX0 : u_T := fun k => match k with
  | 0 => ("SignedClouds$Acts", "kept", "I", false)
  | 1 => ("SignedClouds$Acts", "now", "LSignedClouds$Sky;", true)
  | 2 => ("SignedClouds$Acts", "before", "[LSignedClouds$Sky;", true)
  | _ => ("SignedClouds$Acts", "next", "I", false)
def tyX0 : Nat → FieldType := fun k => match k with
  | 0 => .int
  | 1 => .object "SignedClouds$Sky"
  | 2 => .array (.object "SignedClouds$Sky")
  | _ => .int
theorem nmX0 : ∀ a, a < 4 → ∀ b, b < 4 → a ≠ b → (TX0 a).2.1 ≠ (TX0 b).2.1 := by decide +kernel
theorem tyX0_ok : ∀ k, k < 4 → parseFieldDescriptor (TX0 k).2.2.1 = some (tyX0 k) := by decide +kernel
abbrev cX0_init : ByteArray := prog_2_method_1_code
def yX0_init : MethodName := ⟨RX0, "<init>", "(LSignedClouds$Sky;)V"⟩
abbrev cX0_forgetAll : ByteArray := prog_2_method_2_code
def yX0_forgetAll : MethodName := ⟨RX0, "forgetAll", "()V"⟩
abbrev cX0_keep : ByteArray := prog_2_method_3_code
def yX0_keep : MethodName := ⟨RX0, "keep", "()V"⟩
abbrev cX0_takeBack : ByteArray := prog_2_method_4_code
def yX0_takeBack : MethodName := ⟨RX0, "takeBack", "()V"⟩
def RX1 : String := "SignedClouds$Asks"
def TX1 : u_T := fun k => match k with
  | 0 => ("SignedClouds$Asks", "traced", "I", false)
  | 1 => ("SignedClouds$Asks", "numbers", "[I", true)
  | _ => ("SignedClouds$Asks", "now", "LSignedClouds$Sky;", true)
def tyX1 : Nat → FieldType := fun k => match k with
  | 0 => .int
  | 1 => .array .int
  | _ => .object "SignedClouds$Sky"
theorem nmX1 : ∀ a, a < 3 → ∀ b, b < 3 → a ≠ b → (TX1 a).2.1 ≠ (TX1 b).2.1 := by decide +kernel
theorem tyX1_ok : ∀ k, k < 3 → parseFieldDescriptor (TX1 k).2.2.1 = some (tyX1 k) := by decide +kernel
abbrev cX1_init : ByteArray := prog_3_method_1_code
def yX1_init : MethodName := ⟨RX1, "<init>", "(LSignedClouds$Sky;)V"⟩
abbrev cX1_begin : ByteArray := prog_3_method_2_code
def yX1_begin : MethodName := ⟨RX1, "begin", "(II)I"⟩
abbrev cX1_answer : ByteArray := prog_3_method_3_code
def yX1_answer : MethodName := ⟨RX1, "answer", "(III)I"⟩
abbrev cX1_bodyFor : ByteArray := prog_3_method_4_code
def yX1_bodyFor : MethodName := ⟨RX1, "bodyFor", "(II)I"⟩
abbrev cX1_body : ByteArray := prog_3_method_5_code
def yX1_body : MethodName := ⟨RX1, "body", "(III)I"⟩
abbrev cX1_leave : ByteArray := prog_3_method_6_code
def yX1_leave : MethodName := ⟨RX1, "leave", "(I)V"⟩
def RX2 : String := "SignedClouds$Chances"
def TX2 : u_T := fun k => match k with
  | 0 => ("SignedClouds$Chances", "above", "J", false)
  | 1 => ("SignedClouds$Chances", "below", "J", false)
  | _ => ("SignedClouds$Chances", "cases", "[J", true)
def tyX2 : Nat → FieldType := fun k => match k with
  | 0 => .long
  | 1 => .long
  | _ => .array .long
theorem nmX2 : ∀ a, a < 3 → ∀ b, b < 3 → a ≠ b → (TX2 a).2.1 ≠ (TX2 b).2.1 := by decide +kernel
theorem tyX2_ok : ∀ k, k < 3 → parseFieldDescriptor (TX2 k).2.2.1 = some (tyX2 k) := by decide +kernel
abbrev cX2_init : ByteArray := prog_4_method_1_code
def yX2_init : MethodName := ⟨RX2, "<init>", "()V"⟩
abbrev cX2_weigh : ByteArray := prog_4_method_2_code
def yX2_weigh : MethodName := ⟨RX2, "weigh", "(III)V"⟩
abbrev cX2_commonDivisor : ByteArray := prog_4_method_3_code
def yX2_commonDivisor : MethodName := ⟨RX2, "commonDivisor", "(JJ)J"⟩
def RX3 : String := "SignedClouds$Foreteller"
def TX3 : u_T := fun k => match k with
  | 0 => ("SignedClouds$Foreteller", "now", "LSignedClouds$Sky;", true)
  | 1 => ("SignedClouds$Foreteller", "rows", "LSignedClouds$Rows;", true)
  | _ => ("SignedClouds$Foreteller", "then", "LSignedClouds$Sky;", true)
def tyX3 : Nat → FieldType := fun k => match k with
  | 0 => .object "SignedClouds$Sky"
  | 1 => .object "SignedClouds$Rows"
  | _ => .object "SignedClouds$Sky"
theorem nmX3 : ∀ a, a < 3 → ∀ b, b < 3 → a ≠ b → (TX3 a).2.1 ≠ (TX3 b).2.1 := by decide +kernel
theorem tyX3_ok : ∀ k, k < 3 → parseFieldDescriptor (TX3 k).2.2.1 = some (tyX3 k) := by decide +kernel
abbrev cX3_init : ByteArray := prog_5_method_1_code
def yX3_init : MethodName := ⟨RX3, "<init>", "(LSignedClouds$Sky;LSignedClouds$Rows;)V"⟩
abbrev cX3_begin : ByteArray := prog_5_method_2_code
def yX3_begin : MethodName := ⟨RX3, "begin", "()V"⟩
abbrev cX3_behind : ByteArray := prog_5_method_3_code
def yX3_behind : MethodName := ⟨RX3, "behind", "(I)LSignedClouds$Sky;"⟩
abbrev cX3_behindDraws : ByteArray := prog_5_method_4_code
def yX3_behindDraws : MethodName := ⟨RX3, "behindDraws", "(II)LSignedClouds$Sky;"⟩
abbrev cX3_firstRain : ByteArray := prog_5_method_5_code
def yX3_firstRain : MethodName := ⟨RX3, "firstRain", "(I)I"⟩
abbrev cX3_firstGone : ByteArray := prog_5_method_6_code
def yX3_firstGone : MethodName := ⟨RX3, "firstGone", "(I)I"⟩
abbrev cX3_firstMeeting : ByteArray := prog_5_method_7_code
def yX3_firstMeeting : MethodName := ⟨RX3, "firstMeeting", "(II)I"⟩
abbrev cX3_firstDrySpell : ByteArray := prog_5_method_8_code
def yX3_firstDrySpell : MethodName := ⟨RX3, "firstDrySpell", "(II)I"⟩
abbrev cX3_kindsThatFit : ByteArray := prog_5_method_9_code
def yX3_kindsThatFit : MethodName := ⟨RX3, "kindsThatFit", "(IIIII)I"⟩
abbrev cX3_placesThatFit : ByteArray := prog_5_method_10_code
def yX3_placesThatFit : MethodName := ⟨RX3, "placesThatFit", "(IIIII)I"⟩
abbrev cX3_fits : ByteArray := prog_5_method_11_code
def yX3_fits : MethodName := ⟨RX3, "fits", "(IIII)Z"⟩
def RX4 : String := "SignedClouds$Reader"
def TX4 : u_T := fun k => match k with
  | 0 => ("SignedClouds$Reader", "draft", "LSignedClouds$Sky;", true)
  | 1 => ("SignedClouds$Reader", "at", "I", false)
  | 2 => ("SignedClouds$Reader", "tape", "LSignedClouds$Tape;", true)
  | _ => ("SignedClouds$Reader", "fault", "I", false)
def tyX4 : Nat → FieldType := fun k => match k with
  | 0 => .object "SignedClouds$Sky"
  | 1 => .int
  | 2 => .object "SignedClouds$Tape"
  | _ => .int
theorem nmX4 : ∀ a, a < 4 → ∀ b, b < 4 → a ≠ b → (TX4 a).2.1 ≠ (TX4 b).2.1 := by decide +kernel
theorem tyX4_ok : ∀ k, k < 4 → parseFieldDescriptor (TX4 k).2.2.1 = some (tyX4 k) := by decide +kernel
abbrev cX4_init : ByteArray := prog_6_method_1_code
def yX4_init : MethodName := ⟨RX4, "<init>", "(LSignedClouds$Tape;)V"⟩
abbrev cX4_read : ByteArray := prog_6_method_2_code
def yX4_read : MethodName := ⟨RX4, "read", "()I"⟩
abbrev cX4_readLaw : ByteArray := prog_6_method_3_code
def yX4_readLaw : MethodName := ⟨RX4, "readLaw", "()V"⟩
abbrev cX4_readCloud : ByteArray := prog_6_method_4_code
def yX4_readCloud : MethodName := ⟨RX4, "readCloud", "(I)V"⟩
abbrev cX4_takeSort : ByteArray := prog_6_method_5_code
def yX4_takeSort : MethodName := ⟨RX4, "takeSort", "(I)I"⟩
abbrev cX4_take : ByteArray := prog_6_method_6_code
def yX4_take : MethodName := ⟨RX4, "take", "(I)V"⟩
abbrev cX4_takeNumber : ByteArray := prog_6_method_7_code
def yX4_takeNumber : MethodName := ⟨RX4, "takeNumber", "(II)I"⟩
abbrev cX4_isFigure : ByteArray := prog_6_method_8_code
def yX4_isFigure : MethodName := ⟨RX4, "isFigure", "(I)Z"⟩
abbrev cX4_kindOf : ByteArray := prog_6_method_9_code
def yX4_kindOf : MethodName := ⟨RX4, "kindOf", "(I)I"⟩
def RX5 : String := "SignedClouds$Rows"
def TX5 : u_T := fun k => match k with
  | 0 => ("SignedClouds$Rows", "lane", "[I", true)
  | 1 => ("SignedClouds$Rows", "size", "[I", true)
  | _ => ("SignedClouds$Rows", "items", "[[I", true)
def tyX5 : Nat → FieldType := fun k => match k with
  | 0 => .array .int
  | 1 => .array .int
  | _ => .array (.array .int)
theorem nmX5 : ∀ a, a < 3 → ∀ b, b < 3 → a ≠ b → (TX5 a).2.1 ≠ (TX5 b).2.1 := by decide +kernel
theorem tyX5_ok : ∀ k, k < 3 → parseFieldDescriptor (TX5 k).2.2.1 = some (tyX5 k) := by decide +kernel
abbrev cX5_init : ByteArray := prog_7_method_1_code
def yX5_init : MethodName := ⟨RX5, "<init>", "()V"⟩
abbrev cX5_isRow : ByteArray := prog_7_method_2_code
def yX5_isRow : MethodName := ⟨RX5, "isRow", "(I)Z"⟩
abbrev cX5_isMissing : ByteArray := prog_7_method_3_code
def yX5_isMissing : MethodName := ⟨RX5, "isMissing", "(I)Z"⟩
abbrev cX5_reaches : ByteArray := prog_7_method_4_code
def yX5_reaches : MethodName := ⟨RX5, "reaches", "(III)Z"⟩
abbrev cX5_make : ByteArray := prog_7_method_5_code
def yX5_make : MethodName := ⟨RX5, "make", "(III)V"⟩
abbrev cX5_put : ByteArray := prog_7_method_6_code
def yX5_put : MethodName := ⟨RX5, "put", "(III)I"⟩
abbrev cX5_item : ByteArray := prog_7_method_7_code
def yX5_item : MethodName := ⟨RX5, "item", "(II)I"⟩
abbrev cX5_move : ByteArray := prog_7_method_8_code
def yX5_move : MethodName := ⟨RX5, "move", "(IIIII)V"⟩
abbrev cX5_lose : ByteArray := prog_7_method_9_code
def yX5_lose : MethodName := ⟨RX5, "lose", "(I)I"⟩
abbrev cX5_present : ByteArray := prog_7_method_10_code
def yX5_present : MethodName := ⟨RX5, "present", "()I"⟩
abbrev cX5_narrowed : ByteArray := prog_7_method_11_code
def yX5_narrowed : MethodName := ⟨RX5, "narrowed", "(II)I"⟩
def RX6 : String := "SignedClouds$Sky"
def TX6 : u_T := fun k => match k with
  | 0 => ("SignedClouds$Sky", "number", "I", false)
  | 1 => ("SignedClouds$Sky", "wind", "I", false)
  | 2 => ("SignedClouds$Sky", "silk", "I", false)
  | 3 => ("SignedClouds$Sky", "day", "I", false)
  | 4 => ("SignedClouds$Sky", "kind", "[I", true)
  | 5 => ("SignedClouds$Sky", "place", "[I", true)
  | 6 => ("SignedClouds$Sky", "wide", "[I", true)
  | 7 => ("SignedClouds$Sky", "wet", "[I", true)
  | 8 => ("SignedClouds$Sky", "hand", "[I", true)
  | _ => ("SignedClouds$Sky", "fell", "[I", true)
def tyX6 : Nat → FieldType := fun k => match k with
  | 0 => .int
  | 1 => .int
  | 2 => .int
  | 3 => .int
  | 4 => .array .int
  | 5 => .array .int
  | 6 => .array .int
  | 7 => .array .int
  | 8 => .array .int
  | _ => .array .int
theorem nmX6 : ∀ a, a < 10 → ∀ b, b < 10 → a ≠ b → (TX6 a).2.1 ≠ (TX6 b).2.1 := by decide +kernel
theorem tyX6_ok : ∀ k, k < 10 → parseFieldDescriptor (TX6 k).2.2.1 = some (tyX6 k) := by decide +kernel
abbrev cX6_init : ByteArray := prog_8_method_1_code
def yX6_init : MethodName := ⟨RX6, "<init>", "()V"⟩
abbrev cX6_become : ByteArray := prog_8_method_2_code
def yX6_become : MethodName := ⟨RX6, "become", "(LSignedClouds$Sky;)V"⟩
abbrev cX6_addCloud : ByteArray := prog_8_method_3_code
def yX6_addCloud : MethodName := ⟨RX6, "addCloud", "(IIIII)V"⟩
abbrev cX6_forgetRain : ByteArray := prog_8_method_4_code
def yX6_forgetRain : MethodName := ⟨RX6, "forgetRain", "()V"⟩
abbrev cX6_isGone : ByteArray := prog_8_method_5_code
def yX6_isGone : MethodName := ⟨RX6, "isGone", "(I)Z"⟩
abbrev cX6_alive : ByteArray := prog_8_method_6_code
def yX6_alive : MethodName := ⟨RX6, "alive", "()I"⟩
abbrev cX6_speed : ByteArray := prog_8_method_7_code
def yX6_speed : MethodName := ⟨RX6, "speed", "(I)I"⟩
abbrev cX6_rain : ByteArray := prog_8_method_8_code
def yX6_rain : MethodName := ⟨RX6, "rain", "(I)I"⟩
abbrev cX6_need : ByteArray := prog_8_method_9_code
def yX6_need : MethodName := ⟨RX6, "need", "(I)I"⟩
abbrev cX6_reach : ByteArray := prog_8_method_10_code
def yX6_reach : MethodName := ⟨RX6, "reach", "(I)I"⟩
abbrev cX6_shade : ByteArray := prog_8_method_11_code
def yX6_shade : MethodName := ⟨RX6, "shade", "(I)I"⟩
abbrev cX6_cloudsOver : ByteArray := prog_8_method_12_code
def yX6_cloudsOver : MethodName := ⟨RX6, "cloudsOver", "(I)I"⟩
abbrev cX6_mend : ByteArray := prog_8_method_13_code
def yX6_mend : MethodName := ⟨RX6, "mend", "(I)V"⟩
abbrev cX6_passDay : ByteArray := prog_8_method_14_code
def yX6_passDay : MethodName := ⟨RX6, "passDay", "()I"⟩
abbrev cX6_goOn : ByteArray := prog_8_method_15_code
def yX6_goOn : MethodName := ⟨RX6, "goOn", "(I)I"⟩
abbrev cX6_rainOn : ByteArray := prog_8_method_16_code
def yX6_rainOn : MethodName := ⟨RX6, "rainOn", "(II)V"⟩
abbrev cX6_fallen : ByteArray := prog_8_method_17_code
def yX6_fallen : MethodName := ⟨RX6, "fallen", "()I"⟩
abbrev cX6_fieldsWithoutRain : ByteArray := prog_8_method_18_code
def yX6_fieldsWithoutRain : MethodName := ⟨RX6, "fieldsWithoutRain", "()I"⟩
abbrev cX6_shaded : ByteArray := prog_8_method_19_code
def yX6_shaded : MethodName := ⟨RX6, "shaded", "()I"⟩
abbrev cX6_isPair : ByteArray := prog_8_method_20_code
def yX6_isPair : MethodName := ⟨RX6, "isPair", "(II)Z"⟩
abbrev cX6_alikePairs : ByteArray := prog_8_method_21_code
def yX6_alikePairs : MethodName := ⟨RX6, "alikePairs", "()I"⟩
abbrev cX6_firstAlikePair : ByteArray := prog_8_method_22_code
def yX6_firstAlikePair : MethodName := ⟨RX6, "firstAlikePair", "()I"⟩
abbrev cX6_wetOf : ByteArray := prog_8_method_23_code
def yX6_wetOf : MethodName := ⟨RX6, "wetOf", "(I)I"⟩
def RX7 : String := "SignedClouds$Tape"
def TX7 : u_T := fun k => match k with
  | 0 => ("SignedClouds$Tape", "letters", "[I", true)
  | _ => ("SignedClouds$Tape", "length", "I", false)
def tyX7 : Nat → FieldType := fun k => match k with
  | 0 => .array .int
  | _ => .int
theorem nmX7 : ∀ a, a < 2 → ∀ b, b < 2 → a ≠ b → (TX7 a).2.1 ≠ (TX7 b).2.1 := by decide +kernel
theorem tyX7_ok : ∀ k, k < 2 → parseFieldDescriptor (TX7 k).2.2.1 = some (tyX7 k) := by decide +kernel
abbrev cX7_init : ByteArray := prog_9_method_1_code
def yX7_init : MethodName := ⟨RX7, "<init>", "()V"⟩
abbrev cX7_isFull : ByteArray := prog_9_method_2_code
def yX7_isFull : MethodName := ⟨RX7, "isFull", "()Z"⟩
abbrev cX7_add : ByteArray := prog_9_method_3_code
def yX7_add : MethodName := ⟨RX7, "add", "(I)I"⟩
abbrev cX7_letter : ByteArray := prog_9_method_4_code
def yX7_letter : MethodName := ⟨RX7, "letter", "(I)I"⟩
def RX8 : String := "SignedClouds$Towing"
def TX8 : u_T := fun k => match k with
  | 0 => ("SignedClouds$Towing", "least", "I", false)
  | 1 => ("SignedClouds$Towing", "best", "[I", true)
  | 2 => ("SignedClouds$Towing", "now", "LSignedClouds$Sky;", true)
  | 3 => ("SignedClouds$Towing", "then", "LSignedClouds$Sky;", true)
  | 4 => ("SignedClouds$Towing", "wetted", "[I", true)
  | 5 => ("SignedClouds$Towing", "way", "[I", true)
  | _ => ("SignedClouds$Towing", "wanted", "I", false)
def tyX8 : Nat → FieldType := fun k => match k with
  | 0 => .int
  | 1 => .array .int
  | 2 => .object "SignedClouds$Sky"
  | 3 => .object "SignedClouds$Sky"
  | 4 => .array .int
  | 5 => .array .int
  | _ => .int
theorem nmX8 : ∀ a, a < 7 → ∀ b, b < 7 → a ≠ b → (TX8 a).2.1 ≠ (TX8 b).2.1 := by decide +kernel
theorem tyX8_ok : ∀ k, k < 7 → parseFieldDescriptor (TX8 k).2.2.1 = some (tyX8 k) := by decide +kernel
abbrev cX8_init : ByteArray := prog_10_method_1_code
def yX8_init : MethodName := ⟨RX8, "<init>", "(LSignedClouds$Sky;)V"⟩
abbrev cX8_find : ByteArray := prog_10_method_2_code
def yX8_find : MethodName := ⟨RX8, "find", "(II)Z"⟩
abbrev cX8_findWetted : ByteArray := prog_10_method_3_code
def yX8_findWetted : MethodName := ⟨RX8, "findWetted", "(I)V"⟩
abbrev cX8_tryFrom : ByteArray := prog_10_method_4_code
def yX8_tryFrom : MethodName := ⟨RX8, "tryFrom", "(III)V"⟩
def RX9 : String := "SignedClouds"
def TX9 : u_T := fun k => match k with
  | 0 => ("SignedClouds", "rows", "LSignedClouds$Rows;", true)
  | 1 => ("SignedClouds", "tape", "LSignedClouds$Tape;", true)
  | 2 => ("SignedClouds", "reader", "LSignedClouds$Reader;", true)
  | 3 => ("SignedClouds", "now", "LSignedClouds$Sky;", true)
  | 4 => ("SignedClouds", "acts", "LSignedClouds$Acts;", true)
  | 5 => ("SignedClouds", "images", "[LSignedClouds$Sky;", true)
  | 6 => ("SignedClouds", "foreteller", "LSignedClouds$Foreteller;", true)
  | 7 => ("SignedClouds", "towing", "LSignedClouds$Towing;", true)
  | 8 => ("SignedClouds", "chances", "LSignedClouds$Chances;", true)
  | 9 => ("SignedClouds", "asks", "LSignedClouds$Asks;", true)
  | 10 => ("SignedClouds", "latestFault", "I", false)
  | _ => ("SignedClouds", "finding", "I", false)
def tyX9 : Nat → FieldType := fun k => match k with
  | 0 => .object "SignedClouds$Rows"
  | 1 => .object "SignedClouds$Tape"
  | 2 => .object "SignedClouds$Reader"
  | 3 => .object "SignedClouds$Sky"
  | 4 => .object "SignedClouds$Acts"
  | 5 => .array (.object "SignedClouds$Sky")
  | 6 => .object "SignedClouds$Foreteller"
  | 7 => .object "SignedClouds$Towing"
  | 8 => .object "SignedClouds$Chances"
  | 9 => .object "SignedClouds$Asks"
  | 10 => .int
  | _ => .int
theorem nmX9 : ∀ a, a < 12 → ∀ b, b < 12 → a ≠ b → (TX9 a).2.1 ≠ (TX9 b).2.1 := by decide +kernel
theorem tyX9_ok : ∀ k, k < 12 → parseFieldDescriptor (TX9 k).2.2.1 = some (tyX9 k) := by decide +kernel
abbrev cX9_init : ByteArray := prog_1_method_1_code
def yX9_init : MethodName := ⟨RX9, "<init>", "()V"⟩
abbrev cX9_row : ByteArray := prog_1_method_2_code
def yX9_row : MethodName := ⟨RX9, "row", "(III)I"⟩
abbrev cX9_set : ByteArray := prog_1_method_3_code
def yX9_set : MethodName := ⟨RX9, "set", "(III)I"⟩
abbrev cX9_copy : ByteArray := prog_1_method_4_code
def yX9_copy : MethodName := ⟨RX9, "copy", "(IIIII)I"⟩
abbrev cX9_drop : ByteArray := prog_1_method_5_code
def yX9_drop : MethodName := ⟨RX9, "drop", "(I)I"⟩
abbrev cX9_feed : ByteArray := prog_1_method_6_code
def yX9_feed : MethodName := ⟨RX9, "feed", "(I)I"⟩
abbrev cX9_sky : ByteArray := prog_1_method_7_code
def yX9_sky : MethodName := ⟨RX9, "sky", "()I"⟩
abbrev cX9_fault : ByteArray := prog_1_method_8_code
def yX9_fault : MethodName := ⟨RX9, "fault", "()I"⟩
abbrev cX9_undo : ByteArray := prog_1_method_9_code
def yX9_undo : MethodName := ⟨RX9, "undo", "()I"⟩
abbrev cX9_days : ByteArray := prog_1_method_10_code
def yX9_days : MethodName := ⟨RX9, "days", "(I)I"⟩
abbrev cX9_wind : ByteArray := prog_1_method_11_code
def yX9_wind : MethodName := ⟨RX9, "wind", "(I)I"⟩
abbrev cX9_tow : ByteArray := prog_1_method_12_code
def yX9_tow : MethodName := ⟨RX9, "tow", "(II)I"⟩
abbrev cX9_silk : ByteArray := prog_1_method_13_code
def yX9_silk : MethodName := ⟨RX9, "silk", "(I)I"⟩
abbrev cX9_sign : ByteArray := prog_1_method_14_code
def yX9_sign : MethodName := ⟨RX9, "sign", "(II)I"⟩
abbrev cX9_cloud : ByteArray := prog_1_method_15_code
def yX9_cloud : MethodName := ⟨RX9, "cloud", "(II)I"⟩
abbrev cX9_field : ByteArray := prog_1_method_16_code
def yX9_field : MethodName := ⟨RX9, "field", "(II)I"⟩
abbrev cX9_ahead : ByteArray := prog_1_method_17_code
def yX9_ahead : MethodName := ⟨RX9, "ahead", "(III)I"⟩
abbrev cX9_over : ByteArray := prog_1_method_18_code
def yX9_over : MethodName := ⟨RX9, "over", "(II)I"⟩
abbrev cX9_falls : ByteArray := prog_1_method_19_code
def yX9_falls : MethodName := ⟨RX9, "falls", "(II)I"⟩
abbrev cX9_dry : ByteArray := prog_1_method_20_code
def yX9_dry : MethodName := ⟨RX9, "dry", "(I)I"⟩
abbrev cX9_first : ByteArray := prog_1_method_21_code
def yX9_first : MethodName := ⟨RX9, "first", "(I)I"⟩
abbrev cX9_gone : ByteArray := prog_1_method_22_code
def yX9_gone : MethodName := ⟨RX9, "gone", "(I)I"⟩
abbrev cX9_storm : ByteArray := prog_1_method_23_code
def yX9_storm : MethodName := ⟨RX9, "storm", "(II)I"⟩
abbrev cX9_blue : ByteArray := prog_1_method_24_code
def yX9_blue : MethodName := ⟨RX9, "blue", "(I)I"⟩
abbrev cX9_leastTow : ByteArray := prog_1_method_25_code
def yX9_leastTow : MethodName := ⟨RX9, "leastTow", "(III)I"⟩
abbrev cX9_harvest : ByteArray := prog_1_method_26_code
def yX9_harvest : MethodName := ⟨RX9, "harvest", "(II)I"⟩
abbrev cX9_who : ByteArray := prog_1_method_27_code
def yX9_who : MethodName := ⟨RX9, "who", "(IIIII)I"⟩
abbrev cX9_places : ByteArray := prog_1_method_28_code
def yX9_places : MethodName := ⟨RX9, "places", "(IIIII)I"⟩
abbrev cX9_from : ByteArray := prog_1_method_29_code
def yX9_from : MethodName := ⟨RX9, "from", "(II)I"⟩
abbrev cX9_alike : ByteArray := prog_1_method_30_code
def yX9_alike : MethodName := ⟨RX9, "alike", "(I)I"⟩
abbrev cX9_likeness : ByteArray := prog_1_method_31_code
def yX9_likeness : MethodName := ⟨RX9, "likeness", "(II)I"⟩
abbrev cX9_estate : ByteArray := prog_1_method_32_code
def yX9_estate : MethodName := ⟨RX9, "estate", "(I)I"⟩
abbrev cX9_seen : ByteArray := prog_1_method_33_code
def yX9_seen : MethodName := ⟨RX9, "seen", "(III)J"⟩
abbrev cX9_drawn : ByteArray := prog_1_method_34_code
def yX9_drawn : MethodName := ⟨RX9, "drawn", "(III)I"⟩
abbrev cX9_image : ByteArray := prog_1_method_35_code
def yX9_image : MethodName := ⟨RX9, "image", "(I)I"⟩
abbrev cX9_restore : ByteArray := prog_1_method_36_code
def yX9_restore : MethodName := ⟨RX9, "restore", "(I)I"⟩
abbrev cX9_kind : ByteArray := prog_1_method_37_code
def yX9_kind : MethodName := ⟨RX9, "kind", "(I)I"⟩
abbrev cX9_as : ByteArray := prog_1_method_38_code
def yX9_as : MethodName := ⟨RX9, "as", "(II)I"⟩
abbrev cX9_ask : ByteArray := prog_1_method_39_code
def yX9_ask : MethodName := ⟨RX9, "ask", "(II)I"⟩
abbrev cX9_trace : ByteArray := prog_1_method_40_code
def yX9_trace : MethodName := ⟨RX9, "trace", "(I)I"⟩
abbrev cX9_count : ByteArray := prog_1_method_41_code
def yX9_count : MethodName := ⟨RX9, "count", "(I)I"⟩
abbrev cX9_status : ByteArray := prog_1_method_42_code
def yX9_status : MethodName := ⟨RX9, "status", "()I"⟩
abbrev cX9_found : ByteArray := prog_1_method_43_code
def yX9_found : MethodName := ⟨RX9, "found", "(I)I"⟩
abbrev cX9_fine : ByteArray := prog_1_method_44_code
def yX9_fine : MethodName := ⟨RX9, "fine", "(I)I"⟩
abbrev cX9_noSky : ByteArray := prog_1_method_45_code
def yX9_noSky : MethodName := ⟨RX9, "noSky", "()Z"⟩
abbrev cX9_isCloud : ByteArray := prog_1_method_46_code
def yX9_isCloud : MethodName := ⟨RX9, "isCloud", "(I)Z"⟩
abbrev cX9_areTwoClouds : ByteArray := prog_1_method_47_code
def yX9_areTwoClouds : MethodName := ⟨RX9, "areTwoClouds", "(II)Z"⟩
abbrev cX9_refusalOfRain : ByteArray := prog_1_method_48_code
def yX9_refusalOfRain : MethodName := ⟨RX9, "refusalOfRain", "(IIIII)I"⟩
abbrev cX9_isField : ByteArray := prog_1_method_49_code
def yX9_isField : MethodName := ⟨RX9, "isField", "(I)Z"⟩
abbrev cX9_isZeroOrOne : ByteArray := prog_1_method_50_code
def yX9_isZeroOrOne : MethodName := ⟨RX9, "isZeroOrOne", "(I)Z"⟩
abbrev cX9_within : ByteArray := prog_1_method_51_code
def yX9_within : MethodName := ⟨RX9, "within", "(III)Z"⟩
abbrev cX9_ring : ByteArray := prog_1_method_52_code
def yX9_ring : MethodName := ⟨RX9, "ring", "(I)I"⟩
abbrev cX9_turned : ByteArray := prog_1_method_53_code
def yX9_turned : MethodName := ⟨RX9, "turned", "(II)I"⟩
abbrev cX9_blueFrom : ByteArray := prog_1_method_54_code
def yX9_blueFrom : MethodName := ⟨RX9, "blueFrom", "(II)I"⟩
abbrev cX9_isOfKind : ByteArray := prog_1_method_55_code
def yX9_isOfKind : MethodName := ⟨RX9, "isOfKind", "(II)Z"⟩
def RX10 : String := "SignedCloudsModel"
def TX10 : u_T := fun k => match k with
  | 0 => ("SignedCloudsModel", "lanes", "[I", true)
  | 1 => ("SignedCloudsModel", "sizes", "[I", true)
  | 2 => ("SignedCloudsModel", "items", "[I", true)
  | 3 => ("SignedCloudsModel", "moved", "[I", true)
  | 4 => ("SignedCloudsModel", "found", "I", false)
  | 5 => ("SignedCloudsModel", "now", "[I", true)
  | 6 => ("SignedCloudsModel", "read", "[I", true)
  | 7 => ("SignedCloudsModel", "tape", "[I", true)
  | 8 => ("SignedCloudsModel", "taped", "I", false)
  | 9 => ("SignedCloudsModel", "at", "I", false)
  | 10 => ("SignedCloudsModel", "fault", "I", false)
  | 11 => ("SignedCloudsModel", "faultAt", "I", false)
  | 12 => ("SignedCloudsModel", "lastFault", "I", false)
  | 13 => ("SignedCloudsModel", "isSky", "Z", false)
  | 14 => ("SignedCloudsModel", "undone", "[I", true)
  | 15 => ("SignedCloudsModel", "undos", "I", false)
  | 16 => ("SignedCloudsModel", "aside", "[I", true)
  | 17 => ("SignedCloudsModel", "images", "[I", true)
  | 18 => ("SignedCloudsModel", "trace", "[I", true)
  | _ => ("SignedCloudsModel", "traced", "I", false)
def tyX10 : Nat → FieldType := fun k => match k with
  | 0 => .array .int
  | 1 => .array .int
  | 2 => .array .int
  | 3 => .array .int
  | 4 => .int
  | 5 => .array .int
  | 6 => .array .int
  | 7 => .array .int
  | 8 => .int
  | 9 => .int
  | 10 => .int
  | 11 => .int
  | 12 => .int
  | 13 => .boolean
  | 14 => .array .int
  | 15 => .int
  | 16 => .array .int
  | 17 => .array .int
  | 18 => .array .int
  | _ => .int
theorem nmX10 : ∀ a, a < 20 → ∀ b, b < 20 → a ≠ b → (TX10 a).2.1 ≠ (TX10 b).2.1 := by decide +kernel
theorem tyX10_ok : ∀ k, k < 20 → parseFieldDescriptor (TX10 k).2.2.1 = some (tyX10 k) := by decide +kernel
abbrev cX10_in : ByteArray := prog_12_method_2_code
def yX10_in : MethodName := ⟨RX10, "in", "(JJJ)Z"⟩
abbrev cX10_init : ByteArray := prog_12_method_3_code
def yX10_init : MethodName := ⟨RX10, "<init>", "()V"⟩
abbrev cX10_finds : ByteArray := prog_12_method_4_code
def yX10_finds : MethodName := ⟨RX10, "finds", "(I)I"⟩
abbrev cX10_well : ByteArray := prog_12_method_5_code
def yX10_well : MethodName := ⟨RX10, "well", "(I)I"⟩
abbrev cX10_isRow : ByteArray := prog_12_method_6_code
def yX10_isRow : MethodName := ⟨RX10, "isRow", "(I)Z"⟩
abbrev cX10_row : ByteArray := prog_12_method_7_code
def yX10_row : MethodName := ⟨RX10, "row", "(III)I"⟩
abbrev cX10_set : ByteArray := prog_12_method_8_code
def yX10_set : MethodName := ⟨RX10, "set", "(III)I"⟩
abbrev cX10_isPart : ByteArray := prog_12_method_9_code
def yX10_isPart : MethodName := ⟨RX10, "isPart", "(III)Z"⟩
abbrev cX10_copy : ByteArray := prog_12_method_10_code
def yX10_copy : MethodName := ⟨RX10, "copy", "(IIIII)I"⟩
abbrev cX10_drop : ByteArray := prog_12_method_11_code
def yX10_drop : MethodName := ⟨RX10, "drop", "(I)I"⟩
abbrev cX10_partOf : ByteArray := prog_12_method_12_code
def yX10_partOf : MethodName := ⟨RX10, "partOf", "(III)I"⟩
abbrev cX10_feed : ByteArray := prog_12_method_13_code
def yX10_feed : MethodName := ⟨RX10, "feed", "(I)I"⟩
abbrev cX10_here : ByteArray := prog_12_method_14_code
def yX10_here : MethodName := ⟨RX10, "here", "()I"⟩
abbrev cX10_wrong : ByteArray := prog_12_method_15_code
def yX10_wrong : MethodName := ⟨RX10, "wrong", "(II)V"⟩
abbrev cX10_must : ByteArray := prog_12_method_16_code
def yX10_must : MethodName := ⟨RX10, "must", "(I)V"⟩
abbrev cX10_number : ByteArray := prog_12_method_17_code
def yX10_number : MethodName := ⟨RX10, "number", "(II)I"⟩
abbrev cX10_kindOf : ByteArray := prog_12_method_18_code
def yX10_kindOf : MethodName := ⟨RX10, "kindOf", "(I)I"⟩
abbrev cX10_readCloud : ByteArray := prog_12_method_19_code
def yX10_readCloud : MethodName := ⟨RX10, "readCloud", "()V"⟩
abbrev cX10_sky : ByteArray := prog_12_method_20_code
def yX10_sky : MethodName := ⟨RX10, "sky", "()I"⟩
abbrev cX10_fault : ByteArray := prog_12_method_21_code
def yX10_fault : MethodName := ⟨RX10, "fault", "()I"⟩
abbrev cX10_isCloud : ByteArray := prog_12_method_22_code
def yX10_isCloud : MethodName := ⟨RX10, "isCloud", "(I)Z"⟩
abbrev cX10_isField : ByteArray := prog_12_method_23_code
def yX10_isField : MethodName := ⟨RX10, "isField", "(I)Z"⟩
abbrev cX10_of : ByteArray := prog_12_method_24_code
def yX10_of : MethodName := ⟨RX10, "of", "(II)I"⟩
abbrev cX10_isGone : ByteArray := prog_12_method_25_code
def yX10_isGone : MethodName := ⟨RX10, "isGone", "(I)Z"⟩
abbrev cX10_rains : ByteArray := prog_12_method_26_code
def yX10_rains : MethodName := ⟨RX10, "rains", "(II)I"⟩
abbrev cX10_fields : ByteArray := prog_12_method_27_code
def yX10_fields : MethodName := ⟨RX10, "fields", "(I)I"⟩
abbrev cX10_clouds : ByteArray := prog_12_method_28_code
def yX10_clouds : MethodName := ⟨RX10, "clouds", "(I)I"⟩
abbrev cX10_notGone : ByteArray := prog_12_method_29_code
def yX10_notGone : MethodName := ⟨RX10, "notGone", "()I"⟩
abbrev cX10_fell : ByteArray := prog_12_method_30_code
def yX10_fell : MethodName := ⟨RX10, "fell", "()I"⟩
abbrev cX10_goesOn : ByteArray := prog_12_method_31_code
def yX10_goesOn : MethodName := ⟨RX10, "goesOn", "(I)V"⟩
abbrev cX10_rainsOf : ByteArray := prog_12_method_32_code
def yX10_rainsOf : MethodName := ⟨RX10, "rainsOf", "(I)V"⟩
abbrev cX10_goesBy : ByteArray := prog_12_method_33_code
def yX10_goesBy : MethodName := ⟨RX10, "goesBy", "()V"⟩
abbrev cX10_notes : ByteArray := prog_12_method_34_code
def yX10_notes : MethodName := ⟨RX10, "notes", "()V"⟩
abbrev cX10_undo : ByteArray := prog_12_method_35_code
def yX10_undo : MethodName := ⟨RX10, "undo", "()I"⟩
abbrev cX10_days : ByteArray := prog_12_method_36_code
def yX10_days : MethodName := ⟨RX10, "days", "(I)I"⟩
abbrev cX10_wind : ByteArray := prog_12_method_37_code
def yX10_wind : MethodName := ⟨RX10, "wind", "(I)I"⟩
abbrev cX10_tow : ByteArray := prog_12_method_38_code
def yX10_tow : MethodName := ⟨RX10, "tow", "(II)I"⟩
abbrev cX10_silk : ByteArray := prog_12_method_39_code
def yX10_silk : MethodName := ⟨RX10, "silk", "(I)I"⟩
abbrev cX10_sign : ByteArray := prog_12_method_40_code
def yX10_sign : MethodName := ⟨RX10, "sign", "(II)I"⟩
abbrev cX10_cloud : ByteArray := prog_12_method_41_code
def yX10_cloud : MethodName := ⟨RX10, "cloud", "(II)I"⟩
abbrev cX10_field : ByteArray := prog_12_method_42_code
def yX10_field : MethodName := ⟨RX10, "field", "(II)I"⟩
abbrev cX10_asides : ByteArray := prog_12_method_43_code
def yX10_asides : MethodName := ⟨RX10, "asides", "()V"⟩
abbrev cX10_backs : ByteArray := prog_12_method_44_code
def yX10_backs : MethodName := ⟨RX10, "backs", "()V"⟩
abbrev cX10_goes : ByteArray := prog_12_method_45_code
def yX10_goes : MethodName := ⟨RX10, "goes", "(I)V"⟩
abbrev cX10_ahead : ByteArray := prog_12_method_46_code
def yX10_ahead : MethodName := ⟨RX10, "ahead", "(III)I"⟩
abbrev cX10_over : ByteArray := prog_12_method_47_code
def yX10_over : MethodName := ⟨RX10, "over", "(II)I"⟩
abbrev cX10_falls : ByteArray := prog_12_method_48_code
def yX10_falls : MethodName := ⟨RX10, "falls", "(II)I"⟩
abbrev cX10_dryOnes : ByteArray := prog_12_method_49_code
def yX10_dryOnes : MethodName := ⟨RX10, "dryOnes", "()I"⟩
abbrev cX10_dry : ByteArray := prog_12_method_50_code
def yX10_dry : MethodName := ⟨RX10, "dry", "(I)I"⟩
abbrev cX10_first : ByteArray := prog_12_method_51_code
def yX10_first : MethodName := ⟨RX10, "first", "(I)I"⟩
abbrev cX10_gone : ByteArray := prog_12_method_52_code
def yX10_gone : MethodName := ⟨RX10, "gone", "(I)I"⟩
abbrev cX10_storm : ByteArray := prog_12_method_53_code
def yX10_storm : MethodName := ⟨RX10, "storm", "(II)I"⟩
abbrev cX10_blue : ByteArray := prog_12_method_54_code
def yX10_blue : MethodName := ⟨RX10, "blue", "(I)I"⟩
abbrev cX10_leastTow : ByteArray := prog_12_method_55_code
def yX10_leastTow : MethodName := ⟨RX10, "leastTow", "(III)I"⟩
abbrev cX10_harvest : ByteArray := prog_12_method_56_code
def yX10_harvest : MethodName := ⟨RX10, "harvest", "(II)I"⟩
abbrev cX10_isSo : ByteArray := prog_12_method_57_code
def yX10_isSo : MethodName := ⟨RX10, "isSo", "(III)Z"⟩
abbrev cX10_canSee : ByteArray := prog_12_method_58_code
def yX10_canSee : MethodName := ⟨RX10, "canSee", "(IIII)Z"⟩
abbrev cX10_who : ByteArray := prog_12_method_59_code
def yX10_who : MethodName := ⟨RX10, "who", "(IIIII)I"⟩
abbrev cX10_places : ByteArray := prog_12_method_60_code
def yX10_places : MethodName := ⟨RX10, "places", "(IIIII)I"⟩
abbrev cX10_from : ByteArray := prog_12_method_61_code
def yX10_from : MethodName := ⟨RX10, "from", "(II)I"⟩
abbrev cX10_alike : ByteArray := prog_12_method_62_code
def yX10_alike : MethodName := ⟨RX10, "alike", "(I)I"⟩
abbrev cX10_apart : ByteArray := prog_12_method_63_code
def yX10_apart : MethodName := ⟨RX10, "apart", "(II)I"⟩
abbrev cX10_likeness : ByteArray := prog_12_method_64_code
def yX10_likeness : MethodName := ⟨RX10, "likeness", "(II)I"⟩
abbrev cX10_estate : ByteArray := prog_12_method_65_code
def yX10_estate : MethodName := ⟨RX10, "estate", "(I)I"⟩
abbrev cX10_common : ByteArray := prog_12_method_66_code
def yX10_common : MethodName := ⟨RX10, "common", "(JJ)J"⟩
abbrev cX10_many : ByteArray := prog_12_method_67_code
def yX10_many : MethodName := ⟨RX10, "many", "(I)I"⟩
abbrev cX10_seen : ByteArray := prog_12_method_68_code
def yX10_seen : MethodName := ⟨RX10, "seen", "(III)J"⟩
abbrev cX10_drawn : ByteArray := prog_12_method_69_code
def yX10_drawn : MethodName := ⟨RX10, "drawn", "(III)I"⟩
abbrev cX10_image : ByteArray := prog_12_method_70_code
def yX10_image : MethodName := ⟨RX10, "image", "(I)I"⟩
abbrev cX10_restore : ByteArray := prog_12_method_71_code
def yX10_restore : MethodName := ⟨RX10, "restore", "(I)I"⟩
abbrev cX10_begins : ByteArray := prog_12_method_72_code
def yX10_begins : MethodName := ⟨RX10, "begins", "(I)V"⟩
abbrev cX10_kind : ByteArray := prog_12_method_73_code
def yX10_kind : MethodName := ⟨RX10, "kind", "(I)I"⟩
abbrev cX10_isKind : ByteArray := prog_12_method_74_code
def yX10_isKind : MethodName := ⟨RX10, "isKind", "(II)Z"⟩
abbrev cX10_as : ByteArray := prog_12_method_75_code
def yX10_as : MethodName := ⟨RX10, "as", "(II)I"⟩
abbrev cX10_lent : ByteArray := prog_12_method_76_code
def yX10_lent : MethodName := ⟨RX10, "lent", "(I)I"⟩
abbrev cX10_marks : ByteArray := prog_12_method_77_code
def yX10_marks : MethodName := ⟨RX10, "marks", "(I)I"⟩
abbrev cX10_fogs : ByteArray := prog_12_method_78_code
def yX10_fogs : MethodName := ⟨RX10, "fogs", "(I)I"⟩
abbrev cX10_sizeOf : ByteArray := prog_12_method_79_code
def yX10_sizeOf : MethodName := ⟨RX10, "sizeOf", "(I)I"⟩
abbrev cX10_ask : ByteArray := prog_12_method_80_code
def yX10_ask : MethodName := ⟨RX10, "ask", "(II)I"⟩
abbrev cX10_trace : ByteArray := prog_12_method_81_code
def yX10_trace : MethodName := ⟨RX10, "trace", "(I)I"⟩
abbrev cX10_count : ByteArray := prog_12_method_82_code
def yX10_count : MethodName := ⟨RX10, "count", "(I)I"⟩
abbrev cX10_status : ByteArray := prog_12_method_83_code
def yX10_status : MethodName := ⟨RX10, "status", "()I"⟩
def RJ6 : String := "java/lang/Integer"
abbrev cJ6_bitCount_0f7a4 : ByteArray := prog_13_method_49_code
def yJ6_bitCount_0f7a4 : MethodName := ⟨RJ6, "bitCount", "(I)I"⟩
def RJ9 : String := "java/lang/Math"
abbrev cJ9_abs_0f7a4 : ByteArray := prog_14_method_59_code
def yJ9_abs_0f7a4 : MethodName := ⟨RJ9, "abs", "(I)I"⟩
abbrev cJ9_max_7cf53 : ByteArray := prog_14_method_65_code
def yJ9_max_7cf53 : MethodName := ⟨RJ9, "max", "(II)I"⟩
abbrev cJ9_min_7cf53 : ByteArray := prog_14_method_69_code
def yJ9_min_7cf53 : MethodName := ⟨RJ9, "min", "(II)I"⟩
def RJ10 : String := "java/lang/System"
def RL : String := "SignedCloudsLaw"
abbrev cL_law : ByteArray := code
def yL_law : MethodName := ⟨RL, "law", "([I)Z"⟩
abbrev vwCl : List vw_C := [(RX0, TX0, 4), (RX1, TX1, 3), (RX2, TX2, 3), (RX3, TX3, 3), (RX4, TX4, 4), (RX5, TX5, 3), (RX6, TX6, 10), (RX7, TX7, 2), (RX8, TX8, 7), (RX9, TX9, 12), (RX10, TX10, 20)]
end
section
theorem dX0_init_0 : decode cX0_init 0 = .ok (.aload_n 0, 1) := by decide +kernel
theorem dX0_init_1 : decode cX0_init 1 = .ok (.invokespecial 1, 3) := by decide +kernel
theorem dX0_init_4 : decode cX0_init 4 = .ok (.aload_n 0, 1) := by decide +kernel
theorem dX0_init_5 : decode cX0_init 5 = .ok (.bipush 24, 2) := by decide +kernel
theorem dX0_init_7 : decode cX0_init 7 = .ok (.anewarray 9, 3) := by decide +kernel
theorem dX0_init_10 : decode cX0_init 10 = .ok (.putfield 11, 3) := by decide +kernel
theorem dX0_init_13 : decode cX0_init 13 = .ok (.aload_n 0, 1) := by decide +kernel
theorem dX0_init_14 : decode cX0_init 14 = .ok (.aload_n 1, 1) := by decide +kernel
theorem dX0_init_15 : decode cX0_init 15 = .ok (.putfield 15, 3) := by decide +kernel
theorem dX0_init_18 : decode cX0_init 18 = .ok (.iconst 0, 1) := by decide +kernel
theorem dX0_init_19 : decode cX0_init 19 = .ok (.istore_n 2, 1) := by decide +kernel
theorem dX0_init_20 : decode cX0_init 20 = .ok (.iload_n 2, 1) := by decide +kernel
theorem dX0_init_21 : decode cX0_init 21 = .ok (.bipush 24, 2) := by decide +kernel
theorem dX0_init_23 : decode cX0_init 23 = .ok (.if_icmp .ge 22, 3) := by decide +kernel
theorem dX0_init_26 : decode cX0_init 26 = .ok (.aload_n 0, 1) := by decide +kernel
theorem dX0_init_27 : decode cX0_init 27 = .ok (.getfield 11, 3) := by decide +kernel
theorem dX0_init_30 : decode cX0_init 30 = .ok (.iload_n 2, 1) := by decide +kernel
theorem dX0_init_31 : decode cX0_init 31 = .ok (.new 9, 3) := by decide +kernel
theorem dX0_init_34 : decode cX0_init 34 = .ok (.dup, 1) := by decide +kernel
theorem dX0_init_35 : decode cX0_init 35 = .ok (.invokespecial 19, 3) := by decide +kernel
theorem dX0_init_38 : decode cX0_init 38 = .ok (.aastore, 1) := by decide +kernel
theorem dX0_init_39 : decode cX0_init 39 = .ok (.iinc 2 1, 3) := by decide +kernel
theorem dX0_init_42 : decode cX0_init 42 = .ok (.goto (-22), 3) := by decide +kernel
theorem dX0_init_45 : decode cX0_init 45 = .ok (.return_, 1) := by decide +kernel
theorem dX0_forgetAll_0 : decode cX0_forgetAll 0 = .ok (.aload_n 0, 1) := by decide +kernel
theorem dX0_forgetAll_1 : decode cX0_forgetAll 1 = .ok (.iconst 0, 1) := by decide +kernel
theorem dX0_forgetAll_2 : decode cX0_forgetAll 2 = .ok (.putfield 20, 3) := by decide +kernel
theorem dX0_forgetAll_5 : decode cX0_forgetAll 5 = .ok (.aload_n 0, 1) := by decide +kernel
theorem dX0_forgetAll_6 : decode cX0_forgetAll 6 = .ok (.iconst 0, 1) := by decide +kernel
theorem dX0_forgetAll_7 : decode cX0_forgetAll 7 = .ok (.putfield 24, 3) := by decide +kernel
theorem dX0_forgetAll_10 : decode cX0_forgetAll 10 = .ok (.return_, 1) := by decide +kernel
theorem dX0_keep_0 : decode cX0_keep 0 = .ok (.aload_n 0, 1) := by decide +kernel
theorem dX0_keep_1 : decode cX0_keep 1 = .ok (.getfield 11, 3) := by decide +kernel
theorem dX0_keep_4 : decode cX0_keep 4 = .ok (.aload_n 0, 1) := by decide +kernel
theorem dX0_keep_5 : decode cX0_keep 5 = .ok (.getfield 24, 3) := by decide +kernel
theorem dX0_keep_8 : decode cX0_keep 8 = .ok (.aaload, 1) := by decide +kernel
theorem dX0_keep_9 : decode cX0_keep 9 = .ok (.aload_n 0, 1) := by decide +kernel
theorem dX0_keep_10 : decode cX0_keep 10 = .ok (.getfield 15, 3) := by decide +kernel
theorem dX0_keep_13 : decode cX0_keep 13 = .ok (.invokevirtual 27, 3) := by decide +kernel
theorem dX0_keep_16 : decode cX0_keep 16 = .ok (.aload_n 0, 1) := by decide +kernel
theorem dX0_keep_17 : decode cX0_keep 17 = .ok (.aload_n 0, 1) := by decide +kernel
theorem dX0_keep_18 : decode cX0_keep 18 = .ok (.getfield 24, 3) := by decide +kernel
theorem dX0_keep_21 : decode cX0_keep 21 = .ok (.iconst 1, 1) := by decide +kernel
theorem dX0_keep_22 : decode cX0_keep 22 = .ok (.iadd, 1) := by decide +kernel
theorem dX0_keep_23 : decode cX0_keep 23 = .ok (.bipush 24, 2) := by decide +kernel
theorem dX0_keep_25 : decode cX0_keep 25 = .ok (.if_icmp .ge 12, 3) := by decide +kernel
theorem dX0_keep_28 : decode cX0_keep 28 = .ok (.aload_n 0, 1) := by decide +kernel
theorem dX0_keep_29 : decode cX0_keep 29 = .ok (.getfield 24, 3) := by decide +kernel
theorem dX0_keep_32 : decode cX0_keep 32 = .ok (.iconst 1, 1) := by decide +kernel
theorem dX0_keep_33 : decode cX0_keep 33 = .ok (.iadd, 1) := by decide +kernel
theorem dX0_keep_34 : decode cX0_keep 34 = .ok (.goto 4, 3) := by decide +kernel
theorem dX0_keep_37 : decode cX0_keep 37 = .ok (.iconst 0, 1) := by decide +kernel
theorem dX0_keep_38 : decode cX0_keep 38 = .ok (.putfield 24, 3) := by decide +kernel
theorem dX0_keep_41 : decode cX0_keep 41 = .ok (.aload_n 0, 1) := by decide +kernel
theorem dX0_keep_42 : decode cX0_keep 42 = .ok (.aload_n 0, 1) := by decide +kernel
theorem dX0_keep_43 : decode cX0_keep 43 = .ok (.getfield 20, 3) := by decide +kernel
theorem dX0_keep_46 : decode cX0_keep 46 = .ok (.iconst 1, 1) := by decide +kernel
theorem dX0_keep_47 : decode cX0_keep 47 = .ok (.iadd, 1) := by decide +kernel
theorem dX0_keep_48 : decode cX0_keep 48 = .ok (.bipush 24, 2) := by decide +kernel
theorem dX0_keep_50 : decode cX0_keep 50 = .ok (.invokestatic 31, 3) := by decide +kernel
theorem dX0_keep_53 : decode cX0_keep 53 = .ok (.putfield 20, 3) := by decide +kernel
theorem dX0_keep_56 : decode cX0_keep 56 = .ok (.return_, 1) := by decide +kernel
theorem dX0_takeBack_0 : decode cX0_takeBack 0 = .ok (.aload_n 0, 1) := by decide +kernel
theorem dX0_takeBack_1 : decode cX0_takeBack 1 = .ok (.aload_n 0, 1) := by decide +kernel
theorem dX0_takeBack_2 : decode cX0_takeBack 2 = .ok (.getfield 24, 3) := by decide +kernel
theorem dX0_takeBack_5 : decode cX0_takeBack 5 = .ok (.ifCond .le 12, 3) := by decide +kernel
theorem dX0_takeBack_8 : decode cX0_takeBack 8 = .ok (.aload_n 0, 1) := by decide +kernel
theorem dX0_takeBack_9 : decode cX0_takeBack 9 = .ok (.getfield 24, 3) := by decide +kernel
theorem dX0_takeBack_12 : decode cX0_takeBack 12 = .ok (.iconst 1, 1) := by decide +kernel
theorem dX0_takeBack_13 : decode cX0_takeBack 13 = .ok (.isub, 1) := by decide +kernel
theorem dX0_takeBack_14 : decode cX0_takeBack 14 = .ok (.goto 5, 3) := by decide +kernel
theorem dX0_takeBack_17 : decode cX0_takeBack 17 = .ok (.bipush 23, 2) := by decide +kernel
theorem dX0_takeBack_19 : decode cX0_takeBack 19 = .ok (.putfield 24, 3) := by decide +kernel
theorem dX0_takeBack_22 : decode cX0_takeBack 22 = .ok (.aload_n 0, 1) := by decide +kernel
theorem dX0_takeBack_23 : decode cX0_takeBack 23 = .ok (.dup, 1) := by decide +kernel
theorem dX0_takeBack_24 : decode cX0_takeBack 24 = .ok (.getfield 20, 3) := by decide +kernel
theorem dX0_takeBack_27 : decode cX0_takeBack 27 = .ok (.iconst 1, 1) := by decide +kernel
theorem dX0_takeBack_28 : decode cX0_takeBack 28 = .ok (.isub, 1) := by decide +kernel
theorem dX0_takeBack_29 : decode cX0_takeBack 29 = .ok (.putfield 20, 3) := by decide +kernel
theorem dX0_takeBack_32 : decode cX0_takeBack 32 = .ok (.aload_n 0, 1) := by decide +kernel
theorem dX0_takeBack_33 : decode cX0_takeBack 33 = .ok (.getfield 15, 3) := by decide +kernel
theorem dX0_takeBack_36 : decode cX0_takeBack 36 = .ok (.aload_n 0, 1) := by decide +kernel
theorem dX0_takeBack_37 : decode cX0_takeBack 37 = .ok (.getfield 11, 3) := by decide +kernel
theorem dX0_takeBack_40 : decode cX0_takeBack 40 = .ok (.aload_n 0, 1) := by decide +kernel
theorem dX0_takeBack_41 : decode cX0_takeBack 41 = .ok (.getfield 24, 3) := by decide +kernel
theorem dX0_takeBack_44 : decode cX0_takeBack 44 = .ok (.aaload, 1) := by decide +kernel
theorem dX0_takeBack_45 : decode cX0_takeBack 45 = .ok (.invokevirtual 27, 3) := by decide +kernel
theorem dX0_takeBack_48 : decode cX0_takeBack 48 = .ok (.return_, 1) := by decide +kernel
theorem dX1_init_0 : decode cX1_init 0 = .ok (.aload_n 0, 1) := by decide +kernel
theorem dX1_init_1 : decode cX1_init 1 = .ok (.invokespecial 3, 3) := by decide +kernel
theorem dX1_init_4 : decode cX1_init 4 = .ok (.aload_n 0, 1) := by decide +kernel
theorem dX1_init_5 : decode cX1_init 5 = .ok (.bipush 16, 2) := by decide +kernel
theorem dX1_init_7 : decode cX1_init 7 = .ok (.newarray .int, 2) := by decide +kernel
theorem dX1_init_9 : decode cX1_init 9 = .ok (.putfield 11, 3) := by decide +kernel
theorem dX1_init_12 : decode cX1_init 12 = .ok (.aload_n 0, 1) := by decide +kernel
theorem dX1_init_13 : decode cX1_init 13 = .ok (.aload_n 1, 1) := by decide +kernel
theorem dX1_init_14 : decode cX1_init 14 = .ok (.putfield 15, 3) := by decide +kernel
theorem dX1_init_17 : decode cX1_init 17 = .ok (.return_, 1) := by decide +kernel
theorem dX1_begin_0 : decode cX1_begin 0 = .ok (.aload_n 0, 1) := by decide +kernel
theorem dX1_begin_1 : decode cX1_begin 1 = .ok (.iconst 0, 1) := by decide +kernel
theorem dX1_begin_2 : decode cX1_begin 2 = .ok (.putfield 19, 3) := by decide +kernel
theorem dX1_begin_5 : decode cX1_begin 5 = .ok (.aload_n 0, 1) := by decide +kernel
theorem dX1_begin_6 : decode cX1_begin 6 = .ok (.iload_n 1, 1) := by decide +kernel
theorem dX1_begin_7 : decode cX1_begin 7 = .ok (.iload_n 2, 1) := by decide +kernel
theorem dX1_begin_8 : decode cX1_begin 8 = .ok (.iconst 0, 1) := by decide +kernel
theorem dX1_begin_9 : decode cX1_begin 9 = .ok (.invokevirtual 23, 3) := by decide +kernel
theorem dX1_begin_12 : decode cX1_begin 12 = .ok (.ireturn, 1) := by decide +kernel
theorem dX1_answer_0 : decode cX1_answer 0 = .ok (.aload_n 0, 1) := by decide +kernel
theorem dX1_answer_1 : decode cX1_answer 1 = .ok (.aload_n 0, 1) := by decide +kernel
theorem dX1_answer_2 : decode cX1_answer 2 = .ok (.getfield 15, 3) := by decide +kernel
theorem dX1_answer_5 : decode cX1_answer 5 = .ok (.getfield 27, 3) := by decide +kernel
theorem dX1_answer_8 : decode cX1_answer 8 = .ok (.iload_n 1, 1) := by decide +kernel
theorem dX1_answer_9 : decode cX1_answer 9 = .ok (.iaload, 1) := by decide +kernel
theorem dX1_answer_10 : decode cX1_answer 10 = .ok (.iload_n 2, 1) := by decide +kernel
theorem dX1_answer_11 : decode cX1_answer 11 = .ok (.invokestatic 32, 3) := by decide +kernel
theorem dX1_answer_14 : decode cX1_answer 14 = .ok (.iload_n 1, 1) := by decide +kernel
theorem dX1_answer_15 : decode cX1_answer 15 = .ok (.iload_n 3, 1) := by decide +kernel
theorem dX1_answer_16 : decode cX1_answer 16 = .ok (.iconst 1, 1) := by decide +kernel
theorem dX1_answer_17 : decode cX1_answer 17 = .ok (.iadd, 1) := by decide +kernel
theorem dX1_answer_18 : decode cX1_answer 18 = .ok (.invokevirtual 36, 3) := by decide +kernel
theorem dX1_answer_21 : decode cX1_answer 21 = .ok (.ireturn, 1) := by decide +kernel
theorem dX1_bodyFor_0 : decode cX1_bodyFor 0 = .ok (.iload_n 0, 1) := by decide +kernel
theorem dX1_bodyFor_1 : decode cX1_bodyFor 1 = .ok (.istore_n 2, 1) := by decide +kernel
theorem dX1_bodyFor_2 : decode cX1_bodyFor 2 = .ok (.iconst 0, 1) := by decide +kernel
theorem dX1_bodyFor_3 : decode cX1_bodyFor 3 = .ok (.istore_n 3, 1) := by decide +kernel
theorem dX1_bodyFor_4 : decode cX1_bodyFor 4 = .ok (.iload_n 3, 1) := by decide +kernel
theorem dX1_bodyFor_5 : decode cX1_bodyFor 5 = .ok (.iconst 5, 1) := by decide +kernel
theorem dX1_bodyFor_6 : decode cX1_bodyFor 6 = .ok (.if_icmp .gt 51, 3) := by decide +kernel
theorem dX1_bodyFor_9 : decode cX1_bodyFor 9 = .ok (.iload_n 2, 1) := by decide +kernel
theorem dX1_bodyFor_10 : decode cX1_bodyFor 10 = .ok (.ifCond .lt 47, 3) := by decide +kernel
theorem dX1_bodyFor_13 : decode cX1_bodyFor 13 = .ok (.iload_n 2, 1) := by decide +kernel
theorem dX1_bodyFor_14 : decode cX1_bodyFor 14 = .ok (.iconst 5, 1) := by decide +kernel
theorem dX1_bodyFor_15 : decode cX1_bodyFor 15 = .ok (.if_icmp .gt 42, 3) := by decide +kernel
theorem dX1_bodyFor_18 : decode cX1_bodyFor 18 = .ok (.iload_n 1, 1) := by decide +kernel
theorem dX1_bodyFor_19 : decode cX1_bodyFor 19 = .ok (.ifCond .ne 11, 3) := by decide +kernel
theorem dX1_bodyFor_22 : decode cX1_bodyFor 22 = .ok (.getstatic 39, 3) := by decide +kernel
theorem dX1_bodyFor_25 : decode cX1_bodyFor 25 = .ok (.iload_n 2, 1) := by decide +kernel
theorem dX1_bodyFor_26 : decode cX1_bodyFor 26 = .ok (.iaload, 1) := by decide +kernel
theorem dX1_bodyFor_27 : decode cX1_bodyFor 27 = .ok (.goto 8, 3) := by decide +kernel
theorem dX1_bodyFor_30 : decode cX1_bodyFor 30 = .ok (.getstatic 42, 3) := by decide +kernel
theorem dX1_bodyFor_33 : decode cX1_bodyFor 33 = .ok (.iload_n 2, 1) := by decide +kernel
theorem dX1_bodyFor_34 : decode cX1_bodyFor 34 = .ok (.iaload, 1) := by decide +kernel
theorem dX1_bodyFor_35 : decode cX1_bodyFor 35 = .ok (.istore 4, 2) := by decide +kernel
theorem dX1_bodyFor_37 : decode cX1_bodyFor 37 = .ok (.iload 4, 2) := by decide +kernel
theorem dX1_bodyFor_39 : decode cX1_bodyFor 39 = .ok (.ifCond .eq 6, 3) := by decide +kernel
theorem dX1_bodyFor_42 : decode cX1_bodyFor 42 = .ok (.iload 4, 2) := by decide +kernel
theorem dX1_bodyFor_44 : decode cX1_bodyFor 44 = .ok (.ireturn, 1) := by decide +kernel
theorem dX1_bodyFor_45 : decode cX1_bodyFor 45 = .ok (.getstatic 45, 3) := by decide +kernel
theorem dX1_bodyFor_48 : decode cX1_bodyFor 48 = .ok (.iload_n 2, 1) := by decide +kernel
theorem dX1_bodyFor_49 : decode cX1_bodyFor 49 = .ok (.iaload, 1) := by decide +kernel
theorem dX1_bodyFor_50 : decode cX1_bodyFor 50 = .ok (.istore_n 2, 1) := by decide +kernel
theorem dX1_bodyFor_51 : decode cX1_bodyFor 51 = .ok (.iinc 3 1, 3) := by decide +kernel
theorem dX1_bodyFor_54 : decode cX1_bodyFor 54 = .ok (.goto (-50), 3) := by decide +kernel
theorem dX1_bodyFor_57 : decode cX1_bodyFor 57 = .ok (.iconst 0, 1) := by decide +kernel
theorem dX1_bodyFor_58 : decode cX1_bodyFor 58 = .ok (.ireturn, 1) := by decide +kernel
theorem dX1_body_0 : decode cX1_body 0 = .ok (.iload_n 3, 1) := by decide +kernel
theorem dX1_body_1 : decode cX1_body 1 = .ok (.bipush 20, 2) := by decide +kernel
theorem dX1_body_3 : decode cX1_body 3 = .ok (.if_icmp .le 5, 3) := by decide +kernel
theorem dX1_body_6 : decode cX1_body 6 = .ok (.iconst 0, 1) := by decide +kernel
theorem dX1_body_7 : decode cX1_body 7 = .ok (.ireturn, 1) := by decide +kernel
theorem dX1_body_8 : decode cX1_body 8 = .ok (.aload_n 0, 1) := by decide +kernel
theorem dX1_body_9 : decode cX1_body 9 = .ok (.iload_n 1, 1) := by decide +kernel
theorem dX1_body_10 : decode cX1_body 10 = .ok (.invokevirtual 48, 3) := by decide +kernel
theorem dX1_body_13 : decode cX1_body 13 = .ok (.iload_n 3, 1) := by decide +kernel
theorem dX1_body_14 : decode cX1_body 14 = .ok (.iconst 1, 1) := by decide +kernel
theorem dX1_body_15 : decode cX1_body 15 = .ok (.iadd, 1) := by decide +kernel
theorem dX1_body_16 : decode cX1_body 16 = .ok (.istore 4, 2) := by decide +kernel
theorem dX1_body_18 : decode cX1_body 18 = .ok (.iload_n 1, 1) := by decide +kernel
theorem dX1_body_19 : decode cX1_body 19 = .ok (.tableswitch 205 10 24 #[73, 83, 102, 113, 126, 205, 205, 205, 205, 205, 138, 140, 160, 174, 193], 73) := by decide +kernel
theorem dX1_body_92 : decode cX1_body 92 = .ok (.aload_n 0, 1) := by decide +kernel
theorem dX1_body_93 : decode cX1_body 93 = .ok (.getfield 15, 3) := by decide +kernel
theorem dX1_body_96 : decode cX1_body 96 = .ok (.getfield 52, 3) := by decide +kernel
theorem dX1_body_99 : decode cX1_body 99 = .ok (.iload_n 2, 1) := by decide +kernel
theorem dX1_body_100 : decode cX1_body 100 = .ok (.iaload, 1) := by decide +kernel
theorem dX1_body_101 : decode cX1_body 101 = .ok (.ireturn, 1) := by decide +kernel
theorem dX1_body_102 : decode cX1_body 102 = .ok (.aload_n 0, 1) := by decide +kernel
theorem dX1_body_103 : decode cX1_body 103 = .ok (.bipush 10, 2) := by decide +kernel
theorem dX1_body_105 : decode cX1_body 105 = .ok (.iload_n 2, 1) := by decide +kernel
theorem dX1_body_106 : decode cX1_body 106 = .ok (.iload 4, 2) := by decide +kernel
theorem dX1_body_108 : decode cX1_body 108 = .ok (.invokevirtual 36, 3) := by decide +kernel
theorem dX1_body_111 : decode cX1_body 111 = .ok (.aload_n 0, 1) := by decide +kernel
theorem dX1_body_112 : decode cX1_body 112 = .ok (.iload_n 2, 1) := by decide +kernel
theorem dX1_body_113 : decode cX1_body 113 = .ok (.iconst 1, 1) := by decide +kernel
theorem dX1_body_114 : decode cX1_body 114 = .ok (.iload 4, 2) := by decide +kernel
theorem dX1_body_116 : decode cX1_body 116 = .ok (.invokevirtual 23, 3) := by decide +kernel
theorem dX1_body_119 : decode cX1_body 119 = .ok (.iadd, 1) := by decide +kernel
theorem dX1_body_120 : decode cX1_body 120 = .ok (.ireturn, 1) := by decide +kernel
theorem dX1_body_121 : decode cX1_body 121 = .ok (.aload_n 0, 1) := by decide +kernel
theorem dX1_body_122 : decode cX1_body 122 = .ok (.bipush 11, 2) := by decide +kernel
theorem dX1_body_124 : decode cX1_body 124 = .ok (.iload_n 2, 1) := by decide +kernel
theorem dX1_body_125 : decode cX1_body 125 = .ok (.iload 4, 2) := by decide +kernel
theorem dX1_body_127 : decode cX1_body 127 = .ok (.invokevirtual 36, 3) := by decide +kernel
theorem dX1_body_130 : decode cX1_body 130 = .ok (.ineg, 1) := by decide +kernel
theorem dX1_body_131 : decode cX1_body 131 = .ok (.ireturn, 1) := by decide +kernel
theorem dX1_body_132 : decode cX1_body 132 = .ok (.aload_n 0, 1) := by decide +kernel
theorem dX1_body_133 : decode cX1_body 133 = .ok (.bipush 10, 2) := by decide +kernel
theorem dX1_body_135 : decode cX1_body 135 = .ok (.iload_n 2, 1) := by decide +kernel
theorem dX1_body_136 : decode cX1_body 136 = .ok (.iload 4, 2) := by decide +kernel
theorem dX1_body_138 : decode cX1_body 138 = .ok (.invokevirtual 36, 3) := by decide +kernel
theorem dX1_body_141 : decode cX1_body 141 = .ok (.bipush 100, 2) := by decide +kernel
theorem dX1_body_143 : decode cX1_body 143 = .ok (.isub, 1) := by decide +kernel
theorem dX1_body_144 : decode cX1_body 144 = .ok (.ireturn, 1) := by decide +kernel
theorem dX1_body_145 : decode cX1_body 145 = .ok (.iconst 2, 1) := by decide +kernel
theorem dX1_body_146 : decode cX1_body 146 = .ok (.aload_n 0, 1) := by decide +kernel
theorem dX1_body_147 : decode cX1_body 147 = .ok (.bipush 13, 2) := by decide +kernel
theorem dX1_body_149 : decode cX1_body 149 = .ok (.iload_n 2, 1) := by decide +kernel
theorem dX1_body_150 : decode cX1_body 150 = .ok (.iload 4, 2) := by decide +kernel
theorem dX1_body_152 : decode cX1_body 152 = .ok (.invokevirtual 36, 3) := by decide +kernel
theorem dX1_body_155 : decode cX1_body 155 = .ok (.imul, 1) := by decide +kernel
theorem dX1_body_156 : decode cX1_body 156 = .ok (.ireturn, 1) := by decide +kernel
theorem dX1_body_157 : decode cX1_body 157 = .ok (.iload_n 2, 1) := by decide +kernel
theorem dX1_body_158 : decode cX1_body 158 = .ok (.ireturn, 1) := by decide +kernel
theorem dX1_body_159 : decode cX1_body 159 = .ok (.aload_n 0, 1) := by decide +kernel
theorem dX1_body_160 : decode cX1_body 160 = .ok (.bipush 20, 2) := by decide +kernel
theorem dX1_body_162 : decode cX1_body 162 = .ok (.iload_n 2, 1) := by decide +kernel
theorem dX1_body_163 : decode cX1_body 163 = .ok (.iload 4, 2) := by decide +kernel
theorem dX1_body_165 : decode cX1_body 165 = .ok (.invokevirtual 36, 3) := by decide +kernel
theorem dX1_body_168 : decode cX1_body 168 = .ok (.aload_n 0, 1) := by decide +kernel
theorem dX1_body_169 : decode cX1_body 169 = .ok (.getfield 15, 3) := by decide +kernel
theorem dX1_body_172 : decode cX1_body 172 = .ok (.getfield 55, 3) := by decide +kernel
theorem dX1_body_175 : decode cX1_body 175 = .ok (.iload_n 2, 1) := by decide +kernel
theorem dX1_body_176 : decode cX1_body 176 = .ok (.iaload, 1) := by decide +kernel
theorem dX1_body_177 : decode cX1_body 177 = .ok (.iadd, 1) := by decide +kernel
theorem dX1_body_178 : decode cX1_body 178 = .ok (.ireturn, 1) := by decide +kernel
theorem dX1_body_179 : decode cX1_body 179 = .ok (.aload_n 0, 1) := by decide +kernel
theorem dX1_body_180 : decode cX1_body 180 = .ok (.bipush 21, 2) := by decide +kernel
theorem dX1_body_182 : decode cX1_body 182 = .ok (.iload_n 2, 1) := by decide +kernel
theorem dX1_body_183 : decode cX1_body 183 = .ok (.iload 4, 2) := by decide +kernel
theorem dX1_body_185 : decode cX1_body 185 = .ok (.invokevirtual 36, 3) := by decide +kernel
theorem dX1_body_188 : decode cX1_body 188 = .ok (.sipush 1000, 3) := by decide +kernel
theorem dX1_body_191 : decode cX1_body 191 = .ok (.isub, 1) := by decide +kernel
theorem dX1_body_192 : decode cX1_body 192 = .ok (.ireturn, 1) := by decide +kernel
theorem dX1_body_193 : decode cX1_body 193 = .ok (.aload_n 0, 1) := by decide +kernel
theorem dX1_body_194 : decode cX1_body 194 = .ok (.bipush 20, 2) := by decide +kernel
theorem dX1_body_196 : decode cX1_body 196 = .ok (.iload_n 2, 1) := by decide +kernel
theorem dX1_body_197 : decode cX1_body 197 = .ok (.iload 4, 2) := by decide +kernel
theorem dX1_body_199 : decode cX1_body 199 = .ok (.invokevirtual 36, 3) := by decide +kernel
theorem dX1_body_202 : decode cX1_body 202 = .ok (.aload_n 0, 1) := by decide +kernel
theorem dX1_body_203 : decode cX1_body 203 = .ok (.iload_n 2, 1) := by decide +kernel
theorem dX1_body_204 : decode cX1_body 204 = .ok (.iconst 0, 1) := by decide +kernel
theorem dX1_body_205 : decode cX1_body 205 = .ok (.iload 4, 2) := by decide +kernel
theorem dX1_body_207 : decode cX1_body 207 = .ok (.invokevirtual 23, 3) := by decide +kernel
theorem dX1_body_210 : decode cX1_body 210 = .ok (.isub, 1) := by decide +kernel
theorem dX1_body_211 : decode cX1_body 211 = .ok (.ireturn, 1) := by decide +kernel
theorem dX1_body_212 : decode cX1_body 212 = .ok (.iconst 2, 1) := by decide +kernel
theorem dX1_body_213 : decode cX1_body 213 = .ok (.aload_n 0, 1) := by decide +kernel
theorem dX1_body_214 : decode cX1_body 214 = .ok (.bipush 21, 2) := by decide +kernel
theorem dX1_body_216 : decode cX1_body 216 = .ok (.iload_n 2, 1) := by decide +kernel
theorem dX1_body_217 : decode cX1_body 217 = .ok (.iload 4, 2) := by decide +kernel
theorem dX1_body_219 : decode cX1_body 219 = .ok (.invokevirtual 36, 3) := by decide +kernel
theorem dX1_body_222 : decode cX1_body 222 = .ok (.imul, 1) := by decide +kernel
theorem dX1_body_223 : decode cX1_body 223 = .ok (.ireturn, 1) := by decide +kernel
theorem dX1_body_224 : decode cX1_body 224 = .ok (.iconst 0, 1) := by decide +kernel
theorem dX1_body_225 : decode cX1_body 225 = .ok (.ireturn, 1) := by decide +kernel
theorem dX1_leave_0 : decode cX1_leave 0 = .ok (.aload_n 0, 1) := by decide +kernel
theorem dX1_leave_1 : decode cX1_leave 1 = .ok (.getfield 19, 3) := by decide +kernel
theorem dX1_leave_4 : decode cX1_leave 4 = .ok (.bipush 16, 2) := by decide +kernel
theorem dX1_leave_6 : decode cX1_leave 6 = .ok (.if_icmp .ge 23, 3) := by decide +kernel
theorem dX1_leave_9 : decode cX1_leave 9 = .ok (.aload_n 0, 1) := by decide +kernel
theorem dX1_leave_10 : decode cX1_leave 10 = .ok (.getfield 11, 3) := by decide +kernel
theorem dX1_leave_13 : decode cX1_leave 13 = .ok (.aload_n 0, 1) := by decide +kernel
theorem dX1_leave_14 : decode cX1_leave 14 = .ok (.getfield 19, 3) := by decide +kernel
theorem dX1_leave_17 : decode cX1_leave 17 = .ok (.iload_n 1, 1) := by decide +kernel
theorem dX1_leave_18 : decode cX1_leave 18 = .ok (.iastore, 1) := by decide +kernel
theorem dX1_leave_19 : decode cX1_leave 19 = .ok (.aload_n 0, 1) := by decide +kernel
theorem dX1_leave_20 : decode cX1_leave 20 = .ok (.dup, 1) := by decide +kernel
theorem dX1_leave_21 : decode cX1_leave 21 = .ok (.getfield 19, 3) := by decide +kernel
theorem dX1_leave_24 : decode cX1_leave 24 = .ok (.iconst 1, 1) := by decide +kernel
theorem dX1_leave_25 : decode cX1_leave 25 = .ok (.iadd, 1) := by decide +kernel
theorem dX1_leave_26 : decode cX1_leave 26 = .ok (.putfield 19, 3) := by decide +kernel
theorem dX1_leave_29 : decode cX1_leave 29 = .ok (.return_, 1) := by decide +kernel
theorem dX2_init_0 : decode cX2_init 0 = .ok (.aload_n 0, 1) := by decide +kernel
theorem dX2_init_1 : decode cX2_init 1 = .ok (.invokespecial 3, 3) := by decide +kernel
theorem dX2_init_4 : decode cX2_init 4 = .ok (.aload_n 0, 1) := by decide +kernel
theorem dX2_init_5 : decode cX2_init 5 = .ok (.bipush 6, 2) := by decide +kernel
theorem dX2_init_7 : decode cX2_init 7 = .ok (.newarray .long, 2) := by decide +kernel
theorem dX2_init_9 : decode cX2_init 9 = .ok (.putfield 9, 3) := by decide +kernel
theorem dX2_init_12 : decode cX2_init 12 = .ok (.return_, 1) := by decide +kernel
theorem dX2_weigh_0 : decode cX2_weigh 0 = .ok (.aload_n 0, 1) := by decide +kernel
theorem dX2_weigh_1 : decode cX2_weigh 1 = .ok (.lconst 1, 1) := by decide +kernel
theorem dX2_weigh_2 : decode cX2_weigh 2 = .ok (.putfield 15, 3) := by decide +kernel
theorem dX2_weigh_5 : decode cX2_weigh 5 = .ok (.iconst 0, 1) := by decide +kernel
theorem dX2_weigh_6 : decode cX2_weigh 6 = .ok (.istore 4, 2) := by decide +kernel
theorem dX2_weigh_8 : decode cX2_weigh 8 = .ok (.iload 4, 2) := by decide +kernel
theorem dX2_weigh_10 : decode cX2_weigh 10 = .ok (.iconst 5, 1) := by decide +kernel
theorem dX2_weigh_11 : decode cX2_weigh 11 = .ok (.if_icmp .gt 26, 3) := by decide +kernel
theorem dX2_weigh_14 : decode cX2_weigh 14 = .ok (.aload_n 0, 1) := by decide +kernel
theorem dX2_weigh_15 : decode cX2_weigh 15 = .ok (.getfield 9, 3) := by decide +kernel
theorem dX2_weigh_18 : decode cX2_weigh 18 = .ok (.iload 4, 2) := by decide +kernel
theorem dX2_weigh_20 : decode cX2_weigh 20 = .ok (.iload 4, 2) := by decide +kernel
theorem dX2_weigh_22 : decode cX2_weigh 22 = .ok (.ifCond .ne 7, 3) := by decide +kernel
theorem dX2_weigh_25 : decode cX2_weigh 25 = .ok (.lconst 1, 1) := by decide +kernel
theorem dX2_weigh_26 : decode cX2_weigh 26 = .ok (.goto 4, 3) := by decide +kernel
theorem dX2_weigh_29 : decode cX2_weigh 29 = .ok (.lconst 0, 1) := by decide +kernel
theorem dX2_weigh_30 : decode cX2_weigh 30 = .ok (.lastore, 1) := by decide +kernel
theorem dX2_weigh_31 : decode cX2_weigh 31 = .ok (.iinc 4 1, 3) := by decide +kernel
theorem dX2_weigh_34 : decode cX2_weigh 34 = .ok (.goto (-26), 3) := by decide +kernel
theorem dX2_weigh_37 : decode cX2_weigh 37 = .ok (.iconst 0, 1) := by decide +kernel
theorem dX2_weigh_38 : decode cX2_weigh 38 = .ok (.istore 4, 2) := by decide +kernel
theorem dX2_weigh_40 : decode cX2_weigh 40 = .ok (.iload 4, 2) := by decide +kernel
theorem dX2_weigh_42 : decode cX2_weigh 42 = .ok (.iload_n 1, 1) := by decide +kernel
theorem dX2_weigh_43 : decode cX2_weigh 43 = .ok (.if_icmp .ge 81, 3) := by decide +kernel
theorem dX2_weigh_46 : decode cX2_weigh 46 = .ok (.aload_n 0, 1) := by decide +kernel
theorem dX2_weigh_47 : decode cX2_weigh 47 = .ok (.dup, 1) := by decide +kernel
theorem dX2_weigh_48 : decode cX2_weigh 48 = .ok (.getfield 15, 3) := by decide +kernel
theorem dX2_weigh_51 : decode cX2_weigh 51 = .ok (.ldc2_w 19, 3) := by decide +kernel
theorem dX2_weigh_54 : decode cX2_weigh 54 = .ok (.lmul, 1) := by decide +kernel
theorem dX2_weigh_55 : decode cX2_weigh 55 = .ok (.putfield 15, 3) := by decide +kernel
theorem dX2_weigh_58 : decode cX2_weigh 58 = .ok (.iconst 5, 1) := by decide +kernel
theorem dX2_weigh_59 : decode cX2_weigh 59 = .ok (.istore 5, 2) := by decide +kernel
theorem dX2_weigh_61 : decode cX2_weigh 61 = .ok (.iload 5, 2) := by decide +kernel
theorem dX2_weigh_63 : decode cX2_weigh 63 = .ok (.ifCond .lt 55, 3) := by decide +kernel
theorem dX2_weigh_66 : decode cX2_weigh 66 = .ok (.iload 5, 2) := by decide +kernel
theorem dX2_weigh_68 : decode cX2_weigh 68 = .ok (.ifCond .le 18, 3) := by decide +kernel
theorem dX2_weigh_71 : decode cX2_weigh 71 = .ok (.aload_n 0, 1) := by decide +kernel
theorem dX2_weigh_72 : decode cX2_weigh 72 = .ok (.getfield 9, 3) := by decide +kernel
theorem dX2_weigh_75 : decode cX2_weigh 75 = .ok (.iload 5, 2) := by decide +kernel
theorem dX2_weigh_77 : decode cX2_weigh 77 = .ok (.iconst 1, 1) := by decide +kernel
theorem dX2_weigh_78 : decode cX2_weigh 78 = .ok (.isub, 1) := by decide +kernel
theorem dX2_weigh_79 : decode cX2_weigh 79 = .ok (.laload, 1) := by decide +kernel
theorem dX2_weigh_80 : decode cX2_weigh 80 = .ok (.iload_n 3, 1) := by decide +kernel
theorem dX2_weigh_81 : decode cX2_weigh 81 = .ok (.i2l, 1) := by decide +kernel
theorem dX2_weigh_82 : decode cX2_weigh 82 = .ok (.lmul, 1) := by decide +kernel
theorem dX2_weigh_83 : decode cX2_weigh 83 = .ok (.goto 4, 3) := by decide +kernel
theorem dX2_weigh_86 : decode cX2_weigh 86 = .ok (.lconst 0, 1) := by decide +kernel
theorem dX2_weigh_87 : decode cX2_weigh 87 = .ok (.lstore 6, 2) := by decide +kernel
theorem dX2_weigh_89 : decode cX2_weigh 89 = .ok (.aload_n 0, 1) := by decide +kernel
theorem dX2_weigh_90 : decode cX2_weigh 90 = .ok (.getfield 9, 3) := by decide +kernel
theorem dX2_weigh_93 : decode cX2_weigh 93 = .ok (.iload 5, 2) := by decide +kernel
theorem dX2_weigh_95 : decode cX2_weigh 95 = .ok (.aload_n 0, 1) := by decide +kernel
theorem dX2_weigh_96 : decode cX2_weigh 96 = .ok (.getfield 9, 3) := by decide +kernel
theorem dX2_weigh_99 : decode cX2_weigh 99 = .ok (.iload 5, 2) := by decide +kernel
theorem dX2_weigh_101 : decode cX2_weigh 101 = .ok (.laload, 1) := by decide +kernel
theorem dX2_weigh_102 : decode cX2_weigh 102 = .ok (.bipush 10, 2) := by decide +kernel
theorem dX2_weigh_104 : decode cX2_weigh 104 = .ok (.iload_n 3, 1) := by decide +kernel
theorem dX2_weigh_105 : decode cX2_weigh 105 = .ok (.isub, 1) := by decide +kernel
theorem dX2_weigh_106 : decode cX2_weigh 106 = .ok (.i2l, 1) := by decide +kernel
theorem dX2_weigh_107 : decode cX2_weigh 107 = .ok (.lmul, 1) := by decide +kernel
theorem dX2_weigh_108 : decode cX2_weigh 108 = .ok (.lload 6, 2) := by decide +kernel
theorem dX2_weigh_110 : decode cX2_weigh 110 = .ok (.ladd, 1) := by decide +kernel
theorem dX2_weigh_111 : decode cX2_weigh 111 = .ok (.lastore, 1) := by decide +kernel
theorem dX2_weigh_112 : decode cX2_weigh 112 = .ok (.iinc 5 (-1), 3) := by decide +kernel
theorem dX2_weigh_115 : decode cX2_weigh 115 = .ok (.goto (-54), 3) := by decide +kernel
theorem dX2_weigh_118 : decode cX2_weigh 118 = .ok (.iinc 4 1, 3) := by decide +kernel
theorem dX2_weigh_121 : decode cX2_weigh 121 = .ok (.goto (-81), 3) := by decide +kernel
theorem dX2_weigh_124 : decode cX2_weigh 124 = .ok (.aload_n 0, 1) := by decide +kernel
theorem dX2_weigh_125 : decode cX2_weigh 125 = .ok (.lconst 0, 1) := by decide +kernel
theorem dX2_weigh_126 : decode cX2_weigh 126 = .ok (.putfield 21, 3) := by decide +kernel
theorem dX2_weigh_129 : decode cX2_weigh 129 = .ok (.iload_n 2, 1) := by decide +kernel
theorem dX2_weigh_130 : decode cX2_weigh 130 = .ok (.istore 4, 2) := by decide +kernel
theorem dX2_weigh_132 : decode cX2_weigh 132 = .ok (.iload 4, 2) := by decide +kernel
theorem dX2_weigh_134 : decode cX2_weigh 134 = .ok (.iconst 5, 1) := by decide +kernel
theorem dX2_weigh_135 : decode cX2_weigh 135 = .ok (.if_icmp .gt 25, 3) := by decide +kernel
theorem dX2_weigh_138 : decode cX2_weigh 138 = .ok (.aload_n 0, 1) := by decide +kernel
theorem dX2_weigh_139 : decode cX2_weigh 139 = .ok (.dup, 1) := by decide +kernel
theorem dX2_weigh_140 : decode cX2_weigh 140 = .ok (.getfield 21, 3) := by decide +kernel
theorem dX2_weigh_143 : decode cX2_weigh 143 = .ok (.aload_n 0, 1) := by decide +kernel
theorem dX2_weigh_144 : decode cX2_weigh 144 = .ok (.getfield 9, 3) := by decide +kernel
theorem dX2_weigh_147 : decode cX2_weigh 147 = .ok (.iload 4, 2) := by decide +kernel
theorem dX2_weigh_149 : decode cX2_weigh 149 = .ok (.laload, 1) := by decide +kernel
theorem dX2_weigh_150 : decode cX2_weigh 150 = .ok (.ladd, 1) := by decide +kernel
theorem dX2_weigh_151 : decode cX2_weigh 151 = .ok (.putfield 21, 3) := by decide +kernel
theorem dX2_weigh_154 : decode cX2_weigh 154 = .ok (.iinc 4 1, 3) := by decide +kernel
theorem dX2_weigh_157 : decode cX2_weigh 157 = .ok (.goto (-25), 3) := by decide +kernel
theorem dX2_weigh_160 : decode cX2_weigh 160 = .ok (.aload_n 0, 1) := by decide +kernel
theorem dX2_weigh_161 : decode cX2_weigh 161 = .ok (.getfield 15, 3) := by decide +kernel
theorem dX2_weigh_164 : decode cX2_weigh 164 = .ok (.aload_n 0, 1) := by decide +kernel
theorem dX2_weigh_165 : decode cX2_weigh 165 = .ok (.getfield 21, 3) := by decide +kernel
theorem dX2_weigh_168 : decode cX2_weigh 168 = .ok (.invokestatic 24, 3) := by decide +kernel
theorem dX2_weigh_171 : decode cX2_weigh 171 = .ok (.lstore 4, 2) := by decide +kernel
theorem dX2_weigh_173 : decode cX2_weigh 173 = .ok (.lload 4, 2) := by decide +kernel
theorem dX2_weigh_175 : decode cX2_weigh 175 = .ok (.lconst 1, 1) := by decide +kernel
theorem dX2_weigh_176 : decode cX2_weigh 176 = .ok (.lcmp, 1) := by decide +kernel
theorem dX2_weigh_177 : decode cX2_weigh 177 = .ok (.ifCond .le 25, 3) := by decide +kernel
theorem dX2_weigh_180 : decode cX2_weigh 180 = .ok (.aload_n 0, 1) := by decide +kernel
theorem dX2_weigh_181 : decode cX2_weigh 181 = .ok (.dup, 1) := by decide +kernel
theorem dX2_weigh_182 : decode cX2_weigh 182 = .ok (.getfield 21, 3) := by decide +kernel
theorem dX2_weigh_185 : decode cX2_weigh 185 = .ok (.lload 4, 2) := by decide +kernel
theorem dX2_weigh_187 : decode cX2_weigh 187 = .ok (.ldiv, 1) := by decide +kernel
theorem dX2_weigh_188 : decode cX2_weigh 188 = .ok (.putfield 21, 3) := by decide +kernel
theorem dX2_weigh_191 : decode cX2_weigh 191 = .ok (.aload_n 0, 1) := by decide +kernel
theorem dX2_weigh_192 : decode cX2_weigh 192 = .ok (.dup, 1) := by decide +kernel
theorem dX2_weigh_193 : decode cX2_weigh 193 = .ok (.getfield 15, 3) := by decide +kernel
theorem dX2_weigh_196 : decode cX2_weigh 196 = .ok (.lload 4, 2) := by decide +kernel
theorem dX2_weigh_198 : decode cX2_weigh 198 = .ok (.ldiv, 1) := by decide +kernel
theorem dX2_weigh_199 : decode cX2_weigh 199 = .ok (.putfield 15, 3) := by decide +kernel
theorem dX2_weigh_202 : decode cX2_weigh 202 = .ok (.return_, 1) := by decide +kernel
theorem dX2_commonDivisor_0 : decode cX2_commonDivisor 0 = .ok (.lload_n 0, 1) := by decide +kernel
theorem dX2_commonDivisor_1 : decode cX2_commonDivisor 1 = .ok (.lstore 4, 2) := by decide +kernel
theorem dX2_commonDivisor_3 : decode cX2_commonDivisor 3 = .ok (.lload_n 2, 1) := by decide +kernel
theorem dX2_commonDivisor_4 : decode cX2_commonDivisor 4 = .ok (.lstore 6, 2) := by decide +kernel
theorem dX2_commonDivisor_6 : decode cX2_commonDivisor 6 = .ok (.iconst 0, 1) := by decide +kernel
theorem dX2_commonDivisor_7 : decode cX2_commonDivisor 7 = .ok (.istore 8, 2) := by decide +kernel
theorem dX2_commonDivisor_9 : decode cX2_commonDivisor 9 = .ok (.iload 8, 2) := by decide +kernel
theorem dX2_commonDivisor_11 : decode cX2_commonDivisor 11 = .ok (.bipush 64, 2) := by decide +kernel
theorem dX2_commonDivisor_13 : decode cX2_commonDivisor 13 = .ok (.if_icmp .ge 31, 3) := by decide +kernel
theorem dX2_commonDivisor_16 : decode cX2_commonDivisor 16 = .ok (.lload 6, 2) := by decide +kernel
theorem dX2_commonDivisor_18 : decode cX2_commonDivisor 18 = .ok (.lconst 0, 1) := by decide +kernel
theorem dX2_commonDivisor_19 : decode cX2_commonDivisor 19 = .ok (.lcmp, 1) := by decide +kernel
theorem dX2_commonDivisor_20 : decode cX2_commonDivisor 20 = .ok (.ifCond .eq 24, 3) := by decide +kernel
theorem dX2_commonDivisor_23 : decode cX2_commonDivisor 23 = .ok (.lload 4, 2) := by decide +kernel
theorem dX2_commonDivisor_25 : decode cX2_commonDivisor 25 = .ok (.lload 6, 2) := by decide +kernel
theorem dX2_commonDivisor_27 : decode cX2_commonDivisor 27 = .ok (.lrem, 1) := by decide +kernel
theorem dX2_commonDivisor_28 : decode cX2_commonDivisor 28 = .ok (.lstore 9, 2) := by decide +kernel
theorem dX2_commonDivisor_30 : decode cX2_commonDivisor 30 = .ok (.lload 6, 2) := by decide +kernel
theorem dX2_commonDivisor_32 : decode cX2_commonDivisor 32 = .ok (.lstore 4, 2) := by decide +kernel
theorem dX2_commonDivisor_34 : decode cX2_commonDivisor 34 = .ok (.lload 9, 2) := by decide +kernel
theorem dX2_commonDivisor_36 : decode cX2_commonDivisor 36 = .ok (.lstore 6, 2) := by decide +kernel
theorem dX2_commonDivisor_38 : decode cX2_commonDivisor 38 = .ok (.iinc 8 1, 3) := by decide +kernel
theorem dX2_commonDivisor_41 : decode cX2_commonDivisor 41 = .ok (.goto (-32), 3) := by decide +kernel
theorem dX2_commonDivisor_44 : decode cX2_commonDivisor 44 = .ok (.lload 4, 2) := by decide +kernel
theorem dX2_commonDivisor_46 : decode cX2_commonDivisor 46 = .ok (.lreturn, 1) := by decide +kernel
theorem dX3_init_0 : decode cX3_init 0 = .ok (.aload_n 0, 1) := by decide +kernel
theorem dX3_init_1 : decode cX3_init 1 = .ok (.invokespecial 3, 3) := by decide +kernel
theorem dX3_init_4 : decode cX3_init 4 = .ok (.aload_n 0, 1) := by decide +kernel
theorem dX3_init_5 : decode cX3_init 5 = .ok (.new 9, 3) := by decide +kernel
theorem dX3_init_8 : decode cX3_init 8 = .ok (.dup, 1) := by decide +kernel
theorem dX3_init_9 : decode cX3_init 9 = .ok (.invokespecial 11, 3) := by decide +kernel
theorem dX3_init_12 : decode cX3_init 12 = .ok (.putfield 12, 3) := by decide +kernel
theorem dX3_init_15 : decode cX3_init 15 = .ok (.aload_n 0, 1) := by decide +kernel
theorem dX3_init_16 : decode cX3_init 16 = .ok (.aload_n 1, 1) := by decide +kernel
theorem dX3_init_17 : decode cX3_init 17 = .ok (.putfield 18, 3) := by decide +kernel
theorem dX3_init_20 : decode cX3_init 20 = .ok (.aload_n 0, 1) := by decide +kernel
theorem dX3_init_21 : decode cX3_init 21 = .ok (.aload_n 2, 1) := by decide +kernel
theorem dX3_init_22 : decode cX3_init 22 = .ok (.putfield 21, 3) := by decide +kernel
theorem dX3_init_25 : decode cX3_init 25 = .ok (.return_, 1) := by decide +kernel
theorem dX3_begin_0 : decode cX3_begin 0 = .ok (.aload_n 0, 1) := by decide +kernel
theorem dX3_begin_1 : decode cX3_begin 1 = .ok (.getfield 12, 3) := by decide +kernel
theorem dX3_begin_4 : decode cX3_begin 4 = .ok (.aload_n 0, 1) := by decide +kernel
theorem dX3_begin_5 : decode cX3_begin 5 = .ok (.getfield 18, 3) := by decide +kernel
theorem dX3_begin_8 : decode cX3_begin 8 = .ok (.invokevirtual 25, 3) := by decide +kernel
theorem dX3_begin_11 : decode cX3_begin 11 = .ok (.aload_n 0, 1) := by decide +kernel
theorem dX3_begin_12 : decode cX3_begin 12 = .ok (.getfield 12, 3) := by decide +kernel
theorem dX3_begin_15 : decode cX3_begin 15 = .ok (.invokevirtual 29, 3) := by decide +kernel
theorem dX3_begin_18 : decode cX3_begin 18 = .ok (.return_, 1) := by decide +kernel
theorem dX3_behind_0 : decode cX3_behind 0 = .ok (.aload_n 0, 1) := by decide +kernel
theorem dX3_behind_1 : decode cX3_behind 1 = .ok (.invokevirtual 32, 3) := by decide +kernel
theorem dX3_behind_4 : decode cX3_behind 4 = .ok (.iconst 0, 1) := by decide +kernel
theorem dX3_behind_5 : decode cX3_behind 5 = .ok (.istore_n 2, 1) := by decide +kernel
theorem dX3_behind_6 : decode cX3_behind 6 = .ok (.iload_n 2, 1) := by decide +kernel
theorem dX3_behind_7 : decode cX3_behind 7 = .ok (.iload_n 1, 1) := by decide +kernel
theorem dX3_behind_8 : decode cX3_behind 8 = .ok (.if_icmp .ge 17, 3) := by decide +kernel
theorem dX3_behind_11 : decode cX3_behind 11 = .ok (.aload_n 0, 1) := by decide +kernel
theorem dX3_behind_12 : decode cX3_behind 12 = .ok (.getfield 12, 3) := by decide +kernel
theorem dX3_behind_15 : decode cX3_behind 15 = .ok (.invokevirtual 35, 3) := by decide +kernel
theorem dX3_behind_18 : decode cX3_behind 18 = .ok (.pop, 1) := by decide +kernel
theorem dX3_behind_19 : decode cX3_behind 19 = .ok (.iinc 2 1, 3) := by decide +kernel
theorem dX3_behind_22 : decode cX3_behind 22 = .ok (.goto (-16), 3) := by decide +kernel
theorem dX3_behind_25 : decode cX3_behind 25 = .ok (.aload_n 0, 1) := by decide +kernel
theorem dX3_behind_26 : decode cX3_behind 26 = .ok (.getfield 12, 3) := by decide +kernel
theorem dX3_behind_29 : decode cX3_behind 29 = .ok (.areturn, 1) := by decide +kernel
theorem dX3_behindDraws_0 : decode cX3_behindDraws 0 = .ok (.aload_n 0, 1) := by decide +kernel
theorem dX3_behindDraws_1 : decode cX3_behindDraws 1 = .ok (.invokevirtual 32, 3) := by decide +kernel
theorem dX3_behindDraws_4 : decode cX3_behindDraws 4 = .ok (.iload_n 2, 1) := by decide +kernel
theorem dX3_behindDraws_5 : decode cX3_behindDraws 5 = .ok (.i2l, 1) := by decide +kernel
theorem dX3_behindDraws_6 : decode cX3_behindDraws 6 = .ok (.lstore_n 3, 1) := by decide +kernel
theorem dX3_behindDraws_7 : decode cX3_behindDraws 7 = .ok (.iconst 0, 1) := by decide +kernel
theorem dX3_behindDraws_8 : decode cX3_behindDraws 8 = .ok (.istore 5, 2) := by decide +kernel
theorem dX3_behindDraws_10 : decode cX3_behindDraws 10 = .ok (.iload 5, 2) := by decide +kernel
theorem dX3_behindDraws_12 : decode cX3_behindDraws 12 = .ok (.iload_n 1, 1) := by decide +kernel
theorem dX3_behindDraws_13 : decode cX3_behindDraws 13 = .ok (.if_icmp .ge 78, 3) := by decide +kernel
theorem dX3_behindDraws_16 : decode cX3_behindDraws 16 = .ok (.lload_n 3, 1) := by decide +kernel
theorem dX3_behindDraws_17 : decode cX3_behindDraws 17 = .ok (.ldc2_w 39, 3) := by decide +kernel
theorem dX3_behindDraws_20 : decode cX3_behindDraws 20 = .ok (.lmul, 1) := by decide +kernel
theorem dX3_behindDraws_21 : decode cX3_behindDraws 21 = .ok (.ldc2_w 41, 3) := by decide +kernel
theorem dX3_behindDraws_24 : decode cX3_behindDraws 24 = .ok (.lrem, 1) := by decide +kernel
theorem dX3_behindDraws_25 : decode cX3_behindDraws 25 = .ok (.lstore_n 3, 1) := by decide +kernel
theorem dX3_behindDraws_26 : decode cX3_behindDraws 26 = .ok (.aload_n 0, 1) := by decide +kernel
theorem dX3_behindDraws_27 : decode cX3_behindDraws 27 = .ok (.getfield 12, 3) := by decide +kernel
theorem dX3_behindDraws_30 : decode cX3_behindDraws 30 = .ok (.lload_n 3, 1) := by decide +kernel
theorem dX3_behindDraws_31 : decode cX3_behindDraws 31 = .ok (.ldc2_w 43, 3) := by decide +kernel
theorem dX3_behindDraws_34 : decode cX3_behindDraws 34 = .ok (.lrem, 1) := by decide +kernel
theorem dX3_behindDraws_35 : decode cX3_behindDraws 35 = .ok (.l2i, 1) := by decide +kernel
theorem dX3_behindDraws_36 : decode cX3_behindDraws 36 = .ok (.putfield 45, 3) := by decide +kernel
theorem dX3_behindDraws_39 : decode cX3_behindDraws 39 = .ok (.lload_n 3, 1) := by decide +kernel
theorem dX3_behindDraws_40 : decode cX3_behindDraws 40 = .ok (.ldc2_w 49, 3) := by decide +kernel
theorem dX3_behindDraws_43 : decode cX3_behindDraws 43 = .ok (.lrem, 1) := by decide +kernel
theorem dX3_behindDraws_44 : decode cX3_behindDraws 44 = .ok (.lconst 0, 1) := by decide +kernel
theorem dX3_behindDraws_45 : decode cX3_behindDraws 45 = .ok (.lcmp, 1) := by decide +kernel
theorem dX3_behindDraws_46 : decode cX3_behindDraws 46 = .ok (.ifCond .ne 31, 3) := by decide +kernel
theorem dX3_behindDraws_49 : decode cX3_behindDraws 49 = .ok (.aload_n 0, 1) := by decide +kernel
theorem dX3_behindDraws_50 : decode cX3_behindDraws 50 = .ok (.getfield 12, 3) := by decide +kernel
theorem dX3_behindDraws_53 : decode cX3_behindDraws 53 = .ok (.getfield 51, 3) := by decide +kernel
theorem dX3_behindDraws_56 : decode cX3_behindDraws 56 = .ok (.ifCond .le 21, 3) := by decide +kernel
theorem dX3_behindDraws_59 : decode cX3_behindDraws 59 = .ok (.aload_n 0, 1) := by decide +kernel
theorem dX3_behindDraws_60 : decode cX3_behindDraws 60 = .ok (.getfield 12, 3) := by decide +kernel
theorem dX3_behindDraws_63 : decode cX3_behindDraws 63 = .ok (.lload_n 3, 1) := by decide +kernel
theorem dX3_behindDraws_64 : decode cX3_behindDraws 64 = .ok (.aload_n 0, 1) := by decide +kernel
theorem dX3_behindDraws_65 : decode cX3_behindDraws 65 = .ok (.getfield 12, 3) := by decide +kernel
theorem dX3_behindDraws_68 : decode cX3_behindDraws 68 = .ok (.getfield 51, 3) := by decide +kernel
theorem dX3_behindDraws_71 : decode cX3_behindDraws 71 = .ok (.i2l, 1) := by decide +kernel
theorem dX3_behindDraws_72 : decode cX3_behindDraws 72 = .ok (.lrem, 1) := by decide +kernel
theorem dX3_behindDraws_73 : decode cX3_behindDraws 73 = .ok (.l2i, 1) := by decide +kernel
theorem dX3_behindDraws_74 : decode cX3_behindDraws 74 = .ok (.invokevirtual 54, 3) := by decide +kernel
theorem dX3_behindDraws_77 : decode cX3_behindDraws 77 = .ok (.aload_n 0, 1) := by decide +kernel
theorem dX3_behindDraws_78 : decode cX3_behindDraws 78 = .ok (.getfield 12, 3) := by decide +kernel
theorem dX3_behindDraws_81 : decode cX3_behindDraws 81 = .ok (.invokevirtual 35, 3) := by decide +kernel
theorem dX3_behindDraws_84 : decode cX3_behindDraws 84 = .ok (.pop, 1) := by decide +kernel
theorem dX3_behindDraws_85 : decode cX3_behindDraws 85 = .ok (.iinc 5 1, 3) := by decide +kernel
theorem dX3_behindDraws_88 : decode cX3_behindDraws 88 = .ok (.goto (-78), 3) := by decide +kernel
theorem dX3_behindDraws_91 : decode cX3_behindDraws 91 = .ok (.aload_n 0, 1) := by decide +kernel
theorem dX3_behindDraws_92 : decode cX3_behindDraws 92 = .ok (.getfield 12, 3) := by decide +kernel
theorem dX3_behindDraws_95 : decode cX3_behindDraws 95 = .ok (.areturn, 1) := by decide +kernel
theorem dX3_firstRain_0 : decode cX3_firstRain 0 = .ok (.aload_n 0, 1) := by decide +kernel
theorem dX3_firstRain_1 : decode cX3_firstRain 1 = .ok (.invokevirtual 32, 3) := by decide +kernel
theorem dX3_firstRain_4 : decode cX3_firstRain 4 = .ok (.iconst 1, 1) := by decide +kernel
theorem dX3_firstRain_5 : decode cX3_firstRain 5 = .ok (.istore_n 2, 1) := by decide +kernel
theorem dX3_firstRain_6 : decode cX3_firstRain 6 = .ok (.iload_n 2, 1) := by decide +kernel
theorem dX3_firstRain_7 : decode cX3_firstRain 7 = .ok (.bipush 60, 2) := by decide +kernel
theorem dX3_firstRain_9 : decode cX3_firstRain 9 = .ok (.if_icmp .gt 31, 3) := by decide +kernel
theorem dX3_firstRain_12 : decode cX3_firstRain 12 = .ok (.aload_n 0, 1) := by decide +kernel
theorem dX3_firstRain_13 : decode cX3_firstRain 13 = .ok (.getfield 12, 3) := by decide +kernel
theorem dX3_firstRain_16 : decode cX3_firstRain 16 = .ok (.invokevirtual 35, 3) := by decide +kernel
theorem dX3_firstRain_19 : decode cX3_firstRain 19 = .ok (.pop, 1) := by decide +kernel
theorem dX3_firstRain_20 : decode cX3_firstRain 20 = .ok (.aload_n 0, 1) := by decide +kernel
theorem dX3_firstRain_21 : decode cX3_firstRain 21 = .ok (.getfield 12, 3) := by decide +kernel
theorem dX3_firstRain_24 : decode cX3_firstRain 24 = .ok (.getfield 58, 3) := by decide +kernel
theorem dX3_firstRain_27 : decode cX3_firstRain 27 = .ok (.iload_n 1, 1) := by decide +kernel
theorem dX3_firstRain_28 : decode cX3_firstRain 28 = .ok (.iaload, 1) := by decide +kernel
theorem dX3_firstRain_29 : decode cX3_firstRain 29 = .ok (.ifCond .eq 5, 3) := by decide +kernel
theorem dX3_firstRain_32 : decode cX3_firstRain 32 = .ok (.iload_n 2, 1) := by decide +kernel
theorem dX3_firstRain_33 : decode cX3_firstRain 33 = .ok (.ireturn, 1) := by decide +kernel
theorem dX3_firstRain_34 : decode cX3_firstRain 34 = .ok (.iinc 2 1, 3) := by decide +kernel
theorem dX3_firstRain_37 : decode cX3_firstRain 37 = .ok (.goto (-31), 3) := by decide +kernel
theorem dX3_firstRain_40 : decode cX3_firstRain 40 = .ok (.ldc 62, 2) := by decide +kernel
theorem dX3_firstRain_42 : decode cX3_firstRain 42 = .ok (.ireturn, 1) := by decide +kernel
theorem dX3_firstGone_0 : decode cX3_firstGone 0 = .ok (.aload_n 0, 1) := by decide +kernel
theorem dX3_firstGone_1 : decode cX3_firstGone 1 = .ok (.invokevirtual 32, 3) := by decide +kernel
theorem dX3_firstGone_4 : decode cX3_firstGone 4 = .ok (.iconst 0, 1) := by decide +kernel
theorem dX3_firstGone_5 : decode cX3_firstGone 5 = .ok (.istore_n 2, 1) := by decide +kernel
theorem dX3_firstGone_6 : decode cX3_firstGone 6 = .ok (.iload_n 2, 1) := by decide +kernel
theorem dX3_firstGone_7 : decode cX3_firstGone 7 = .ok (.bipush 60, 2) := by decide +kernel
theorem dX3_firstGone_9 : decode cX3_firstGone 9 = .ok (.if_icmp .gt 30, 3) := by decide +kernel
theorem dX3_firstGone_12 : decode cX3_firstGone 12 = .ok (.aload_n 0, 1) := by decide +kernel
theorem dX3_firstGone_13 : decode cX3_firstGone 13 = .ok (.getfield 12, 3) := by decide +kernel
theorem dX3_firstGone_16 : decode cX3_firstGone 16 = .ok (.iload_n 1, 1) := by decide +kernel
theorem dX3_firstGone_17 : decode cX3_firstGone 17 = .ok (.invokevirtual 63, 3) := by decide +kernel
theorem dX3_firstGone_20 : decode cX3_firstGone 20 = .ok (.ifCond .eq 5, 3) := by decide +kernel
theorem dX3_firstGone_23 : decode cX3_firstGone 23 = .ok (.iload_n 2, 1) := by decide +kernel
theorem dX3_firstGone_24 : decode cX3_firstGone 24 = .ok (.ireturn, 1) := by decide +kernel
theorem dX3_firstGone_25 : decode cX3_firstGone 25 = .ok (.aload_n 0, 1) := by decide +kernel
theorem dX3_firstGone_26 : decode cX3_firstGone 26 = .ok (.getfield 12, 3) := by decide +kernel
theorem dX3_firstGone_29 : decode cX3_firstGone 29 = .ok (.invokevirtual 35, 3) := by decide +kernel
theorem dX3_firstGone_32 : decode cX3_firstGone 32 = .ok (.pop, 1) := by decide +kernel
theorem dX3_firstGone_33 : decode cX3_firstGone 33 = .ok (.iinc 2 1, 3) := by decide +kernel
theorem dX3_firstGone_36 : decode cX3_firstGone 36 = .ok (.goto (-30), 3) := by decide +kernel
theorem dX3_firstGone_39 : decode cX3_firstGone 39 = .ok (.ldc 62, 2) := by decide +kernel
theorem dX3_firstGone_41 : decode cX3_firstGone 41 = .ok (.ireturn, 1) := by decide +kernel
theorem dX3_firstMeeting_0 : decode cX3_firstMeeting 0 = .ok (.aload_n 0, 1) := by decide +kernel
theorem dX3_firstMeeting_1 : decode cX3_firstMeeting 1 = .ok (.getfield 18, 3) := by decide +kernel
theorem dX3_firstMeeting_4 : decode cX3_firstMeeting 4 = .ok (.getfield 67, 3) := by decide +kernel
theorem dX3_firstMeeting_7 : decode cX3_firstMeeting 7 = .ok (.iload_n 1, 1) := by decide +kernel
theorem dX3_firstMeeting_8 : decode cX3_firstMeeting 8 = .ok (.iaload, 1) := by decide +kernel
theorem dX3_firstMeeting_9 : decode cX3_firstMeeting 9 = .ok (.aload_n 0, 1) := by decide +kernel
theorem dX3_firstMeeting_10 : decode cX3_firstMeeting 10 = .ok (.getfield 18, 3) := by decide +kernel
theorem dX3_firstMeeting_13 : decode cX3_firstMeeting 13 = .ok (.getfield 67, 3) := by decide +kernel
theorem dX3_firstMeeting_16 : decode cX3_firstMeeting 16 = .ok (.iload_n 2, 1) := by decide +kernel
theorem dX3_firstMeeting_17 : decode cX3_firstMeeting 17 = .ok (.iaload, 1) := by decide +kernel
theorem dX3_firstMeeting_18 : decode cX3_firstMeeting 18 = .ok (.if_icmp .ne 6, 3) := by decide +kernel
theorem dX3_firstMeeting_21 : decode cX3_firstMeeting 21 = .ok (.ldc 62, 2) := by decide +kernel
theorem dX3_firstMeeting_23 : decode cX3_firstMeeting 23 = .ok (.ireturn, 1) := by decide +kernel
theorem dX3_firstMeeting_24 : decode cX3_firstMeeting 24 = .ok (.aload_n 0, 1) := by decide +kernel
theorem dX3_firstMeeting_25 : decode cX3_firstMeeting 25 = .ok (.invokevirtual 32, 3) := by decide +kernel
theorem dX3_firstMeeting_28 : decode cX3_firstMeeting 28 = .ok (.iconst 0, 1) := by decide +kernel
theorem dX3_firstMeeting_29 : decode cX3_firstMeeting 29 = .ok (.istore_n 3, 1) := by decide +kernel
theorem dX3_firstMeeting_30 : decode cX3_firstMeeting 30 = .ok (.iload_n 3, 1) := by decide +kernel
theorem dX3_firstMeeting_31 : decode cX3_firstMeeting 31 = .ok (.bipush 60, 2) := by decide +kernel
theorem dX3_firstMeeting_33 : decode cX3_firstMeeting 33 = .ok (.if_icmp .gt 39, 3) := by decide +kernel
theorem dX3_firstMeeting_36 : decode cX3_firstMeeting 36 = .ok (.aload_n 0, 1) := by decide +kernel
theorem dX3_firstMeeting_37 : decode cX3_firstMeeting 37 = .ok (.getfield 12, 3) := by decide +kernel
theorem dX3_firstMeeting_40 : decode cX3_firstMeeting 40 = .ok (.iload_n 1, 1) := by decide +kernel
theorem dX3_firstMeeting_41 : decode cX3_firstMeeting 41 = .ok (.invokevirtual 70, 3) := by decide +kernel
theorem dX3_firstMeeting_44 : decode cX3_firstMeeting 44 = .ok (.aload_n 0, 1) := by decide +kernel
theorem dX3_firstMeeting_45 : decode cX3_firstMeeting 45 = .ok (.getfield 12, 3) := by decide +kernel
theorem dX3_firstMeeting_48 : decode cX3_firstMeeting 48 = .ok (.iload_n 2, 1) := by decide +kernel
theorem dX3_firstMeeting_49 : decode cX3_firstMeeting 49 = .ok (.invokevirtual 70, 3) := by decide +kernel
theorem dX3_firstMeeting_52 : decode cX3_firstMeeting 52 = .ok (.iand, 1) := by decide +kernel
theorem dX3_firstMeeting_53 : decode cX3_firstMeeting 53 = .ok (.ifCond .eq 5, 3) := by decide +kernel
theorem dX3_firstMeeting_56 : decode cX3_firstMeeting 56 = .ok (.iload_n 3, 1) := by decide +kernel
theorem dX3_firstMeeting_57 : decode cX3_firstMeeting 57 = .ok (.ireturn, 1) := by decide +kernel
theorem dX3_firstMeeting_58 : decode cX3_firstMeeting 58 = .ok (.aload_n 0, 1) := by decide +kernel
theorem dX3_firstMeeting_59 : decode cX3_firstMeeting 59 = .ok (.getfield 12, 3) := by decide +kernel
theorem dX3_firstMeeting_62 : decode cX3_firstMeeting 62 = .ok (.invokevirtual 35, 3) := by decide +kernel
theorem dX3_firstMeeting_65 : decode cX3_firstMeeting 65 = .ok (.pop, 1) := by decide +kernel
theorem dX3_firstMeeting_66 : decode cX3_firstMeeting 66 = .ok (.iinc 3 1, 3) := by decide +kernel
theorem dX3_firstMeeting_69 : decode cX3_firstMeeting 69 = .ok (.goto (-39), 3) := by decide +kernel
theorem dX3_firstMeeting_72 : decode cX3_firstMeeting 72 = .ok (.ldc 62, 2) := by decide +kernel
theorem dX3_firstMeeting_74 : decode cX3_firstMeeting 74 = .ok (.ireturn, 1) := by decide +kernel
theorem dX3_firstDrySpell_0 : decode cX3_firstDrySpell 0 = .ok (.aload_n 0, 1) := by decide +kernel
theorem dX3_firstDrySpell_1 : decode cX3_firstDrySpell 1 = .ok (.invokevirtual 32, 3) := by decide +kernel
theorem dX3_firstDrySpell_4 : decode cX3_firstDrySpell 4 = .ok (.iconst 0, 1) := by decide +kernel
theorem dX3_firstDrySpell_5 : decode cX3_firstDrySpell 5 = .ok (.istore_n 3, 1) := by decide +kernel
theorem dX3_firstDrySpell_6 : decode cX3_firstDrySpell 6 = .ok (.iconst 0, 1) := by decide +kernel
theorem dX3_firstDrySpell_7 : decode cX3_firstDrySpell 7 = .ok (.istore 4, 2) := by decide +kernel
theorem dX3_firstDrySpell_9 : decode cX3_firstDrySpell 9 = .ok (.iload 4, 2) := by decide +kernel
theorem dX3_firstDrySpell_11 : decode cX3_firstDrySpell 11 = .ok (.bipush 30, 2) := by decide +kernel
theorem dX3_firstDrySpell_13 : decode cX3_firstDrySpell 13 = .ok (.iload_n 2, 1) := by decide +kernel
theorem dX3_firstDrySpell_14 : decode cX3_firstDrySpell 14 = .ok (.iadd, 1) := by decide +kernel
theorem dX3_firstDrySpell_15 : decode cX3_firstDrySpell 15 = .ok (.if_icmp .ge 68, 3) := by decide +kernel
theorem dX3_firstDrySpell_18 : decode cX3_firstDrySpell 18 = .ok (.iload_n 3, 1) := by decide +kernel
theorem dX3_firstDrySpell_19 : decode cX3_firstDrySpell 19 = .ok (.bipush 30, 2) := by decide +kernel
theorem dX3_firstDrySpell_21 : decode cX3_firstDrySpell 21 = .ok (.if_icmp .gt 62, 3) := by decide +kernel
theorem dX3_firstDrySpell_24 : decode cX3_firstDrySpell 24 = .ok (.aload_n 0, 1) := by decide +kernel
theorem dX3_firstDrySpell_25 : decode cX3_firstDrySpell 25 = .ok (.getfield 12, 3) := by decide +kernel
theorem dX3_firstDrySpell_28 : decode cX3_firstDrySpell 28 = .ok (.getfield 58, 3) := by decide +kernel
theorem dX3_firstDrySpell_31 : decode cX3_firstDrySpell 31 = .ok (.iload_n 1, 1) := by decide +kernel
theorem dX3_firstDrySpell_32 : decode cX3_firstDrySpell 32 = .ok (.iaload, 1) := by decide +kernel
theorem dX3_firstDrySpell_33 : decode cX3_firstDrySpell 33 = .ok (.istore 5, 2) := by decide +kernel
theorem dX3_firstDrySpell_35 : decode cX3_firstDrySpell 35 = .ok (.aload_n 0, 1) := by decide +kernel
theorem dX3_firstDrySpell_36 : decode cX3_firstDrySpell 36 = .ok (.getfield 12, 3) := by decide +kernel
theorem dX3_firstDrySpell_39 : decode cX3_firstDrySpell 39 = .ok (.invokevirtual 35, 3) := by decide +kernel
theorem dX3_firstDrySpell_42 : decode cX3_firstDrySpell 42 = .ok (.pop, 1) := by decide +kernel
theorem dX3_firstDrySpell_43 : decode cX3_firstDrySpell 43 = .ok (.aload_n 0, 1) := by decide +kernel
theorem dX3_firstDrySpell_44 : decode cX3_firstDrySpell 44 = .ok (.getfield 12, 3) := by decide +kernel
theorem dX3_firstDrySpell_47 : decode cX3_firstDrySpell 47 = .ok (.getfield 58, 3) := by decide +kernel
theorem dX3_firstDrySpell_50 : decode cX3_firstDrySpell 50 = .ok (.iload_n 1, 1) := by decide +kernel
theorem dX3_firstDrySpell_51 : decode cX3_firstDrySpell 51 = .ok (.iaload, 1) := by decide +kernel
theorem dX3_firstDrySpell_52 : decode cX3_firstDrySpell 52 = .ok (.iload 5, 2) := by decide +kernel
theorem dX3_firstDrySpell_54 : decode cX3_firstDrySpell 54 = .ok (.if_icmp .eq 11, 3) := by decide +kernel
theorem dX3_firstDrySpell_57 : decode cX3_firstDrySpell 57 = .ok (.iload 4, 2) := by decide +kernel
theorem dX3_firstDrySpell_59 : decode cX3_firstDrySpell 59 = .ok (.iconst 1, 1) := by decide +kernel
theorem dX3_firstDrySpell_60 : decode cX3_firstDrySpell 60 = .ok (.iadd, 1) := by decide +kernel
theorem dX3_firstDrySpell_61 : decode cX3_firstDrySpell 61 = .ok (.istore_n 3, 1) := by decide +kernel
theorem dX3_firstDrySpell_62 : decode cX3_firstDrySpell 62 = .ok (.goto 15, 3) := by decide +kernel
theorem dX3_firstDrySpell_65 : decode cX3_firstDrySpell 65 = .ok (.iload 4, 2) := by decide +kernel
theorem dX3_firstDrySpell_67 : decode cX3_firstDrySpell 67 = .ok (.iconst 1, 1) := by decide +kernel
theorem dX3_firstDrySpell_68 : decode cX3_firstDrySpell 68 = .ok (.iadd, 1) := by decide +kernel
theorem dX3_firstDrySpell_69 : decode cX3_firstDrySpell 69 = .ok (.iload_n 3, 1) := by decide +kernel
theorem dX3_firstDrySpell_70 : decode cX3_firstDrySpell 70 = .ok (.isub, 1) := by decide +kernel
theorem dX3_firstDrySpell_71 : decode cX3_firstDrySpell 71 = .ok (.iload_n 2, 1) := by decide +kernel
theorem dX3_firstDrySpell_72 : decode cX3_firstDrySpell 72 = .ok (.if_icmp .lt 5, 3) := by decide +kernel
theorem dX3_firstDrySpell_75 : decode cX3_firstDrySpell 75 = .ok (.iload_n 3, 1) := by decide +kernel
theorem dX3_firstDrySpell_76 : decode cX3_firstDrySpell 76 = .ok (.ireturn, 1) := by decide +kernel
theorem dX3_firstDrySpell_77 : decode cX3_firstDrySpell 77 = .ok (.iinc 4 1, 3) := by decide +kernel
theorem dX3_firstDrySpell_80 : decode cX3_firstDrySpell 80 = .ok (.goto (-71), 3) := by decide +kernel
theorem dX3_firstDrySpell_83 : decode cX3_firstDrySpell 83 = .ok (.ldc 62, 2) := by decide +kernel
theorem dX3_firstDrySpell_85 : decode cX3_firstDrySpell 85 = .ok (.ireturn, 1) := by decide +kernel
theorem dX3_kindsThatFit_0 : decode cX3_kindsThatFit 0 = .ok (.iconst 0, 1) := by decide +kernel
theorem dX3_kindsThatFit_1 : decode cX3_kindsThatFit 1 = .ok (.istore 6, 2) := by decide +kernel
theorem dX3_kindsThatFit_3 : decode cX3_kindsThatFit 3 = .ok (.iconst 1, 1) := by decide +kernel
theorem dX3_kindsThatFit_4 : decode cX3_kindsThatFit 4 = .ok (.istore 7, 2) := by decide +kernel
theorem dX3_kindsThatFit_6 : decode cX3_kindsThatFit 6 = .ok (.iload 7, 2) := by decide +kernel
theorem dX3_kindsThatFit_8 : decode cX3_kindsThatFit 8 = .ok (.iconst 5, 1) := by decide +kernel
theorem dX3_kindsThatFit_9 : decode cX3_kindsThatFit 9 = .ok (.if_icmp .gt 46, 3) := by decide +kernel
theorem dX3_kindsThatFit_12 : decode cX3_kindsThatFit 12 = .ok (.aload_n 0, 1) := by decide +kernel
theorem dX3_kindsThatFit_13 : decode cX3_kindsThatFit 13 = .ok (.invokevirtual 32, 3) := by decide +kernel
theorem dX3_kindsThatFit_16 : decode cX3_kindsThatFit 16 = .ok (.aload_n 0, 1) := by decide +kernel
theorem dX3_kindsThatFit_17 : decode cX3_kindsThatFit 17 = .ok (.getfield 12, 3) := by decide +kernel
theorem dX3_kindsThatFit_20 : decode cX3_kindsThatFit 20 = .ok (.getfield 74, 3) := by decide +kernel
theorem dX3_kindsThatFit_23 : decode cX3_kindsThatFit 23 = .ok (.iload_n 1, 1) := by decide +kernel
theorem dX3_kindsThatFit_24 : decode cX3_kindsThatFit 24 = .ok (.iload 7, 2) := by decide +kernel
theorem dX3_kindsThatFit_26 : decode cX3_kindsThatFit 26 = .ok (.iastore, 1) := by decide +kernel
theorem dX3_kindsThatFit_27 : decode cX3_kindsThatFit 27 = .ok (.aload_n 0, 1) := by decide +kernel
theorem dX3_kindsThatFit_28 : decode cX3_kindsThatFit 28 = .ok (.iload_n 2, 1) := by decide +kernel
theorem dX3_kindsThatFit_29 : decode cX3_kindsThatFit 29 = .ok (.iload_n 3, 1) := by decide +kernel
theorem dX3_kindsThatFit_30 : decode cX3_kindsThatFit 30 = .ok (.iload 4, 2) := by decide +kernel
theorem dX3_kindsThatFit_32 : decode cX3_kindsThatFit 32 = .ok (.iload 5, 2) := by decide +kernel
theorem dX3_kindsThatFit_34 : decode cX3_kindsThatFit 34 = .ok (.invokevirtual 77, 3) := by decide +kernel
theorem dX3_kindsThatFit_37 : decode cX3_kindsThatFit 37 = .ok (.ifCond .eq 12, 3) := by decide +kernel
theorem dX3_kindsThatFit_40 : decode cX3_kindsThatFit 40 = .ok (.iload 6, 2) := by decide +kernel
theorem dX3_kindsThatFit_42 : decode cX3_kindsThatFit 42 = .ok (.iconst 1, 1) := by decide +kernel
theorem dX3_kindsThatFit_43 : decode cX3_kindsThatFit 43 = .ok (.iload 7, 2) := by decide +kernel
theorem dX3_kindsThatFit_45 : decode cX3_kindsThatFit 45 = .ok (.ishl, 1) := by decide +kernel
theorem dX3_kindsThatFit_46 : decode cX3_kindsThatFit 46 = .ok (.ior, 1) := by decide +kernel
theorem dX3_kindsThatFit_47 : decode cX3_kindsThatFit 47 = .ok (.istore 6, 2) := by decide +kernel
theorem dX3_kindsThatFit_49 : decode cX3_kindsThatFit 49 = .ok (.iinc 7 1, 3) := by decide +kernel
theorem dX3_kindsThatFit_52 : decode cX3_kindsThatFit 52 = .ok (.goto (-46), 3) := by decide +kernel
theorem dX3_kindsThatFit_55 : decode cX3_kindsThatFit 55 = .ok (.iload 6, 2) := by decide +kernel
theorem dX3_kindsThatFit_57 : decode cX3_kindsThatFit 57 = .ok (.ireturn, 1) := by decide +kernel
theorem dX3_placesThatFit_0 : decode cX3_placesThatFit 0 = .ok (.iconst 0, 1) := by decide +kernel
theorem dX3_placesThatFit_1 : decode cX3_placesThatFit 1 = .ok (.istore 6, 2) := by decide +kernel
theorem dX3_placesThatFit_3 : decode cX3_placesThatFit 3 = .ok (.iconst 0, 1) := by decide +kernel
theorem dX3_placesThatFit_4 : decode cX3_placesThatFit 4 = .ok (.istore 7, 2) := by decide +kernel
theorem dX3_placesThatFit_6 : decode cX3_placesThatFit 6 = .ok (.iload 7, 2) := by decide +kernel
theorem dX3_placesThatFit_8 : decode cX3_placesThatFit 8 = .ok (.bipush 16, 2) := by decide +kernel
theorem dX3_placesThatFit_10 : decode cX3_placesThatFit 10 = .ok (.if_icmp .ge 46, 3) := by decide +kernel
theorem dX3_placesThatFit_13 : decode cX3_placesThatFit 13 = .ok (.aload_n 0, 1) := by decide +kernel
theorem dX3_placesThatFit_14 : decode cX3_placesThatFit 14 = .ok (.invokevirtual 32, 3) := by decide +kernel
theorem dX3_placesThatFit_17 : decode cX3_placesThatFit 17 = .ok (.aload_n 0, 1) := by decide +kernel
theorem dX3_placesThatFit_18 : decode cX3_placesThatFit 18 = .ok (.getfield 12, 3) := by decide +kernel
theorem dX3_placesThatFit_21 : decode cX3_placesThatFit 21 = .ok (.getfield 81, 3) := by decide +kernel
theorem dX3_placesThatFit_24 : decode cX3_placesThatFit 24 = .ok (.iload_n 1, 1) := by decide +kernel
theorem dX3_placesThatFit_25 : decode cX3_placesThatFit 25 = .ok (.iload 7, 2) := by decide +kernel
theorem dX3_placesThatFit_27 : decode cX3_placesThatFit 27 = .ok (.iastore, 1) := by decide +kernel
theorem dX3_placesThatFit_28 : decode cX3_placesThatFit 28 = .ok (.aload_n 0, 1) := by decide +kernel
theorem dX3_placesThatFit_29 : decode cX3_placesThatFit 29 = .ok (.iload_n 2, 1) := by decide +kernel
theorem dX3_placesThatFit_30 : decode cX3_placesThatFit 30 = .ok (.iload_n 3, 1) := by decide +kernel
theorem dX3_placesThatFit_31 : decode cX3_placesThatFit 31 = .ok (.iload 4, 2) := by decide +kernel
theorem dX3_placesThatFit_33 : decode cX3_placesThatFit 33 = .ok (.iload 5, 2) := by decide +kernel
theorem dX3_placesThatFit_35 : decode cX3_placesThatFit 35 = .ok (.invokevirtual 77, 3) := by decide +kernel
theorem dX3_placesThatFit_38 : decode cX3_placesThatFit 38 = .ok (.ifCond .eq 12, 3) := by decide +kernel
theorem dX3_placesThatFit_41 : decode cX3_placesThatFit 41 = .ok (.iload 6, 2) := by decide +kernel
theorem dX3_placesThatFit_43 : decode cX3_placesThatFit 43 = .ok (.iconst 1, 1) := by decide +kernel
theorem dX3_placesThatFit_44 : decode cX3_placesThatFit 44 = .ok (.iload 7, 2) := by decide +kernel
theorem dX3_placesThatFit_46 : decode cX3_placesThatFit 46 = .ok (.ishl, 1) := by decide +kernel
theorem dX3_placesThatFit_47 : decode cX3_placesThatFit 47 = .ok (.ior, 1) := by decide +kernel
theorem dX3_placesThatFit_48 : decode cX3_placesThatFit 48 = .ok (.istore 6, 2) := by decide +kernel
theorem dX3_placesThatFit_50 : decode cX3_placesThatFit 50 = .ok (.iinc 7 1, 3) := by decide +kernel
theorem dX3_placesThatFit_53 : decode cX3_placesThatFit 53 = .ok (.goto (-47), 3) := by decide +kernel
theorem dX3_placesThatFit_56 : decode cX3_placesThatFit 56 = .ok (.iload 6, 2) := by decide +kernel
theorem dX3_placesThatFit_58 : decode cX3_placesThatFit 58 = .ok (.ireturn, 1) := by decide +kernel
theorem dX3_fits_0 : decode cX3_fits 0 = .ok (.iconst 0, 1) := by decide +kernel
theorem dX3_fits_1 : decode cX3_fits 1 = .ok (.istore 5, 2) := by decide +kernel
theorem dX3_fits_3 : decode cX3_fits 3 = .ok (.iload 5, 2) := by decide +kernel
theorem dX3_fits_5 : decode cX3_fits 5 = .ok (.iload 4, 2) := by decide +kernel
theorem dX3_fits_7 : decode cX3_fits 7 = .ok (.if_icmp .ge 57, 3) := by decide +kernel
theorem dX3_fits_10 : decode cX3_fits 10 = .ok (.aload_n 0, 1) := by decide +kernel
theorem dX3_fits_11 : decode cX3_fits 11 = .ok (.getfield 12, 3) := by decide +kernel
theorem dX3_fits_14 : decode cX3_fits 14 = .ok (.getfield 58, 3) := by decide +kernel
theorem dX3_fits_17 : decode cX3_fits 17 = .ok (.iload_n 1, 1) := by decide +kernel
theorem dX3_fits_18 : decode cX3_fits 18 = .ok (.iaload, 1) := by decide +kernel
theorem dX3_fits_19 : decode cX3_fits 19 = .ok (.istore 6, 2) := by decide +kernel
theorem dX3_fits_21 : decode cX3_fits 21 = .ok (.aload_n 0, 1) := by decide +kernel
theorem dX3_fits_22 : decode cX3_fits 22 = .ok (.getfield 12, 3) := by decide +kernel
theorem dX3_fits_25 : decode cX3_fits 25 = .ok (.invokevirtual 35, 3) := by decide +kernel
theorem dX3_fits_28 : decode cX3_fits 28 = .ok (.pop, 1) := by decide +kernel
theorem dX3_fits_29 : decode cX3_fits 29 = .ok (.aload_n 0, 1) := by decide +kernel
theorem dX3_fits_30 : decode cX3_fits 30 = .ok (.getfield 12, 3) := by decide +kernel
theorem dX3_fits_33 : decode cX3_fits 33 = .ok (.getfield 58, 3) := by decide +kernel
theorem dX3_fits_36 : decode cX3_fits 36 = .ok (.iload_n 1, 1) := by decide +kernel
theorem dX3_fits_37 : decode cX3_fits 37 = .ok (.iaload, 1) := by decide +kernel
theorem dX3_fits_38 : decode cX3_fits 38 = .ok (.iload 6, 2) := by decide +kernel
theorem dX3_fits_40 : decode cX3_fits 40 = .ok (.isub, 1) := by decide +kernel
theorem dX3_fits_41 : decode cX3_fits 41 = .ok (.aload_n 0, 1) := by decide +kernel
theorem dX3_fits_42 : decode cX3_fits 42 = .ok (.getfield 21, 3) := by decide +kernel
theorem dX3_fits_45 : decode cX3_fits 45 = .ok (.iload_n 2, 1) := by decide +kernel
theorem dX3_fits_46 : decode cX3_fits 46 = .ok (.iload_n 3, 1) := by decide +kernel
theorem dX3_fits_47 : decode cX3_fits 47 = .ok (.iload 5, 2) := by decide +kernel
theorem dX3_fits_49 : decode cX3_fits 49 = .ok (.iadd, 1) := by decide +kernel
theorem dX3_fits_50 : decode cX3_fits 50 = .ok (.invokevirtual 84, 3) := by decide +kernel
theorem dX3_fits_53 : decode cX3_fits 53 = .ok (.if_icmp .eq 5, 3) := by decide +kernel
theorem dX3_fits_56 : decode cX3_fits 56 = .ok (.iconst 0, 1) := by decide +kernel
theorem dX3_fits_57 : decode cX3_fits 57 = .ok (.ireturn, 1) := by decide +kernel
theorem dX3_fits_58 : decode cX3_fits 58 = .ok (.iinc 5 1, 3) := by decide +kernel
theorem dX3_fits_61 : decode cX3_fits 61 = .ok (.goto (-58), 3) := by decide +kernel
theorem dX3_fits_64 : decode cX3_fits 64 = .ok (.iconst 1, 1) := by decide +kernel
theorem dX3_fits_65 : decode cX3_fits 65 = .ok (.ireturn, 1) := by decide +kernel
theorem dJ6_bitCount_0f7a4_0 : decode cJ6_bitCount_0f7a4 0 = .ok (.iload_n 0, 1) := by decide +kernel
theorem dJ6_bitCount_0f7a4_1 : decode cJ6_bitCount_0f7a4 1 = .ok (.iload_n 0, 1) := by decide +kernel
theorem dJ6_bitCount_0f7a4_2 : decode cJ6_bitCount_0f7a4 2 = .ok (.iconst 1, 1) := by decide +kernel
theorem dJ6_bitCount_0f7a4_3 : decode cJ6_bitCount_0f7a4 3 = .ok (.iushr, 1) := by decide +kernel
theorem dJ6_bitCount_0f7a4_4 : decode cJ6_bitCount_0f7a4 4 = .ok (.ldc_w 265, 3) := by decide +kernel
theorem dJ6_bitCount_0f7a4_7 : decode cJ6_bitCount_0f7a4 7 = .ok (.iand, 1) := by decide +kernel
theorem dJ6_bitCount_0f7a4_8 : decode cJ6_bitCount_0f7a4 8 = .ok (.isub, 1) := by decide +kernel
theorem dJ6_bitCount_0f7a4_9 : decode cJ6_bitCount_0f7a4 9 = .ok (.istore_n 0, 1) := by decide +kernel
theorem dJ6_bitCount_0f7a4_10 : decode cJ6_bitCount_0f7a4 10 = .ok (.iload_n 0, 1) := by decide +kernel
theorem dJ6_bitCount_0f7a4_11 : decode cJ6_bitCount_0f7a4 11 = .ok (.ldc_w 266, 3) := by decide +kernel
theorem dJ6_bitCount_0f7a4_14 : decode cJ6_bitCount_0f7a4 14 = .ok (.iand, 1) := by decide +kernel
theorem dJ6_bitCount_0f7a4_15 : decode cJ6_bitCount_0f7a4 15 = .ok (.iload_n 0, 1) := by decide +kernel
theorem dJ6_bitCount_0f7a4_16 : decode cJ6_bitCount_0f7a4 16 = .ok (.iconst 2, 1) := by decide +kernel
theorem dJ6_bitCount_0f7a4_17 : decode cJ6_bitCount_0f7a4 17 = .ok (.iushr, 1) := by decide +kernel
theorem dJ6_bitCount_0f7a4_18 : decode cJ6_bitCount_0f7a4 18 = .ok (.ldc_w 266, 3) := by decide +kernel
theorem dJ6_bitCount_0f7a4_21 : decode cJ6_bitCount_0f7a4 21 = .ok (.iand, 1) := by decide +kernel
theorem dJ6_bitCount_0f7a4_22 : decode cJ6_bitCount_0f7a4 22 = .ok (.iadd, 1) := by decide +kernel
theorem dJ6_bitCount_0f7a4_23 : decode cJ6_bitCount_0f7a4 23 = .ok (.istore_n 0, 1) := by decide +kernel
theorem dJ6_bitCount_0f7a4_24 : decode cJ6_bitCount_0f7a4 24 = .ok (.iload_n 0, 1) := by decide +kernel
theorem dJ6_bitCount_0f7a4_25 : decode cJ6_bitCount_0f7a4 25 = .ok (.iload_n 0, 1) := by decide +kernel
theorem dJ6_bitCount_0f7a4_26 : decode cJ6_bitCount_0f7a4 26 = .ok (.iconst 4, 1) := by decide +kernel
theorem dJ6_bitCount_0f7a4_27 : decode cJ6_bitCount_0f7a4 27 = .ok (.iushr, 1) := by decide +kernel
theorem dJ6_bitCount_0f7a4_28 : decode cJ6_bitCount_0f7a4 28 = .ok (.iadd, 1) := by decide +kernel
theorem dJ6_bitCount_0f7a4_29 : decode cJ6_bitCount_0f7a4 29 = .ok (.ldc_w 267, 3) := by decide +kernel
theorem dJ6_bitCount_0f7a4_32 : decode cJ6_bitCount_0f7a4 32 = .ok (.iand, 1) := by decide +kernel
theorem dJ6_bitCount_0f7a4_33 : decode cJ6_bitCount_0f7a4 33 = .ok (.istore_n 0, 1) := by decide +kernel
theorem dJ6_bitCount_0f7a4_34 : decode cJ6_bitCount_0f7a4 34 = .ok (.iload_n 0, 1) := by decide +kernel
theorem dJ6_bitCount_0f7a4_35 : decode cJ6_bitCount_0f7a4 35 = .ok (.iload_n 0, 1) := by decide +kernel
theorem dJ6_bitCount_0f7a4_36 : decode cJ6_bitCount_0f7a4 36 = .ok (.bipush 8, 2) := by decide +kernel
theorem dJ6_bitCount_0f7a4_38 : decode cJ6_bitCount_0f7a4 38 = .ok (.iushr, 1) := by decide +kernel
theorem dJ6_bitCount_0f7a4_39 : decode cJ6_bitCount_0f7a4 39 = .ok (.iadd, 1) := by decide +kernel
theorem dJ6_bitCount_0f7a4_40 : decode cJ6_bitCount_0f7a4 40 = .ok (.istore_n 0, 1) := by decide +kernel
theorem dJ6_bitCount_0f7a4_41 : decode cJ6_bitCount_0f7a4 41 = .ok (.iload_n 0, 1) := by decide +kernel
theorem dJ6_bitCount_0f7a4_42 : decode cJ6_bitCount_0f7a4 42 = .ok (.iload_n 0, 1) := by decide +kernel
theorem dJ6_bitCount_0f7a4_43 : decode cJ6_bitCount_0f7a4 43 = .ok (.bipush 16, 2) := by decide +kernel
theorem dJ6_bitCount_0f7a4_45 : decode cJ6_bitCount_0f7a4 45 = .ok (.iushr, 1) := by decide +kernel
theorem dJ6_bitCount_0f7a4_46 : decode cJ6_bitCount_0f7a4 46 = .ok (.iadd, 1) := by decide +kernel
theorem dJ6_bitCount_0f7a4_47 : decode cJ6_bitCount_0f7a4 47 = .ok (.istore_n 0, 1) := by decide +kernel
theorem dJ6_bitCount_0f7a4_48 : decode cJ6_bitCount_0f7a4 48 = .ok (.iload_n 0, 1) := by decide +kernel
theorem dJ6_bitCount_0f7a4_49 : decode cJ6_bitCount_0f7a4 49 = .ok (.bipush 63, 2) := by decide +kernel
theorem dJ6_bitCount_0f7a4_51 : decode cJ6_bitCount_0f7a4 51 = .ok (.iand, 1) := by decide +kernel
theorem dJ6_bitCount_0f7a4_52 : decode cJ6_bitCount_0f7a4 52 = .ok (.ireturn, 1) := by decide +kernel
theorem dJ9_abs_0f7a4_0 : decode cJ9_abs_0f7a4 0 = .ok (.iload_n 0, 1) := by decide +kernel
theorem dJ9_abs_0f7a4_1 : decode cJ9_abs_0f7a4 1 = .ok (.ifCond .ge 8, 3) := by decide +kernel
theorem dJ9_abs_0f7a4_4 : decode cJ9_abs_0f7a4 4 = .ok (.iload_n 0, 1) := by decide +kernel
theorem dJ9_abs_0f7a4_5 : decode cJ9_abs_0f7a4 5 = .ok (.ineg, 1) := by decide +kernel
theorem dJ9_abs_0f7a4_6 : decode cJ9_abs_0f7a4 6 = .ok (.goto 4, 3) := by decide +kernel
theorem dJ9_abs_0f7a4_9 : decode cJ9_abs_0f7a4 9 = .ok (.iload_n 0, 1) := by decide +kernel
theorem dJ9_abs_0f7a4_10 : decode cJ9_abs_0f7a4 10 = .ok (.ireturn, 1) := by decide +kernel
theorem dJ9_max_7cf53_0 : decode cJ9_max_7cf53 0 = .ok (.iload_n 0, 1) := by decide +kernel
theorem dJ9_max_7cf53_1 : decode cJ9_max_7cf53 1 = .ok (.iload_n 1, 1) := by decide +kernel
theorem dJ9_max_7cf53_2 : decode cJ9_max_7cf53 2 = .ok (.if_icmp .lt 7, 3) := by decide +kernel
theorem dJ9_max_7cf53_5 : decode cJ9_max_7cf53 5 = .ok (.iload_n 0, 1) := by decide +kernel
theorem dJ9_max_7cf53_6 : decode cJ9_max_7cf53 6 = .ok (.goto 4, 3) := by decide +kernel
theorem dJ9_max_7cf53_9 : decode cJ9_max_7cf53 9 = .ok (.iload_n 1, 1) := by decide +kernel
theorem dJ9_max_7cf53_10 : decode cJ9_max_7cf53 10 = .ok (.ireturn, 1) := by decide +kernel
theorem dJ9_min_7cf53_0 : decode cJ9_min_7cf53 0 = .ok (.iload_n 0, 1) := by decide +kernel
theorem dJ9_min_7cf53_1 : decode cJ9_min_7cf53 1 = .ok (.iload_n 1, 1) := by decide +kernel
theorem dJ9_min_7cf53_2 : decode cJ9_min_7cf53 2 = .ok (.if_icmp .gt 7, 3) := by decide +kernel
theorem dJ9_min_7cf53_5 : decode cJ9_min_7cf53 5 = .ok (.iload_n 0, 1) := by decide +kernel
theorem dJ9_min_7cf53_6 : decode cJ9_min_7cf53 6 = .ok (.goto 4, 3) := by decide +kernel
theorem dJ9_min_7cf53_9 : decode cJ9_min_7cf53 9 = .ok (.iload_n 1, 1) := by decide +kernel
theorem dJ9_min_7cf53_10 : decode cJ9_min_7cf53 10 = .ok (.ireturn, 1) := by decide +kernel
end
section
theorem dX4_init_0 : decode cX4_init 0 = .ok (.aload_n 0, 1) := by decide +kernel
theorem dX4_init_1 : decode cX4_init 1 = .ok (.invokespecial 3, 3) := by decide +kernel
theorem dX4_init_4 : decode cX4_init 4 = .ok (.aload_n 0, 1) := by decide +kernel
theorem dX4_init_5 : decode cX4_init 5 = .ok (.new 9, 3) := by decide +kernel
theorem dX4_init_8 : decode cX4_init 8 = .ok (.dup, 1) := by decide +kernel
theorem dX4_init_9 : decode cX4_init 9 = .ok (.invokespecial 11, 3) := by decide +kernel
theorem dX4_init_12 : decode cX4_init 12 = .ok (.putfield 12, 3) := by decide +kernel
theorem dX4_init_15 : decode cX4_init 15 = .ok (.aload_n 0, 1) := by decide +kernel
theorem dX4_init_16 : decode cX4_init 16 = .ok (.aload_n 1, 1) := by decide +kernel
theorem dX4_init_17 : decode cX4_init 17 = .ok (.putfield 18, 3) := by decide +kernel
theorem dX4_init_20 : decode cX4_init 20 = .ok (.return_, 1) := by decide +kernel
theorem dX4_read_0 : decode cX4_read 0 = .ok (.aload_n 0, 1) := by decide +kernel
theorem dX4_read_1 : decode cX4_read 1 = .ok (.iconst 0, 1) := by decide +kernel
theorem dX4_read_2 : decode cX4_read 2 = .ok (.putfield 22, 3) := by decide +kernel
theorem dX4_read_5 : decode cX4_read 5 = .ok (.aload_n 0, 1) := by decide +kernel
theorem dX4_read_6 : decode cX4_read 6 = .ok (.iconst 0, 1) := by decide +kernel
theorem dX4_read_7 : decode cX4_read 7 = .ok (.putfield 26, 3) := by decide +kernel
theorem dX4_read_10 : decode cX4_read 10 = .ok (.aload_n 0, 1) := by decide +kernel
theorem dX4_read_11 : decode cX4_read 11 = .ok (.getfield 12, 3) := by decide +kernel
theorem dX4_read_14 : decode cX4_read 14 = .ok (.iconst 0, 1) := by decide +kernel
theorem dX4_read_15 : decode cX4_read 15 = .ok (.putfield 29, 3) := by decide +kernel
theorem dX4_read_18 : decode cX4_read 18 = .ok (.aload_n 0, 1) := by decide +kernel
theorem dX4_read_19 : decode cX4_read 19 = .ok (.invokevirtual 32, 3) := by decide +kernel
theorem dX4_read_22 : decode cX4_read 22 = .ok (.aload_n 0, 1) := by decide +kernel
theorem dX4_read_23 : decode cX4_read 23 = .ok (.iconst 0, 1) := by decide +kernel
theorem dX4_read_24 : decode cX4_read 24 = .ok (.invokevirtual 35, 3) := by decide +kernel
theorem dX4_read_27 : decode cX4_read 27 = .ok (.iconst 1, 1) := by decide +kernel
theorem dX4_read_28 : decode cX4_read 28 = .ok (.istore_n 1, 1) := by decide +kernel
theorem dX4_read_29 : decode cX4_read 29 = .ok (.iload_n 1, 1) := by decide +kernel
theorem dX4_read_30 : decode cX4_read 30 = .ok (.iconst 5, 1) := by decide +kernel
theorem dX4_read_31 : decode cX4_read 31 = .ok (.if_icmp .gt 35, 3) := by decide +kernel
theorem dX4_read_34 : decode cX4_read 34 = .ok (.aload_n 0, 1) := by decide +kernel
theorem dX4_read_35 : decode cX4_read 35 = .ok (.getfield 26, 3) := by decide +kernel
theorem dX4_read_38 : decode cX4_read 38 = .ok (.ifCond .ne 28, 3) := by decide +kernel
theorem dX4_read_41 : decode cX4_read 41 = .ok (.aload_n 0, 1) := by decide +kernel
theorem dX4_read_42 : decode cX4_read 42 = .ok (.getfield 22, 3) := by decide +kernel
theorem dX4_read_45 : decode cX4_read 45 = .ok (.aload_n 0, 1) := by decide +kernel
theorem dX4_read_46 : decode cX4_read 46 = .ok (.getfield 18, 3) := by decide +kernel
theorem dX4_read_49 : decode cX4_read 49 = .ok (.getfield 39, 3) := by decide +kernel
theorem dX4_read_52 : decode cX4_read 52 = .ok (.if_icmp .ge 14, 3) := by decide +kernel
theorem dX4_read_55 : decode cX4_read 55 = .ok (.aload_n 0, 1) := by decide +kernel
theorem dX4_read_56 : decode cX4_read 56 = .ok (.iload_n 1, 1) := by decide +kernel
theorem dX4_read_57 : decode cX4_read 57 = .ok (.invokevirtual 35, 3) := by decide +kernel
theorem dX4_read_60 : decode cX4_read 60 = .ok (.iinc 1 1, 3) := by decide +kernel
theorem dX4_read_63 : decode cX4_read 63 = .ok (.goto (-34), 3) := by decide +kernel
theorem dX4_read_66 : decode cX4_read 66 = .ok (.aload_n 0, 1) := by decide +kernel
theorem dX4_read_67 : decode cX4_read 67 = .ok (.getfield 26, 3) := by decide +kernel
theorem dX4_read_70 : decode cX4_read 70 = .ok (.ireturn, 1) := by decide +kernel
theorem dX4_readLaw_0 : decode cX4_readLaw 0 = .ok (.aload_n 0, 1) := by decide +kernel
theorem dX4_readLaw_1 : decode cX4_readLaw 1 = .ok (.bipush 119, 2) := by decide +kernel
theorem dX4_readLaw_3 : decode cX4_readLaw 3 = .ok (.invokevirtual 44, 3) := by decide +kernel
theorem dX4_readLaw_6 : decode cX4_readLaw 6 = .ok (.aload_n 0, 1) := by decide +kernel
theorem dX4_readLaw_7 : decode cX4_readLaw 7 = .ok (.getfield 12, 3) := by decide +kernel
theorem dX4_readLaw_10 : decode cX4_readLaw 10 = .ok (.aload_n 0, 1) := by decide +kernel
theorem dX4_readLaw_11 : decode cX4_readLaw 11 = .ok (.iconst 0, 1) := by decide +kernel
theorem dX4_readLaw_12 : decode cX4_readLaw 12 = .ok (.bipush 15, 2) := by decide +kernel
theorem dX4_readLaw_14 : decode cX4_readLaw 14 = .ok (.invokevirtual 47, 3) := by decide +kernel
theorem dX4_readLaw_17 : decode cX4_readLaw 17 = .ok (.putfield 51, 3) := by decide +kernel
theorem dX4_readLaw_20 : decode cX4_readLaw 20 = .ok (.aload_n 0, 1) := by decide +kernel
theorem dX4_readLaw_21 : decode cX4_readLaw 21 = .ok (.bipush 44, 2) := by decide +kernel
theorem dX4_readLaw_23 : decode cX4_readLaw 23 = .ok (.invokevirtual 44, 3) := by decide +kernel
theorem dX4_readLaw_26 : decode cX4_readLaw 26 = .ok (.aload_n 0, 1) := by decide +kernel
theorem dX4_readLaw_27 : decode cX4_readLaw 27 = .ok (.getfield 12, 3) := by decide +kernel
theorem dX4_readLaw_30 : decode cX4_readLaw 30 = .ok (.aload_n 0, 1) := by decide +kernel
theorem dX4_readLaw_31 : decode cX4_readLaw 31 = .ok (.iconst 1, 1) := by decide +kernel
theorem dX4_readLaw_32 : decode cX4_readLaw 32 = .ok (.bipush 20, 2) := by decide +kernel
theorem dX4_readLaw_34 : decode cX4_readLaw 34 = .ok (.invokevirtual 47, 3) := by decide +kernel
theorem dX4_readLaw_37 : decode cX4_readLaw 37 = .ok (.putfield 54, 3) := by decide +kernel
theorem dX4_readLaw_40 : decode cX4_readLaw 40 = .ok (.aload_n 0, 1) := by decide +kernel
theorem dX4_readLaw_41 : decode cX4_readLaw 41 = .ok (.bipush 59, 2) := by decide +kernel
theorem dX4_readLaw_43 : decode cX4_readLaw 43 = .ok (.invokevirtual 44, 3) := by decide +kernel
theorem dX4_readLaw_46 : decode cX4_readLaw 46 = .ok (.return_, 1) := by decide +kernel
theorem dX4_readCloud_0 : decode cX4_readCloud 0 = .ok (.aload_n 0, 1) := by decide +kernel
theorem dX4_readCloud_1 : decode cX4_readCloud 1 = .ok (.iload_n 1, 1) := by decide +kernel
theorem dX4_readCloud_2 : decode cX4_readCloud 2 = .ok (.invokevirtual 57, 3) := by decide +kernel
theorem dX4_readCloud_5 : decode cX4_readCloud 5 = .ok (.istore_n 2, 1) := by decide +kernel
theorem dX4_readCloud_6 : decode cX4_readCloud 6 = .ok (.aload_n 0, 1) := by decide +kernel
theorem dX4_readCloud_7 : decode cX4_readCloud 7 = .ok (.iconst 0, 1) := by decide +kernel
theorem dX4_readCloud_8 : decode cX4_readCloud 8 = .ok (.bipush 15, 2) := by decide +kernel
theorem dX4_readCloud_10 : decode cX4_readCloud 10 = .ok (.invokevirtual 47, 3) := by decide +kernel
theorem dX4_readCloud_13 : decode cX4_readCloud 13 = .ok (.istore_n 3, 1) := by decide +kernel
theorem dX4_readCloud_14 : decode cX4_readCloud 14 = .ok (.aload_n 0, 1) := by decide +kernel
theorem dX4_readCloud_15 : decode cX4_readCloud 15 = .ok (.bipush 44, 2) := by decide +kernel
theorem dX4_readCloud_17 : decode cX4_readCloud 17 = .ok (.invokevirtual 44, 3) := by decide +kernel
theorem dX4_readCloud_20 : decode cX4_readCloud 20 = .ok (.aload_n 0, 1) := by decide +kernel
theorem dX4_readCloud_21 : decode cX4_readCloud 21 = .ok (.iconst 1, 1) := by decide +kernel
theorem dX4_readCloud_22 : decode cX4_readCloud 22 = .ok (.bipush 8, 2) := by decide +kernel
theorem dX4_readCloud_24 : decode cX4_readCloud 24 = .ok (.invokevirtual 47, 3) := by decide +kernel
theorem dX4_readCloud_27 : decode cX4_readCloud 27 = .ok (.istore 4, 2) := by decide +kernel
theorem dX4_readCloud_29 : decode cX4_readCloud 29 = .ok (.aload_n 0, 1) := by decide +kernel
theorem dX4_readCloud_30 : decode cX4_readCloud 30 = .ok (.bipush 44, 2) := by decide +kernel
theorem dX4_readCloud_32 : decode cX4_readCloud 32 = .ok (.invokevirtual 44, 3) := by decide +kernel
theorem dX4_readCloud_35 : decode cX4_readCloud 35 = .ok (.aload_n 0, 1) := by decide +kernel
theorem dX4_readCloud_36 : decode cX4_readCloud 36 = .ok (.iconst 1, 1) := by decide +kernel
theorem dX4_readCloud_37 : decode cX4_readCloud 37 = .ok (.bipush 60, 2) := by decide +kernel
theorem dX4_readCloud_39 : decode cX4_readCloud 39 = .ok (.invokevirtual 47, 3) := by decide +kernel
theorem dX4_readCloud_42 : decode cX4_readCloud 42 = .ok (.istore 5, 2) := by decide +kernel
theorem dX4_readCloud_44 : decode cX4_readCloud 44 = .ok (.aload_n 0, 1) := by decide +kernel
theorem dX4_readCloud_45 : decode cX4_readCloud 45 = .ok (.bipush 44, 2) := by decide +kernel
theorem dX4_readCloud_47 : decode cX4_readCloud 47 = .ok (.invokevirtual 44, 3) := by decide +kernel
theorem dX4_readCloud_50 : decode cX4_readCloud 50 = .ok (.aload_n 0, 1) := by decide +kernel
theorem dX4_readCloud_51 : decode cX4_readCloud 51 = .ok (.iconst 0, 1) := by decide +kernel
theorem dX4_readCloud_52 : decode cX4_readCloud 52 = .ok (.bipush 9, 2) := by decide +kernel
theorem dX4_readCloud_54 : decode cX4_readCloud 54 = .ok (.invokevirtual 47, 3) := by decide +kernel
theorem dX4_readCloud_57 : decode cX4_readCloud 57 = .ok (.istore 6, 2) := by decide +kernel
theorem dX4_readCloud_59 : decode cX4_readCloud 59 = .ok (.aload_n 0, 1) := by decide +kernel
theorem dX4_readCloud_60 : decode cX4_readCloud 60 = .ok (.bipush 59, 2) := by decide +kernel
theorem dX4_readCloud_62 : decode cX4_readCloud 62 = .ok (.invokevirtual 44, 3) := by decide +kernel
theorem dX4_readCloud_65 : decode cX4_readCloud 65 = .ok (.aload_n 0, 1) := by decide +kernel
theorem dX4_readCloud_66 : decode cX4_readCloud 66 = .ok (.getfield 26, 3) := by decide +kernel
theorem dX4_readCloud_69 : decode cX4_readCloud 69 = .ok (.ifCond .ne 18, 3) := by decide +kernel
theorem dX4_readCloud_72 : decode cX4_readCloud 72 = .ok (.aload_n 0, 1) := by decide +kernel
theorem dX4_readCloud_73 : decode cX4_readCloud 73 = .ok (.getfield 12, 3) := by decide +kernel
theorem dX4_readCloud_76 : decode cX4_readCloud 76 = .ok (.iload_n 2, 1) := by decide +kernel
theorem dX4_readCloud_77 : decode cX4_readCloud 77 = .ok (.iload_n 3, 1) := by decide +kernel
theorem dX4_readCloud_78 : decode cX4_readCloud 78 = .ok (.iload 4, 2) := by decide +kernel
theorem dX4_readCloud_80 : decode cX4_readCloud 80 = .ok (.iload 5, 2) := by decide +kernel
theorem dX4_readCloud_82 : decode cX4_readCloud 82 = .ok (.iload 6, 2) := by decide +kernel
theorem dX4_readCloud_84 : decode cX4_readCloud 84 = .ok (.invokevirtual 61, 3) := by decide +kernel
theorem dX4_readCloud_87 : decode cX4_readCloud 87 = .ok (.return_, 1) := by decide +kernel
theorem dX4_takeSort_0 : decode cX4_takeSort 0 = .ok (.aload_n 0, 1) := by decide +kernel
theorem dX4_takeSort_1 : decode cX4_takeSort 1 = .ok (.getfield 26, 3) := by decide +kernel
theorem dX4_takeSort_4 : decode cX4_takeSort 4 = .ok (.ifCond .eq 5, 3) := by decide +kernel
theorem dX4_takeSort_7 : decode cX4_takeSort 7 = .ok (.iconst 0, 1) := by decide +kernel
theorem dX4_takeSort_8 : decode cX4_takeSort 8 = .ok (.ireturn, 1) := by decide +kernel
theorem dX4_takeSort_9 : decode cX4_takeSort 9 = .ok (.aload_n 0, 1) := by decide +kernel
theorem dX4_takeSort_10 : decode cX4_takeSort 10 = .ok (.getfield 18, 3) := by decide +kernel
theorem dX4_takeSort_13 : decode cX4_takeSort 13 = .ok (.aload_n 0, 1) := by decide +kernel
theorem dX4_takeSort_14 : decode cX4_takeSort 14 = .ok (.getfield 22, 3) := by decide +kernel
theorem dX4_takeSort_17 : decode cX4_takeSort 17 = .ok (.invokevirtual 65, 3) := by decide +kernel
theorem dX4_takeSort_20 : decode cX4_takeSort 20 = .ok (.invokestatic 68, 3) := by decide +kernel
theorem dX4_takeSort_23 : decode cX4_takeSort 23 = .ok (.istore_n 2, 1) := by decide +kernel
theorem dX4_takeSort_24 : decode cX4_takeSort 24 = .ok (.iload_n 2, 1) := by decide +kernel
theorem dX4_takeSort_25 : decode cX4_takeSort 25 = .ok (.ifCond .ne 11, 3) := by decide +kernel
theorem dX4_takeSort_28 : decode cX4_takeSort 28 = .ok (.aload_n 0, 1) := by decide +kernel
theorem dX4_takeSort_29 : decode cX4_takeSort 29 = .ok (.iconst 1, 1) := by decide +kernel
theorem dX4_takeSort_30 : decode cX4_takeSort 30 = .ok (.putfield 26, 3) := by decide +kernel
theorem dX4_takeSort_33 : decode cX4_takeSort 33 = .ok (.goto 26, 3) := by decide +kernel
theorem dX4_takeSort_36 : decode cX4_takeSort 36 = .ok (.iload_n 1, 1) := by decide +kernel
theorem dX4_takeSort_37 : decode cX4_takeSort 37 = .ok (.iconst 5, 1) := by decide +kernel
theorem dX4_takeSort_38 : decode cX4_takeSort 38 = .ok (.if_icmp .lt 11, 3) := by decide +kernel
theorem dX4_takeSort_41 : decode cX4_takeSort 41 = .ok (.aload_n 0, 1) := by decide +kernel
theorem dX4_takeSort_42 : decode cX4_takeSort 42 = .ok (.iconst 3, 1) := by decide +kernel
theorem dX4_takeSort_43 : decode cX4_takeSort 43 = .ok (.putfield 26, 3) := by decide +kernel
theorem dX4_takeSort_46 : decode cX4_takeSort 46 = .ok (.goto 13, 3) := by decide +kernel
theorem dX4_takeSort_49 : decode cX4_takeSort 49 = .ok (.aload_n 0, 1) := by decide +kernel
theorem dX4_takeSort_50 : decode cX4_takeSort 50 = .ok (.dup, 1) := by decide +kernel
theorem dX4_takeSort_51 : decode cX4_takeSort 51 = .ok (.getfield 22, 3) := by decide +kernel
theorem dX4_takeSort_54 : decode cX4_takeSort 54 = .ok (.iconst 1, 1) := by decide +kernel
theorem dX4_takeSort_55 : decode cX4_takeSort 55 = .ok (.iadd, 1) := by decide +kernel
theorem dX4_takeSort_56 : decode cX4_takeSort 56 = .ok (.putfield 22, 3) := by decide +kernel
theorem dX4_takeSort_59 : decode cX4_takeSort 59 = .ok (.iload_n 2, 1) := by decide +kernel
theorem dX4_takeSort_60 : decode cX4_takeSort 60 = .ok (.ireturn, 1) := by decide +kernel
theorem dX4_take_0 : decode cX4_take 0 = .ok (.aload_n 0, 1) := by decide +kernel
theorem dX4_take_1 : decode cX4_take 1 = .ok (.getfield 26, 3) := by decide +kernel
theorem dX4_take_4 : decode cX4_take 4 = .ok (.ifCond .eq 4, 3) := by decide +kernel
theorem dX4_take_7 : decode cX4_take 7 = .ok (.return_, 1) := by decide +kernel
theorem dX4_take_8 : decode cX4_take 8 = .ok (.aload_n 0, 1) := by decide +kernel
theorem dX4_take_9 : decode cX4_take 9 = .ok (.getfield 18, 3) := by decide +kernel
theorem dX4_take_12 : decode cX4_take 12 = .ok (.aload_n 0, 1) := by decide +kernel
theorem dX4_take_13 : decode cX4_take 13 = .ok (.getfield 22, 3) := by decide +kernel
theorem dX4_take_16 : decode cX4_take 16 = .ok (.invokevirtual 65, 3) := by decide +kernel
theorem dX4_take_19 : decode cX4_take 19 = .ok (.iload_n 1, 1) := by decide +kernel
theorem dX4_take_20 : decode cX4_take 20 = .ok (.if_icmp .ne 16, 3) := by decide +kernel
theorem dX4_take_23 : decode cX4_take 23 = .ok (.aload_n 0, 1) := by decide +kernel
theorem dX4_take_24 : decode cX4_take 24 = .ok (.dup, 1) := by decide +kernel
theorem dX4_take_25 : decode cX4_take 25 = .ok (.getfield 22, 3) := by decide +kernel
theorem dX4_take_28 : decode cX4_take 28 = .ok (.iconst 1, 1) := by decide +kernel
theorem dX4_take_29 : decode cX4_take 29 = .ok (.iadd, 1) := by decide +kernel
theorem dX4_take_30 : decode cX4_take 30 = .ok (.putfield 22, 3) := by decide +kernel
theorem dX4_take_33 : decode cX4_take 33 = .ok (.goto 8, 3) := by decide +kernel
theorem dX4_take_36 : decode cX4_take 36 = .ok (.aload_n 0, 1) := by decide +kernel
theorem dX4_take_37 : decode cX4_take 37 = .ok (.iconst 1, 1) := by decide +kernel
theorem dX4_take_38 : decode cX4_take 38 = .ok (.putfield 26, 3) := by decide +kernel
theorem dX4_take_41 : decode cX4_take 41 = .ok (.return_, 1) := by decide +kernel
theorem dX4_takeNumber_0 : decode cX4_takeNumber 0 = .ok (.aload_n 0, 1) := by decide +kernel
theorem dX4_takeNumber_1 : decode cX4_takeNumber 1 = .ok (.getfield 26, 3) := by decide +kernel
theorem dX4_takeNumber_4 : decode cX4_takeNumber 4 = .ok (.ifCond .eq 5, 3) := by decide +kernel
theorem dX4_takeNumber_7 : decode cX4_takeNumber 7 = .ok (.iconst 0, 1) := by decide +kernel
theorem dX4_takeNumber_8 : decode cX4_takeNumber 8 = .ok (.ireturn, 1) := by decide +kernel
theorem dX4_takeNumber_9 : decode cX4_takeNumber 9 = .ok (.iconst 0, 1) := by decide +kernel
theorem dX4_takeNumber_10 : decode cX4_takeNumber 10 = .ok (.istore_n 3, 1) := by decide +kernel
theorem dX4_takeNumber_11 : decode cX4_takeNumber 11 = .ok (.iconst 0, 1) := by decide +kernel
theorem dX4_takeNumber_12 : decode cX4_takeNumber 12 = .ok (.istore 4, 2) := by decide +kernel
theorem dX4_takeNumber_14 : decode cX4_takeNumber 14 = .ok (.iload_n 3, 1) := by decide +kernel
theorem dX4_takeNumber_15 : decode cX4_takeNumber 15 = .ok (.iconst 3, 1) := by decide +kernel
theorem dX4_takeNumber_16 : decode cX4_takeNumber 16 = .ok (.if_icmp .ge 52, 3) := by decide +kernel
theorem dX4_takeNumber_19 : decode cX4_takeNumber 19 = .ok (.aload_n 0, 1) := by decide +kernel
theorem dX4_takeNumber_20 : decode cX4_takeNumber 20 = .ok (.getfield 18, 3) := by decide +kernel
theorem dX4_takeNumber_23 : decode cX4_takeNumber 23 = .ok (.aload_n 0, 1) := by decide +kernel
theorem dX4_takeNumber_24 : decode cX4_takeNumber 24 = .ok (.getfield 22, 3) := by decide +kernel
theorem dX4_takeNumber_27 : decode cX4_takeNumber 27 = .ok (.iload_n 3, 1) := by decide +kernel
theorem dX4_takeNumber_28 : decode cX4_takeNumber 28 = .ok (.iadd, 1) := by decide +kernel
theorem dX4_takeNumber_29 : decode cX4_takeNumber 29 = .ok (.invokevirtual 65, 3) := by decide +kernel
theorem dX4_takeNumber_32 : decode cX4_takeNumber 32 = .ok (.invokestatic 71, 3) := by decide +kernel
theorem dX4_takeNumber_35 : decode cX4_takeNumber 35 = .ok (.ifCond .eq 33, 3) := by decide +kernel
theorem dX4_takeNumber_38 : decode cX4_takeNumber 38 = .ok (.bipush 10, 2) := by decide +kernel
theorem dX4_takeNumber_40 : decode cX4_takeNumber 40 = .ok (.iload 4, 2) := by decide +kernel
theorem dX4_takeNumber_42 : decode cX4_takeNumber 42 = .ok (.imul, 1) := by decide +kernel
theorem dX4_takeNumber_43 : decode cX4_takeNumber 43 = .ok (.aload_n 0, 1) := by decide +kernel
theorem dX4_takeNumber_44 : decode cX4_takeNumber 44 = .ok (.getfield 18, 3) := by decide +kernel
theorem dX4_takeNumber_47 : decode cX4_takeNumber 47 = .ok (.aload_n 0, 1) := by decide +kernel
theorem dX4_takeNumber_48 : decode cX4_takeNumber 48 = .ok (.getfield 22, 3) := by decide +kernel
theorem dX4_takeNumber_51 : decode cX4_takeNumber 51 = .ok (.iload_n 3, 1) := by decide +kernel
theorem dX4_takeNumber_52 : decode cX4_takeNumber 52 = .ok (.iadd, 1) := by decide +kernel
theorem dX4_takeNumber_53 : decode cX4_takeNumber 53 = .ok (.invokevirtual 65, 3) := by decide +kernel
theorem dX4_takeNumber_56 : decode cX4_takeNumber 56 = .ok (.iadd, 1) := by decide +kernel
theorem dX4_takeNumber_57 : decode cX4_takeNumber 57 = .ok (.bipush 48, 2) := by decide +kernel
theorem dX4_takeNumber_59 : decode cX4_takeNumber 59 = .ok (.isub, 1) := by decide +kernel
theorem dX4_takeNumber_60 : decode cX4_takeNumber 60 = .ok (.istore 4, 2) := by decide +kernel
theorem dX4_takeNumber_62 : decode cX4_takeNumber 62 = .ok (.iinc 3 1, 3) := by decide +kernel
theorem dX4_takeNumber_65 : decode cX4_takeNumber 65 = .ok (.goto (-51), 3) := by decide +kernel
theorem dX4_takeNumber_68 : decode cX4_takeNumber 68 = .ok (.iload_n 3, 1) := by decide +kernel
theorem dX4_takeNumber_69 : decode cX4_takeNumber 69 = .ok (.ifCond .eq 8, 3) := by decide +kernel
theorem dX4_takeNumber_72 : decode cX4_takeNumber 72 = .ok (.iload_n 3, 1) := by decide +kernel
theorem dX4_takeNumber_73 : decode cX4_takeNumber 73 = .ok (.iconst 3, 1) := by decide +kernel
theorem dX4_takeNumber_74 : decode cX4_takeNumber 74 = .ok (.if_icmp .ne 11, 3) := by decide +kernel
theorem dX4_takeNumber_77 : decode cX4_takeNumber 77 = .ok (.aload_n 0, 1) := by decide +kernel
theorem dX4_takeNumber_78 : decode cX4_takeNumber 78 = .ok (.iconst 1, 1) := by decide +kernel
theorem dX4_takeNumber_79 : decode cX4_takeNumber 79 = .ok (.putfield 26, 3) := by decide +kernel
theorem dX4_takeNumber_82 : decode cX4_takeNumber 82 = .ok (.goto 31, 3) := by decide +kernel
theorem dX4_takeNumber_85 : decode cX4_takeNumber 85 = .ok (.iload 4, 2) := by decide +kernel
theorem dX4_takeNumber_87 : decode cX4_takeNumber 87 = .ok (.iload_n 1, 1) := by decide +kernel
theorem dX4_takeNumber_88 : decode cX4_takeNumber 88 = .ok (.iload_n 2, 1) := by decide +kernel
theorem dX4_takeNumber_89 : decode cX4_takeNumber 89 = .ok (.invokestatic 75, 3) := by decide +kernel
theorem dX4_takeNumber_92 : decode cX4_takeNumber 92 = .ok (.ifCond .ne 11, 3) := by decide +kernel
theorem dX4_takeNumber_95 : decode cX4_takeNumber 95 = .ok (.aload_n 0, 1) := by decide +kernel
theorem dX4_takeNumber_96 : decode cX4_takeNumber 96 = .ok (.iconst 2, 1) := by decide +kernel
theorem dX4_takeNumber_97 : decode cX4_takeNumber 97 = .ok (.putfield 26, 3) := by decide +kernel
theorem dX4_takeNumber_100 : decode cX4_takeNumber 100 = .ok (.goto 13, 3) := by decide +kernel
theorem dX4_takeNumber_103 : decode cX4_takeNumber 103 = .ok (.aload_n 0, 1) := by decide +kernel
theorem dX4_takeNumber_104 : decode cX4_takeNumber 104 = .ok (.dup, 1) := by decide +kernel
theorem dX4_takeNumber_105 : decode cX4_takeNumber 105 = .ok (.getfield 22, 3) := by decide +kernel
theorem dX4_takeNumber_108 : decode cX4_takeNumber 108 = .ok (.iload_n 3, 1) := by decide +kernel
theorem dX4_takeNumber_109 : decode cX4_takeNumber 109 = .ok (.iadd, 1) := by decide +kernel
theorem dX4_takeNumber_110 : decode cX4_takeNumber 110 = .ok (.putfield 22, 3) := by decide +kernel
theorem dX4_takeNumber_113 : decode cX4_takeNumber 113 = .ok (.iload 4, 2) := by decide +kernel
theorem dX4_takeNumber_115 : decode cX4_takeNumber 115 = .ok (.ireturn, 1) := by decide +kernel
theorem dX4_isFigure_0 : decode cX4_isFigure 0 = .ok (.iload_n 0, 1) := by decide +kernel
theorem dX4_isFigure_1 : decode cX4_isFigure 1 = .ok (.bipush 48, 2) := by decide +kernel
theorem dX4_isFigure_3 : decode cX4_isFigure 3 = .ok (.if_icmp .lt 13, 3) := by decide +kernel
theorem dX4_isFigure_6 : decode cX4_isFigure 6 = .ok (.iload_n 0, 1) := by decide +kernel
theorem dX4_isFigure_7 : decode cX4_isFigure 7 = .ok (.bipush 57, 2) := by decide +kernel
theorem dX4_isFigure_9 : decode cX4_isFigure 9 = .ok (.if_icmp .gt 7, 3) := by decide +kernel
theorem dX4_isFigure_12 : decode cX4_isFigure 12 = .ok (.iconst 1, 1) := by decide +kernel
theorem dX4_isFigure_13 : decode cX4_isFigure 13 = .ok (.goto 4, 3) := by decide +kernel
theorem dX4_isFigure_16 : decode cX4_isFigure 16 = .ok (.iconst 0, 1) := by decide +kernel
theorem dX4_isFigure_17 : decode cX4_isFigure 17 = .ok (.ireturn, 1) := by decide +kernel
theorem dX4_kindOf_0 : decode cX4_kindOf 0 = .ok (.iload_n 0, 1) := by decide +kernel
theorem dX4_kindOf_1 : decode cX4_kindOf 1 = .ok (.tableswitch 77 97 109 #[69, 75, 67, 77, 77, 73, 77, 77, 77, 77, 77, 77, 71], 67) := by decide +kernel
theorem dX4_kindOf_68 : decode cX4_kindOf 68 = .ok (.iconst 1, 1) := by decide +kernel
theorem dX4_kindOf_69 : decode cX4_kindOf 69 = .ok (.ireturn, 1) := by decide +kernel
theorem dX4_kindOf_70 : decode cX4_kindOf 70 = .ok (.iconst 2, 1) := by decide +kernel
theorem dX4_kindOf_71 : decode cX4_kindOf 71 = .ok (.ireturn, 1) := by decide +kernel
theorem dX4_kindOf_72 : decode cX4_kindOf 72 = .ok (.iconst 3, 1) := by decide +kernel
theorem dX4_kindOf_73 : decode cX4_kindOf 73 = .ok (.ireturn, 1) := by decide +kernel
theorem dX4_kindOf_74 : decode cX4_kindOf 74 = .ok (.iconst 4, 1) := by decide +kernel
theorem dX4_kindOf_75 : decode cX4_kindOf 75 = .ok (.ireturn, 1) := by decide +kernel
theorem dX4_kindOf_76 : decode cX4_kindOf 76 = .ok (.iconst 5, 1) := by decide +kernel
theorem dX4_kindOf_77 : decode cX4_kindOf 77 = .ok (.ireturn, 1) := by decide +kernel
theorem dX4_kindOf_78 : decode cX4_kindOf 78 = .ok (.iconst 0, 1) := by decide +kernel
theorem dX4_kindOf_79 : decode cX4_kindOf 79 = .ok (.ireturn, 1) := by decide +kernel
theorem dX5_init_0 : decode cX5_init 0 = .ok (.aload_n 0, 1) := by decide +kernel
theorem dX5_init_1 : decode cX5_init 1 = .ok (.invokespecial 1, 3) := by decide +kernel
theorem dX5_init_4 : decode cX5_init 4 = .ok (.aload_n 0, 1) := by decide +kernel
theorem dX5_init_5 : decode cX5_init 5 = .ok (.bipush 8, 2) := by decide +kernel
theorem dX5_init_7 : decode cX5_init 7 = .ok (.newarray .int, 2) := by decide +kernel
theorem dX5_init_9 : decode cX5_init 9 = .ok (.putfield 9, 3) := by decide +kernel
theorem dX5_init_12 : decode cX5_init 12 = .ok (.aload_n 0, 1) := by decide +kernel
theorem dX5_init_13 : decode cX5_init 13 = .ok (.bipush 8, 2) := by decide +kernel
theorem dX5_init_15 : decode cX5_init 15 = .ok (.newarray .int, 2) := by decide +kernel
theorem dX5_init_17 : decode cX5_init 17 = .ok (.putfield 13, 3) := by decide +kernel
theorem dX5_init_20 : decode cX5_init 20 = .ok (.aload_n 0, 1) := by decide +kernel
theorem dX5_init_21 : decode cX5_init 21 = .ok (.bipush 8, 2) := by decide +kernel
theorem dX5_init_23 : decode cX5_init 23 = .ok (.bipush 40, 2) := by decide +kernel
theorem dX5_init_25 : decode cX5_init 25 = .ok (.multianewarray 16 2, 4) := by decide +kernel
theorem dX5_init_29 : decode cX5_init 29 = .ok (.putfield 18, 3) := by decide +kernel
theorem dX5_init_32 : decode cX5_init 32 = .ok (.iconst 0, 1) := by decide +kernel
theorem dX5_init_33 : decode cX5_init 33 = .ok (.istore_n 1, 1) := by decide +kernel
theorem dX5_init_34 : decode cX5_init 34 = .ok (.iload_n 1, 1) := by decide +kernel
theorem dX5_init_35 : decode cX5_init 35 = .ok (.bipush 8, 2) := by decide +kernel
theorem dX5_init_37 : decode cX5_init 37 = .ok (.if_icmp .ge 16, 3) := by decide +kernel
theorem dX5_init_40 : decode cX5_init 40 = .ok (.aload_n 0, 1) := by decide +kernel
theorem dX5_init_41 : decode cX5_init 41 = .ok (.getfield 9, 3) := by decide +kernel
theorem dX5_init_44 : decode cX5_init 44 = .ok (.iload_n 1, 1) := by decide +kernel
theorem dX5_init_45 : decode cX5_init 45 = .ok (.iconst (-1), 1) := by decide +kernel
theorem dX5_init_46 : decode cX5_init 46 = .ok (.iastore, 1) := by decide +kernel
theorem dX5_init_47 : decode cX5_init 47 = .ok (.iinc 1 1, 3) := by decide +kernel
theorem dX5_init_50 : decode cX5_init 50 = .ok (.goto (-16), 3) := by decide +kernel
theorem dX5_init_53 : decode cX5_init 53 = .ok (.return_, 1) := by decide +kernel
theorem dX5_isRow_0 : decode cX5_isRow 0 = .ok (.iload_n 0, 1) := by decide +kernel
theorem dX5_isRow_1 : decode cX5_isRow 1 = .ok (.ifCond .lt 13, 3) := by decide +kernel
theorem dX5_isRow_4 : decode cX5_isRow 4 = .ok (.iload_n 0, 1) := by decide +kernel
theorem dX5_isRow_5 : decode cX5_isRow 5 = .ok (.bipush 8, 2) := by decide +kernel
theorem dX5_isRow_7 : decode cX5_isRow 7 = .ok (.if_icmp .ge 7, 3) := by decide +kernel
theorem dX5_isRow_10 : decode cX5_isRow 10 = .ok (.iconst 1, 1) := by decide +kernel
theorem dX5_isRow_11 : decode cX5_isRow 11 = .ok (.goto 4, 3) := by decide +kernel
theorem dX5_isRow_14 : decode cX5_isRow 14 = .ok (.iconst 0, 1) := by decide +kernel
theorem dX5_isRow_15 : decode cX5_isRow 15 = .ok (.ireturn, 1) := by decide +kernel
theorem dX5_isMissing_0 : decode cX5_isMissing 0 = .ok (.aload_n 0, 1) := by decide +kernel
theorem dX5_isMissing_1 : decode cX5_isMissing 1 = .ok (.getfield 9, 3) := by decide +kernel
theorem dX5_isMissing_4 : decode cX5_isMissing 4 = .ok (.iload_n 1, 1) := by decide +kernel
theorem dX5_isMissing_5 : decode cX5_isMissing 5 = .ok (.iaload, 1) := by decide +kernel
theorem dX5_isMissing_6 : decode cX5_isMissing 6 = .ok (.iconst (-1), 1) := by decide +kernel
theorem dX5_isMissing_7 : decode cX5_isMissing 7 = .ok (.if_icmp .ne 7, 3) := by decide +kernel
theorem dX5_isMissing_10 : decode cX5_isMissing 10 = .ok (.iconst 1, 1) := by decide +kernel
theorem dX5_isMissing_11 : decode cX5_isMissing 11 = .ok (.goto 4, 3) := by decide +kernel
theorem dX5_isMissing_14 : decode cX5_isMissing 14 = .ok (.iconst 0, 1) := by decide +kernel
theorem dX5_isMissing_15 : decode cX5_isMissing 15 = .ok (.ireturn, 1) := by decide +kernel
theorem dX5_reaches_0 : decode cX5_reaches 0 = .ok (.iload_n 2, 1) := by decide +kernel
theorem dX5_reaches_1 : decode cX5_reaches 1 = .ok (.ifCond .lt 33, 3) := by decide +kernel
theorem dX5_reaches_4 : decode cX5_reaches 4 = .ok (.iload_n 3, 1) := by decide +kernel
theorem dX5_reaches_5 : decode cX5_reaches 5 = .ok (.ifCond .lt 29, 3) := by decide +kernel
theorem dX5_reaches_8 : decode cX5_reaches 8 = .ok (.iload_n 2, 1) := by decide +kernel
theorem dX5_reaches_9 : decode cX5_reaches 9 = .ok (.aload_n 0, 1) := by decide +kernel
theorem dX5_reaches_10 : decode cX5_reaches 10 = .ok (.getfield 13, 3) := by decide +kernel
theorem dX5_reaches_13 : decode cX5_reaches 13 = .ok (.iload_n 1, 1) := by decide +kernel
theorem dX5_reaches_14 : decode cX5_reaches 14 = .ok (.iaload, 1) := by decide +kernel
theorem dX5_reaches_15 : decode cX5_reaches 15 = .ok (.if_icmp .gt 19, 3) := by decide +kernel
theorem dX5_reaches_18 : decode cX5_reaches 18 = .ok (.iload_n 3, 1) := by decide +kernel
theorem dX5_reaches_19 : decode cX5_reaches 19 = .ok (.aload_n 0, 1) := by decide +kernel
theorem dX5_reaches_20 : decode cX5_reaches 20 = .ok (.getfield 13, 3) := by decide +kernel
theorem dX5_reaches_23 : decode cX5_reaches 23 = .ok (.iload_n 1, 1) := by decide +kernel
theorem dX5_reaches_24 : decode cX5_reaches 24 = .ok (.iaload, 1) := by decide +kernel
theorem dX5_reaches_25 : decode cX5_reaches 25 = .ok (.iload_n 2, 1) := by decide +kernel
theorem dX5_reaches_26 : decode cX5_reaches 26 = .ok (.isub, 1) := by decide +kernel
theorem dX5_reaches_27 : decode cX5_reaches 27 = .ok (.if_icmp .gt 7, 3) := by decide +kernel
theorem dX5_reaches_30 : decode cX5_reaches 30 = .ok (.iconst 1, 1) := by decide +kernel
theorem dX5_reaches_31 : decode cX5_reaches 31 = .ok (.goto 4, 3) := by decide +kernel
theorem dX5_reaches_34 : decode cX5_reaches 34 = .ok (.iconst 0, 1) := by decide +kernel
theorem dX5_reaches_35 : decode cX5_reaches 35 = .ok (.ireturn, 1) := by decide +kernel
theorem dX5_make_0 : decode cX5_make 0 = .ok (.aload_n 0, 1) := by decide +kernel
theorem dX5_make_1 : decode cX5_make 1 = .ok (.getfield 9, 3) := by decide +kernel
theorem dX5_make_4 : decode cX5_make 4 = .ok (.iload_n 1, 1) := by decide +kernel
theorem dX5_make_5 : decode cX5_make 5 = .ok (.iload_n 2, 1) := by decide +kernel
theorem dX5_make_6 : decode cX5_make 6 = .ok (.iastore, 1) := by decide +kernel
theorem dX5_make_7 : decode cX5_make 7 = .ok (.aload_n 0, 1) := by decide +kernel
theorem dX5_make_8 : decode cX5_make 8 = .ok (.getfield 13, 3) := by decide +kernel
theorem dX5_make_11 : decode cX5_make 11 = .ok (.iload_n 1, 1) := by decide +kernel
theorem dX5_make_12 : decode cX5_make 12 = .ok (.iload_n 3, 1) := by decide +kernel
theorem dX5_make_13 : decode cX5_make 13 = .ok (.iastore, 1) := by decide +kernel
theorem dX5_make_14 : decode cX5_make 14 = .ok (.iconst 0, 1) := by decide +kernel
theorem dX5_make_15 : decode cX5_make 15 = .ok (.istore 4, 2) := by decide +kernel
theorem dX5_make_17 : decode cX5_make 17 = .ok (.iload 4, 2) := by decide +kernel
theorem dX5_make_19 : decode cX5_make 19 = .ok (.bipush 40, 2) := by decide +kernel
theorem dX5_make_21 : decode cX5_make 21 = .ok (.if_icmp .ge 19, 3) := by decide +kernel
theorem dX5_make_24 : decode cX5_make 24 = .ok (.aload_n 0, 1) := by decide +kernel
theorem dX5_make_25 : decode cX5_make 25 = .ok (.getfield 18, 3) := by decide +kernel
theorem dX5_make_28 : decode cX5_make 28 = .ok (.iload_n 1, 1) := by decide +kernel
theorem dX5_make_29 : decode cX5_make 29 = .ok (.aaload, 1) := by decide +kernel
theorem dX5_make_30 : decode cX5_make 30 = .ok (.iload 4, 2) := by decide +kernel
theorem dX5_make_32 : decode cX5_make 32 = .ok (.iconst 0, 1) := by decide +kernel
theorem dX5_make_33 : decode cX5_make 33 = .ok (.iastore, 1) := by decide +kernel
theorem dX5_make_34 : decode cX5_make 34 = .ok (.iinc 4 1, 3) := by decide +kernel
theorem dX5_make_37 : decode cX5_make 37 = .ok (.goto (-20), 3) := by decide +kernel
theorem dX5_make_40 : decode cX5_make 40 = .ok (.return_, 1) := by decide +kernel
theorem dX5_put_0 : decode cX5_put 0 = .ok (.aload_n 0, 1) := by decide +kernel
theorem dX5_put_1 : decode cX5_put 1 = .ok (.getfield 18, 3) := by decide +kernel
theorem dX5_put_4 : decode cX5_put 4 = .ok (.iload_n 1, 1) := by decide +kernel
theorem dX5_put_5 : decode cX5_put 5 = .ok (.aaload, 1) := by decide +kernel
theorem dX5_put_6 : decode cX5_put 6 = .ok (.iload_n 2, 1) := by decide +kernel
theorem dX5_put_7 : decode cX5_put 7 = .ok (.aload_n 0, 1) := by decide +kernel
theorem dX5_put_8 : decode cX5_put 8 = .ok (.getfield 9, 3) := by decide +kernel
theorem dX5_put_11 : decode cX5_put 11 = .ok (.iload_n 1, 1) := by decide +kernel
theorem dX5_put_12 : decode cX5_put 12 = .ok (.iaload, 1) := by decide +kernel
theorem dX5_put_13 : decode cX5_put 13 = .ok (.iload_n 3, 1) := by decide +kernel
theorem dX5_put_14 : decode cX5_put 14 = .ok (.invokestatic 21, 3) := by decide +kernel
theorem dX5_put_17 : decode cX5_put 17 = .ok (.iastore, 1) := by decide +kernel
theorem dX5_put_18 : decode cX5_put 18 = .ok (.aload_n 0, 1) := by decide +kernel
theorem dX5_put_19 : decode cX5_put 19 = .ok (.getfield 18, 3) := by decide +kernel
theorem dX5_put_22 : decode cX5_put 22 = .ok (.iload_n 1, 1) := by decide +kernel
theorem dX5_put_23 : decode cX5_put 23 = .ok (.aaload, 1) := by decide +kernel
theorem dX5_put_24 : decode cX5_put 24 = .ok (.iload_n 2, 1) := by decide +kernel
theorem dX5_put_25 : decode cX5_put 25 = .ok (.iaload, 1) := by decide +kernel
theorem dX5_put_26 : decode cX5_put 26 = .ok (.ireturn, 1) := by decide +kernel
theorem dX5_item_0 : decode cX5_item 0 = .ok (.aload_n 0, 1) := by decide +kernel
theorem dX5_item_1 : decode cX5_item 1 = .ok (.getfield 18, 3) := by decide +kernel
theorem dX5_item_4 : decode cX5_item 4 = .ok (.iload_n 1, 1) := by decide +kernel
theorem dX5_item_5 : decode cX5_item 5 = .ok (.aaload, 1) := by decide +kernel
theorem dX5_item_6 : decode cX5_item 6 = .ok (.iload_n 2, 1) := by decide +kernel
theorem dX5_item_7 : decode cX5_item 7 = .ok (.iaload, 1) := by decide +kernel
theorem dX5_item_8 : decode cX5_item 8 = .ok (.ireturn, 1) := by decide +kernel
theorem dX5_move_0 : decode cX5_move 0 = .ok (.aload_n 0, 1) := by decide +kernel
theorem dX5_move_1 : decode cX5_move 1 = .ok (.getfield 18, 3) := by decide +kernel
theorem dX5_move_4 : decode cX5_move 4 = .ok (.iload_n 1, 1) := by decide +kernel
theorem dX5_move_5 : decode cX5_move 5 = .ok (.aaload, 1) := by decide +kernel
theorem dX5_move_6 : decode cX5_move 6 = .ok (.iload_n 2, 1) := by decide +kernel
theorem dX5_move_7 : decode cX5_move 7 = .ok (.aload_n 0, 1) := by decide +kernel
theorem dX5_move_8 : decode cX5_move 8 = .ok (.getfield 18, 3) := by decide +kernel
theorem dX5_move_11 : decode cX5_move 11 = .ok (.iload_n 3, 1) := by decide +kernel
theorem dX5_move_12 : decode cX5_move 12 = .ok (.aaload, 1) := by decide +kernel
theorem dX5_move_13 : decode cX5_move 13 = .ok (.iload 4, 2) := by decide +kernel
theorem dX5_move_15 : decode cX5_move 15 = .ok (.iload 5, 2) := by decide +kernel
theorem dX5_move_17 : decode cX5_move 17 = .ok (.invokestatic 25, 3) := by decide +kernel
theorem dX5_move_20 : decode cX5_move 20 = .ok (.return_, 1) := by decide +kernel
theorem dX5_lose_0 : decode cX5_lose 0 = .ok (.aload_n 0, 1) := by decide +kernel
theorem dX5_lose_1 : decode cX5_lose 1 = .ok (.getfield 9, 3) := by decide +kernel
theorem dX5_lose_4 : decode cX5_lose 4 = .ok (.iload_n 1, 1) := by decide +kernel
theorem dX5_lose_5 : decode cX5_lose 5 = .ok (.iconst (-1), 1) := by decide +kernel
theorem dX5_lose_6 : decode cX5_lose 6 = .ok (.iastore, 1) := by decide +kernel
theorem dX5_lose_7 : decode cX5_lose 7 = .ok (.aload_n 0, 1) := by decide +kernel
theorem dX5_lose_8 : decode cX5_lose 8 = .ok (.getfield 13, 3) := by decide +kernel
theorem dX5_lose_11 : decode cX5_lose 11 = .ok (.iload_n 1, 1) := by decide +kernel
theorem dX5_lose_12 : decode cX5_lose 12 = .ok (.iaload, 1) := by decide +kernel
theorem dX5_lose_13 : decode cX5_lose 13 = .ok (.ireturn, 1) := by decide +kernel
theorem dX5_present_0 : decode cX5_present 0 = .ok (.iconst 0, 1) := by decide +kernel
theorem dX5_present_1 : decode cX5_present 1 = .ok (.istore_n 1, 1) := by decide +kernel
theorem dX5_present_2 : decode cX5_present 2 = .ok (.iconst 0, 1) := by decide +kernel
theorem dX5_present_3 : decode cX5_present 3 = .ok (.istore_n 2, 1) := by decide +kernel
theorem dX5_present_4 : decode cX5_present 4 = .ok (.iload_n 2, 1) := by decide +kernel
theorem dX5_present_5 : decode cX5_present 5 = .ok (.bipush 8, 2) := by decide +kernel
theorem dX5_present_7 : decode cX5_present 7 = .ok (.if_icmp .ge 22, 3) := by decide +kernel
theorem dX5_present_10 : decode cX5_present 10 = .ok (.aload_n 0, 1) := by decide +kernel
theorem dX5_present_11 : decode cX5_present 11 = .ok (.getfield 9, 3) := by decide +kernel
theorem dX5_present_14 : decode cX5_present 14 = .ok (.iload_n 2, 1) := by decide +kernel
theorem dX5_present_15 : decode cX5_present 15 = .ok (.iaload, 1) := by decide +kernel
theorem dX5_present_16 : decode cX5_present 16 = .ok (.iconst (-1), 1) := by decide +kernel
theorem dX5_present_17 : decode cX5_present 17 = .ok (.if_icmp .eq 6, 3) := by decide +kernel
theorem dX5_present_20 : decode cX5_present 20 = .ok (.iinc 1 1, 3) := by decide +kernel
theorem dX5_present_23 : decode cX5_present 23 = .ok (.iinc 2 1, 3) := by decide +kernel
theorem dX5_present_26 : decode cX5_present 26 = .ok (.goto (-22), 3) := by decide +kernel
theorem dX5_present_29 : decode cX5_present 29 = .ok (.iload_n 1, 1) := by decide +kernel
theorem dX5_present_30 : decode cX5_present 30 = .ok (.ireturn, 1) := by decide +kernel
theorem dX5_narrowed_0 : decode cX5_narrowed 0 = .ok (.iload_n 0, 1) := by decide +kernel
theorem dX5_narrowed_1 : decode cX5_narrowed 1 = .ok (.ifCond .ne 6, 3) := by decide +kernel
theorem dX5_narrowed_4 : decode cX5_narrowed 4 = .ok (.iload_n 1, 1) := by decide +kernel
theorem dX5_narrowed_5 : decode cX5_narrowed 5 = .ok (.i2b, 1) := by decide +kernel
theorem dX5_narrowed_6 : decode cX5_narrowed 6 = .ok (.ireturn, 1) := by decide +kernel
theorem dX5_narrowed_7 : decode cX5_narrowed 7 = .ok (.iload_n 0, 1) := by decide +kernel
theorem dX5_narrowed_8 : decode cX5_narrowed 8 = .ok (.iconst 1, 1) := by decide +kernel
theorem dX5_narrowed_9 : decode cX5_narrowed 9 = .ok (.if_icmp .ne 8, 3) := by decide +kernel
theorem dX5_narrowed_12 : decode cX5_narrowed 12 = .ok (.iload_n 1, 1) := by decide +kernel
theorem dX5_narrowed_13 : decode cX5_narrowed 13 = .ok (.i2s, 1) := by decide +kernel
theorem dX5_narrowed_14 : decode cX5_narrowed 14 = .ok (.goto 4, 3) := by decide +kernel
theorem dX5_narrowed_17 : decode cX5_narrowed 17 = .ok (.iload_n 1, 1) := by decide +kernel
theorem dX5_narrowed_18 : decode cX5_narrowed 18 = .ok (.ireturn, 1) := by decide +kernel
theorem dX6_init_0 : decode cX6_init 0 = .ok (.aload_n 0, 1) := by decide +kernel
theorem dX6_init_1 : decode cX6_init 1 = .ok (.invokespecial 3, 3) := by decide +kernel
theorem dX6_init_4 : decode cX6_init 4 = .ok (.aload_n 0, 1) := by decide +kernel
theorem dX6_init_5 : decode cX6_init 5 = .ok (.iconst 5, 1) := by decide +kernel
theorem dX6_init_6 : decode cX6_init 6 = .ok (.newarray .int, 2) := by decide +kernel
theorem dX6_init_8 : decode cX6_init 8 = .ok (.putfield 9, 3) := by decide +kernel
theorem dX6_init_11 : decode cX6_init 11 = .ok (.aload_n 0, 1) := by decide +kernel
theorem dX6_init_12 : decode cX6_init 12 = .ok (.iconst 5, 1) := by decide +kernel
theorem dX6_init_13 : decode cX6_init 13 = .ok (.newarray .int, 2) := by decide +kernel
theorem dX6_init_15 : decode cX6_init 15 = .ok (.putfield 15, 3) := by decide +kernel
theorem dX6_init_18 : decode cX6_init 18 = .ok (.aload_n 0, 1) := by decide +kernel
theorem dX6_init_19 : decode cX6_init 19 = .ok (.iconst 5, 1) := by decide +kernel
theorem dX6_init_20 : decode cX6_init 20 = .ok (.newarray .int, 2) := by decide +kernel
theorem dX6_init_22 : decode cX6_init 22 = .ok (.putfield 18, 3) := by decide +kernel
theorem dX6_init_25 : decode cX6_init 25 = .ok (.aload_n 0, 1) := by decide +kernel
theorem dX6_init_26 : decode cX6_init 26 = .ok (.iconst 5, 1) := by decide +kernel
theorem dX6_init_27 : decode cX6_init 27 = .ok (.newarray .int, 2) := by decide +kernel
theorem dX6_init_29 : decode cX6_init 29 = .ok (.putfield 21, 3) := by decide +kernel
theorem dX6_init_32 : decode cX6_init 32 = .ok (.aload_n 0, 1) := by decide +kernel
theorem dX6_init_33 : decode cX6_init 33 = .ok (.iconst 5, 1) := by decide +kernel
theorem dX6_init_34 : decode cX6_init 34 = .ok (.newarray .int, 2) := by decide +kernel
theorem dX6_init_36 : decode cX6_init 36 = .ok (.putfield 24, 3) := by decide +kernel
theorem dX6_init_39 : decode cX6_init 39 = .ok (.aload_n 0, 1) := by decide +kernel
theorem dX6_init_40 : decode cX6_init 40 = .ok (.bipush 16, 2) := by decide +kernel
theorem dX6_init_42 : decode cX6_init 42 = .ok (.newarray .int, 2) := by decide +kernel
theorem dX6_init_44 : decode cX6_init 44 = .ok (.putfield 27, 3) := by decide +kernel
theorem dX6_init_47 : decode cX6_init 47 = .ok (.return_, 1) := by decide +kernel
theorem dX6_become_0 : decode cX6_become 0 = .ok (.aload_n 0, 1) := by decide +kernel
theorem dX6_become_1 : decode cX6_become 1 = .ok (.aload_n 1, 1) := by decide +kernel
theorem dX6_become_2 : decode cX6_become 2 = .ok (.getfield 30, 3) := by decide +kernel
theorem dX6_become_5 : decode cX6_become 5 = .ok (.putfield 30, 3) := by decide +kernel
theorem dX6_become_8 : decode cX6_become 8 = .ok (.aload_n 0, 1) := by decide +kernel
theorem dX6_become_9 : decode cX6_become 9 = .ok (.aload_n 1, 1) := by decide +kernel
theorem dX6_become_10 : decode cX6_become 10 = .ok (.getfield 34, 3) := by decide +kernel
theorem dX6_become_13 : decode cX6_become 13 = .ok (.putfield 34, 3) := by decide +kernel
theorem dX6_become_16 : decode cX6_become 16 = .ok (.aload_n 0, 1) := by decide +kernel
theorem dX6_become_17 : decode cX6_become 17 = .ok (.aload_n 1, 1) := by decide +kernel
theorem dX6_become_18 : decode cX6_become 18 = .ok (.getfield 37, 3) := by decide +kernel
theorem dX6_become_21 : decode cX6_become 21 = .ok (.putfield 37, 3) := by decide +kernel
theorem dX6_become_24 : decode cX6_become 24 = .ok (.aload_n 0, 1) := by decide +kernel
theorem dX6_become_25 : decode cX6_become 25 = .ok (.aload_n 1, 1) := by decide +kernel
theorem dX6_become_26 : decode cX6_become 26 = .ok (.getfield 40, 3) := by decide +kernel
theorem dX6_become_29 : decode cX6_become 29 = .ok (.putfield 40, 3) := by decide +kernel
theorem dX6_become_32 : decode cX6_become 32 = .ok (.aload_n 1, 1) := by decide +kernel
theorem dX6_become_33 : decode cX6_become 33 = .ok (.getfield 9, 3) := by decide +kernel
theorem dX6_become_36 : decode cX6_become 36 = .ok (.iconst 0, 1) := by decide +kernel
theorem dX6_become_37 : decode cX6_become 37 = .ok (.aload_n 0, 1) := by decide +kernel
theorem dX6_become_38 : decode cX6_become 38 = .ok (.getfield 9, 3) := by decide +kernel
theorem dX6_become_41 : decode cX6_become 41 = .ok (.iconst 0, 1) := by decide +kernel
theorem dX6_become_42 : decode cX6_become 42 = .ok (.iconst 5, 1) := by decide +kernel
theorem dX6_become_43 : decode cX6_become 43 = .ok (.invokestatic 43, 3) := by decide +kernel
theorem dX6_become_46 : decode cX6_become 46 = .ok (.aload_n 1, 1) := by decide +kernel
theorem dX6_become_47 : decode cX6_become 47 = .ok (.getfield 15, 3) := by decide +kernel
theorem dX6_become_50 : decode cX6_become 50 = .ok (.iconst 0, 1) := by decide +kernel
theorem dX6_become_51 : decode cX6_become 51 = .ok (.aload_n 0, 1) := by decide +kernel
theorem dX6_become_52 : decode cX6_become 52 = .ok (.getfield 15, 3) := by decide +kernel
theorem dX6_become_55 : decode cX6_become 55 = .ok (.iconst 0, 1) := by decide +kernel
theorem dX6_become_56 : decode cX6_become 56 = .ok (.iconst 5, 1) := by decide +kernel
theorem dX6_become_57 : decode cX6_become 57 = .ok (.invokestatic 43, 3) := by decide +kernel
theorem dX6_become_60 : decode cX6_become 60 = .ok (.aload_n 1, 1) := by decide +kernel
theorem dX6_become_61 : decode cX6_become 61 = .ok (.getfield 18, 3) := by decide +kernel
theorem dX6_become_64 : decode cX6_become 64 = .ok (.iconst 0, 1) := by decide +kernel
theorem dX6_become_65 : decode cX6_become 65 = .ok (.aload_n 0, 1) := by decide +kernel
theorem dX6_become_66 : decode cX6_become 66 = .ok (.getfield 18, 3) := by decide +kernel
theorem dX6_become_69 : decode cX6_become 69 = .ok (.iconst 0, 1) := by decide +kernel
theorem dX6_become_70 : decode cX6_become 70 = .ok (.iconst 5, 1) := by decide +kernel
theorem dX6_become_71 : decode cX6_become 71 = .ok (.invokestatic 43, 3) := by decide +kernel
theorem dX6_become_74 : decode cX6_become 74 = .ok (.aload_n 1, 1) := by decide +kernel
theorem dX6_become_75 : decode cX6_become 75 = .ok (.getfield 21, 3) := by decide +kernel
theorem dX6_become_78 : decode cX6_become 78 = .ok (.iconst 0, 1) := by decide +kernel
theorem dX6_become_79 : decode cX6_become 79 = .ok (.aload_n 0, 1) := by decide +kernel
theorem dX6_become_80 : decode cX6_become 80 = .ok (.getfield 21, 3) := by decide +kernel
theorem dX6_become_83 : decode cX6_become 83 = .ok (.iconst 0, 1) := by decide +kernel
theorem dX6_become_84 : decode cX6_become 84 = .ok (.iconst 5, 1) := by decide +kernel
theorem dX6_become_85 : decode cX6_become 85 = .ok (.invokestatic 43, 3) := by decide +kernel
theorem dX6_become_88 : decode cX6_become 88 = .ok (.aload_n 1, 1) := by decide +kernel
theorem dX6_become_89 : decode cX6_become 89 = .ok (.getfield 24, 3) := by decide +kernel
theorem dX6_become_92 : decode cX6_become 92 = .ok (.iconst 0, 1) := by decide +kernel
theorem dX6_become_93 : decode cX6_become 93 = .ok (.aload_n 0, 1) := by decide +kernel
theorem dX6_become_94 : decode cX6_become 94 = .ok (.getfield 24, 3) := by decide +kernel
theorem dX6_become_97 : decode cX6_become 97 = .ok (.iconst 0, 1) := by decide +kernel
theorem dX6_become_98 : decode cX6_become 98 = .ok (.iconst 5, 1) := by decide +kernel
theorem dX6_become_99 : decode cX6_become 99 = .ok (.invokestatic 43, 3) := by decide +kernel
theorem dX6_become_102 : decode cX6_become 102 = .ok (.aload_n 1, 1) := by decide +kernel
theorem dX6_become_103 : decode cX6_become 103 = .ok (.getfield 27, 3) := by decide +kernel
theorem dX6_become_106 : decode cX6_become 106 = .ok (.iconst 0, 1) := by decide +kernel
theorem dX6_become_107 : decode cX6_become 107 = .ok (.aload_n 0, 1) := by decide +kernel
theorem dX6_become_108 : decode cX6_become 108 = .ok (.getfield 27, 3) := by decide +kernel
theorem dX6_become_111 : decode cX6_become 111 = .ok (.iconst 0, 1) := by decide +kernel
theorem dX6_become_112 : decode cX6_become 112 = .ok (.bipush 16, 2) := by decide +kernel
theorem dX6_become_114 : decode cX6_become 114 = .ok (.invokestatic 43, 3) := by decide +kernel
theorem dX6_become_117 : decode cX6_become 117 = .ok (.return_, 1) := by decide +kernel
theorem dX6_addCloud_0 : decode cX6_addCloud 0 = .ok (.aload_n 0, 1) := by decide +kernel
theorem dX6_addCloud_1 : decode cX6_addCloud 1 = .ok (.getfield 30, 3) := by decide +kernel
theorem dX6_addCloud_4 : decode cX6_addCloud 4 = .ok (.iconst 5, 1) := by decide +kernel
theorem dX6_addCloud_5 : decode cX6_addCloud 5 = .ok (.if_icmp .lt 4, 3) := by decide +kernel
theorem dX6_addCloud_8 : decode cX6_addCloud 8 = .ok (.return_, 1) := by decide +kernel
theorem dX6_addCloud_9 : decode cX6_addCloud 9 = .ok (.aload_n 0, 1) := by decide +kernel
theorem dX6_addCloud_10 : decode cX6_addCloud 10 = .ok (.getfield 9, 3) := by decide +kernel
theorem dX6_addCloud_13 : decode cX6_addCloud 13 = .ok (.aload_n 0, 1) := by decide +kernel
theorem dX6_addCloud_14 : decode cX6_addCloud 14 = .ok (.getfield 30, 3) := by decide +kernel
theorem dX6_addCloud_17 : decode cX6_addCloud 17 = .ok (.iload_n 1, 1) := by decide +kernel
theorem dX6_addCloud_18 : decode cX6_addCloud 18 = .ok (.iastore, 1) := by decide +kernel
theorem dX6_addCloud_19 : decode cX6_addCloud 19 = .ok (.aload_n 0, 1) := by decide +kernel
theorem dX6_addCloud_20 : decode cX6_addCloud 20 = .ok (.getfield 15, 3) := by decide +kernel
theorem dX6_addCloud_23 : decode cX6_addCloud 23 = .ok (.aload_n 0, 1) := by decide +kernel
theorem dX6_addCloud_24 : decode cX6_addCloud 24 = .ok (.getfield 30, 3) := by decide +kernel
theorem dX6_addCloud_27 : decode cX6_addCloud 27 = .ok (.iload_n 2, 1) := by decide +kernel
theorem dX6_addCloud_28 : decode cX6_addCloud 28 = .ok (.iastore, 1) := by decide +kernel
theorem dX6_addCloud_29 : decode cX6_addCloud 29 = .ok (.aload_n 0, 1) := by decide +kernel
theorem dX6_addCloud_30 : decode cX6_addCloud 30 = .ok (.getfield 18, 3) := by decide +kernel
theorem dX6_addCloud_33 : decode cX6_addCloud 33 = .ok (.aload_n 0, 1) := by decide +kernel
theorem dX6_addCloud_34 : decode cX6_addCloud 34 = .ok (.getfield 30, 3) := by decide +kernel
theorem dX6_addCloud_37 : decode cX6_addCloud 37 = .ok (.iload_n 3, 1) := by decide +kernel
theorem dX6_addCloud_38 : decode cX6_addCloud 38 = .ok (.iastore, 1) := by decide +kernel
theorem dX6_addCloud_39 : decode cX6_addCloud 39 = .ok (.aload_n 0, 1) := by decide +kernel
theorem dX6_addCloud_40 : decode cX6_addCloud 40 = .ok (.getfield 21, 3) := by decide +kernel
theorem dX6_addCloud_43 : decode cX6_addCloud 43 = .ok (.aload_n 0, 1) := by decide +kernel
theorem dX6_addCloud_44 : decode cX6_addCloud 44 = .ok (.getfield 30, 3) := by decide +kernel
theorem dX6_addCloud_47 : decode cX6_addCloud 47 = .ok (.iload 4, 2) := by decide +kernel
theorem dX6_addCloud_49 : decode cX6_addCloud 49 = .ok (.iastore, 1) := by decide +kernel
theorem dX6_addCloud_50 : decode cX6_addCloud 50 = .ok (.aload_n 0, 1) := by decide +kernel
theorem dX6_addCloud_51 : decode cX6_addCloud 51 = .ok (.getfield 24, 3) := by decide +kernel
theorem dX6_addCloud_54 : decode cX6_addCloud 54 = .ok (.aload_n 0, 1) := by decide +kernel
theorem dX6_addCloud_55 : decode cX6_addCloud 55 = .ok (.getfield 30, 3) := by decide +kernel
theorem dX6_addCloud_58 : decode cX6_addCloud 58 = .ok (.iload 5, 2) := by decide +kernel
theorem dX6_addCloud_60 : decode cX6_addCloud 60 = .ok (.iastore, 1) := by decide +kernel
theorem dX6_addCloud_61 : decode cX6_addCloud 61 = .ok (.aload_n 0, 1) := by decide +kernel
theorem dX6_addCloud_62 : decode cX6_addCloud 62 = .ok (.dup, 1) := by decide +kernel
theorem dX6_addCloud_63 : decode cX6_addCloud 63 = .ok (.getfield 30, 3) := by decide +kernel
theorem dX6_addCloud_66 : decode cX6_addCloud 66 = .ok (.iconst 1, 1) := by decide +kernel
theorem dX6_addCloud_67 : decode cX6_addCloud 67 = .ok (.iadd, 1) := by decide +kernel
theorem dX6_addCloud_68 : decode cX6_addCloud 68 = .ok (.putfield 30, 3) := by decide +kernel
theorem dX6_addCloud_71 : decode cX6_addCloud 71 = .ok (.return_, 1) := by decide +kernel
theorem dX6_forgetRain_0 : decode cX6_forgetRain 0 = .ok (.iconst 0, 1) := by decide +kernel
theorem dX6_forgetRain_1 : decode cX6_forgetRain 1 = .ok (.istore_n 1, 1) := by decide +kernel
theorem dX6_forgetRain_2 : decode cX6_forgetRain 2 = .ok (.iload_n 1, 1) := by decide +kernel
theorem dX6_forgetRain_3 : decode cX6_forgetRain 3 = .ok (.bipush 16, 2) := by decide +kernel
theorem dX6_forgetRain_5 : decode cX6_forgetRain 5 = .ok (.if_icmp .ge 16, 3) := by decide +kernel
theorem dX6_forgetRain_8 : decode cX6_forgetRain 8 = .ok (.aload_n 0, 1) := by decide +kernel
theorem dX6_forgetRain_9 : decode cX6_forgetRain 9 = .ok (.getfield 27, 3) := by decide +kernel
theorem dX6_forgetRain_12 : decode cX6_forgetRain 12 = .ok (.iload_n 1, 1) := by decide +kernel
theorem dX6_forgetRain_13 : decode cX6_forgetRain 13 = .ok (.iconst 0, 1) := by decide +kernel
theorem dX6_forgetRain_14 : decode cX6_forgetRain 14 = .ok (.iastore, 1) := by decide +kernel
theorem dX6_forgetRain_15 : decode cX6_forgetRain 15 = .ok (.iinc 1 1, 3) := by decide +kernel
theorem dX6_forgetRain_18 : decode cX6_forgetRain 18 = .ok (.goto (-16), 3) := by decide +kernel
theorem dX6_forgetRain_21 : decode cX6_forgetRain 21 = .ok (.return_, 1) := by decide +kernel
theorem dX6_isGone_0 : decode cX6_isGone 0 = .ok (.aload_n 0, 1) := by decide +kernel
theorem dX6_isGone_1 : decode cX6_isGone 1 = .ok (.getfield 21, 3) := by decide +kernel
theorem dX6_isGone_4 : decode cX6_isGone 4 = .ok (.iload_n 1, 1) := by decide +kernel
theorem dX6_isGone_5 : decode cX6_isGone 5 = .ok (.iaload, 1) := by decide +kernel
theorem dX6_isGone_6 : decode cX6_isGone 6 = .ok (.ifCond .ne 7, 3) := by decide +kernel
theorem dX6_isGone_9 : decode cX6_isGone 9 = .ok (.iconst 1, 1) := by decide +kernel
theorem dX6_isGone_10 : decode cX6_isGone 10 = .ok (.goto 4, 3) := by decide +kernel
theorem dX6_isGone_13 : decode cX6_isGone 13 = .ok (.iconst 0, 1) := by decide +kernel
theorem dX6_isGone_14 : decode cX6_isGone 14 = .ok (.ireturn, 1) := by decide +kernel
theorem dX6_alive_0 : decode cX6_alive 0 = .ok (.iconst 0, 1) := by decide +kernel
theorem dX6_alive_1 : decode cX6_alive 1 = .ok (.istore_n 1, 1) := by decide +kernel
theorem dX6_alive_2 : decode cX6_alive 2 = .ok (.iconst 0, 1) := by decide +kernel
theorem dX6_alive_3 : decode cX6_alive 3 = .ok (.istore_n 2, 1) := by decide +kernel
theorem dX6_alive_4 : decode cX6_alive 4 = .ok (.iload_n 2, 1) := by decide +kernel
theorem dX6_alive_5 : decode cX6_alive 5 = .ok (.aload_n 0, 1) := by decide +kernel
theorem dX6_alive_6 : decode cX6_alive 6 = .ok (.getfield 30, 3) := by decide +kernel
theorem dX6_alive_9 : decode cX6_alive 9 = .ok (.if_icmp .ge 23, 3) := by decide +kernel
theorem dX6_alive_12 : decode cX6_alive 12 = .ok (.aload_n 0, 1) := by decide +kernel
theorem dX6_alive_13 : decode cX6_alive 13 = .ok (.iload_n 2, 1) := by decide +kernel
theorem dX6_alive_14 : decode cX6_alive 14 = .ok (.invokevirtual 49, 3) := by decide +kernel
theorem dX6_alive_17 : decode cX6_alive 17 = .ok (.ifCond .ne 9, 3) := by decide +kernel
theorem dX6_alive_20 : decode cX6_alive 20 = .ok (.iload_n 1, 1) := by decide +kernel
theorem dX6_alive_21 : decode cX6_alive 21 = .ok (.iconst 1, 1) := by decide +kernel
theorem dX6_alive_22 : decode cX6_alive 22 = .ok (.iload_n 2, 1) := by decide +kernel
theorem dX6_alive_23 : decode cX6_alive 23 = .ok (.ishl, 1) := by decide +kernel
theorem dX6_alive_24 : decode cX6_alive 24 = .ok (.ior, 1) := by decide +kernel
theorem dX6_alive_25 : decode cX6_alive 25 = .ok (.istore_n 1, 1) := by decide +kernel
theorem dX6_alive_26 : decode cX6_alive 26 = .ok (.iinc 2 1, 3) := by decide +kernel
theorem dX6_alive_29 : decode cX6_alive 29 = .ok (.goto (-25), 3) := by decide +kernel
theorem dX6_alive_32 : decode cX6_alive 32 = .ok (.iload_n 1, 1) := by decide +kernel
theorem dX6_alive_33 : decode cX6_alive 33 = .ok (.ireturn, 1) := by decide +kernel
theorem dX6_speed_0 : decode cX6_speed 0 = .ok (.aload_n 0, 1) := by decide +kernel
theorem dX6_speed_1 : decode cX6_speed 1 = .ok (.getfield 9, 3) := by decide +kernel
theorem dX6_speed_4 : decode cX6_speed 4 = .ok (.iload_n 1, 1) := by decide +kernel
theorem dX6_speed_5 : decode cX6_speed 5 = .ok (.iaload, 1) := by decide +kernel
theorem dX6_speed_6 : decode cX6_speed 6 = .ok (.tableswitch 38 1 3 #[26, 31, 26], 26) := by decide +kernel
theorem dX6_speed_32 : decode cX6_speed 32 = .ok (.aload_n 0, 1) := by decide +kernel
theorem dX6_speed_33 : decode cX6_speed 33 = .ok (.getfield 34, 3) := by decide +kernel
theorem dX6_speed_36 : decode cX6_speed 36 = .ok (.ireturn, 1) := by decide +kernel
theorem dX6_speed_37 : decode cX6_speed 37 = .ok (.aload_n 0, 1) := by decide +kernel
theorem dX6_speed_38 : decode cX6_speed 38 = .ok (.getfield 34, 3) := by decide +kernel
theorem dX6_speed_41 : decode cX6_speed 41 = .ok (.iconst 1, 1) := by decide +kernel
theorem dX6_speed_42 : decode cX6_speed 42 = .ok (.iadd, 1) := by decide +kernel
theorem dX6_speed_43 : decode cX6_speed 43 = .ok (.ireturn, 1) := by decide +kernel
theorem dX6_speed_44 : decode cX6_speed 44 = .ok (.iconst 0, 1) := by decide +kernel
theorem dX6_speed_45 : decode cX6_speed 45 = .ok (.ireturn, 1) := by decide +kernel
theorem dX6_rain_0 : decode cX6_rain 0 = .ok (.aload_n 0, 1) := by decide +kernel
theorem dX6_rain_1 : decode cX6_rain 1 = .ok (.getfield 9, 3) := by decide +kernel
theorem dX6_rain_4 : decode cX6_rain 4 = .ok (.iload_n 1, 1) := by decide +kernel
theorem dX6_rain_5 : decode cX6_rain 5 = .ok (.iaload, 1) := by decide +kernel
theorem dX6_rain_6 : decode cX6_rain 6 = .ok (.tableswitch 45 1 5 #[34, 36, 45, 34, 38], 34) := by decide +kernel
theorem dX6_rain_40 : decode cX6_rain 40 = .ok (.iconst 1, 1) := by decide +kernel
theorem dX6_rain_41 : decode cX6_rain 41 = .ok (.ireturn, 1) := by decide +kernel
theorem dX6_rain_42 : decode cX6_rain 42 = .ok (.iconst 2, 1) := by decide +kernel
theorem dX6_rain_43 : decode cX6_rain 43 = .ok (.ireturn, 1) := by decide +kernel
theorem dX6_rain_44 : decode cX6_rain 44 = .ok (.aload_n 0, 1) := by decide +kernel
theorem dX6_rain_45 : decode cX6_rain 45 = .ok (.getfield 40, 3) := by decide +kernel
theorem dX6_rain_48 : decode cX6_rain 48 = .ok (.iconst 1, 1) := by decide +kernel
theorem dX6_rain_49 : decode cX6_rain 49 = .ok (.iand, 1) := by decide +kernel
theorem dX6_rain_50 : decode cX6_rain 50 = .ok (.ireturn, 1) := by decide +kernel
theorem dX6_rain_51 : decode cX6_rain 51 = .ok (.iconst 0, 1) := by decide +kernel
theorem dX6_rain_52 : decode cX6_rain 52 = .ok (.ireturn, 1) := by decide +kernel
theorem dX6_need_0 : decode cX6_need 0 = .ok (.aload_n 0, 1) := by decide +kernel
theorem dX6_need_1 : decode cX6_need 1 = .ok (.getfield 18, 3) := by decide +kernel
theorem dX6_need_4 : decode cX6_need 4 = .ok (.iload_n 1, 1) := by decide +kernel
theorem dX6_need_5 : decode cX6_need 5 = .ok (.iaload, 1) := by decide +kernel
theorem dX6_need_6 : decode cX6_need 6 = .ok (.aload_n 0, 1) := by decide +kernel
theorem dX6_need_7 : decode cX6_need 7 = .ok (.iload_n 1, 1) := by decide +kernel
theorem dX6_need_8 : decode cX6_need 8 = .ok (.invokevirtual 53, 3) := by decide +kernel
theorem dX6_need_11 : decode cX6_need 11 = .ok (.imul, 1) := by decide +kernel
theorem dX6_need_12 : decode cX6_need 12 = .ok (.ireturn, 1) := by decide +kernel
theorem dX6_reach_0 : decode cX6_reach 0 = .ok (.iconst 1, 1) := by decide +kernel
theorem dX6_reach_1 : decode cX6_reach 1 = .ok (.aload_n 0, 1) := by decide +kernel
theorem dX6_reach_2 : decode cX6_reach 2 = .ok (.getfield 18, 3) := by decide +kernel
theorem dX6_reach_5 : decode cX6_reach 5 = .ok (.iload_n 1, 1) := by decide +kernel
theorem dX6_reach_6 : decode cX6_reach 6 = .ok (.iaload, 1) := by decide +kernel
theorem dX6_reach_7 : decode cX6_reach 7 = .ok (.ishl, 1) := by decide +kernel
theorem dX6_reach_8 : decode cX6_reach 8 = .ok (.iconst 1, 1) := by decide +kernel
theorem dX6_reach_9 : decode cX6_reach 9 = .ok (.isub, 1) := by decide +kernel
theorem dX6_reach_10 : decode cX6_reach 10 = .ok (.aload_n 0, 1) := by decide +kernel
theorem dX6_reach_11 : decode cX6_reach 11 = .ok (.getfield 15, 3) := by decide +kernel
theorem dX6_reach_14 : decode cX6_reach 14 = .ok (.iload_n 1, 1) := by decide +kernel
theorem dX6_reach_15 : decode cX6_reach 15 = .ok (.iaload, 1) := by decide +kernel
theorem dX6_reach_16 : decode cX6_reach 16 = .ok (.invokestatic 57, 3) := by decide +kernel
theorem dX6_reach_19 : decode cX6_reach 19 = .ok (.ireturn, 1) := by decide +kernel
theorem dX6_shade_0 : decode cX6_shade 0 = .ok (.aload_n 0, 1) := by decide +kernel
theorem dX6_shade_1 : decode cX6_shade 1 = .ok (.iload_n 1, 1) := by decide +kernel
theorem dX6_shade_2 : decode cX6_shade 2 = .ok (.invokevirtual 49, 3) := by decide +kernel
theorem dX6_shade_5 : decode cX6_shade 5 = .ok (.ifCond .eq 7, 3) := by decide +kernel
theorem dX6_shade_8 : decode cX6_shade 8 = .ok (.iconst 0, 1) := by decide +kernel
theorem dX6_shade_9 : decode cX6_shade 9 = .ok (.goto 8, 3) := by decide +kernel
theorem dX6_shade_12 : decode cX6_shade 12 = .ok (.aload_n 0, 1) := by decide +kernel
theorem dX6_shade_13 : decode cX6_shade 13 = .ok (.iload_n 1, 1) := by decide +kernel
theorem dX6_shade_14 : decode cX6_shade 14 = .ok (.invokevirtual 61, 3) := by decide +kernel
theorem dX6_shade_17 : decode cX6_shade 17 = .ok (.ireturn, 1) := by decide +kernel
theorem dX6_cloudsOver_0 : decode cX6_cloudsOver 0 = .ok (.iconst 0, 1) := by decide +kernel
theorem dX6_cloudsOver_1 : decode cX6_cloudsOver 1 = .ok (.istore_n 2, 1) := by decide +kernel
theorem dX6_cloudsOver_2 : decode cX6_cloudsOver 2 = .ok (.iconst 0, 1) := by decide +kernel
theorem dX6_cloudsOver_3 : decode cX6_cloudsOver 3 = .ok (.istore_n 3, 1) := by decide +kernel
theorem dX6_cloudsOver_4 : decode cX6_cloudsOver 4 = .ok (.iload_n 3, 1) := by decide +kernel
theorem dX6_cloudsOver_5 : decode cX6_cloudsOver 5 = .ok (.aload_n 0, 1) := by decide +kernel
theorem dX6_cloudsOver_6 : decode cX6_cloudsOver 6 = .ok (.getfield 30, 3) := by decide +kernel
theorem dX6_cloudsOver_9 : decode cX6_cloudsOver 9 = .ok (.if_icmp .ge 27, 3) := by decide +kernel
theorem dX6_cloudsOver_12 : decode cX6_cloudsOver 12 = .ok (.aload_n 0, 1) := by decide +kernel
theorem dX6_cloudsOver_13 : decode cX6_cloudsOver 13 = .ok (.iload_n 3, 1) := by decide +kernel
theorem dX6_cloudsOver_14 : decode cX6_cloudsOver 14 = .ok (.invokevirtual 64, 3) := by decide +kernel
theorem dX6_cloudsOver_17 : decode cX6_cloudsOver 17 = .ok (.iload_n 1, 1) := by decide +kernel
theorem dX6_cloudsOver_18 : decode cX6_cloudsOver 18 = .ok (.ishr, 1) := by decide +kernel
theorem dX6_cloudsOver_19 : decode cX6_cloudsOver 19 = .ok (.iconst 1, 1) := by decide +kernel
theorem dX6_cloudsOver_20 : decode cX6_cloudsOver 20 = .ok (.iand, 1) := by decide +kernel
theorem dX6_cloudsOver_21 : decode cX6_cloudsOver 21 = .ok (.ifCond .eq 9, 3) := by decide +kernel
theorem dX6_cloudsOver_24 : decode cX6_cloudsOver 24 = .ok (.iload_n 2, 1) := by decide +kernel
theorem dX6_cloudsOver_25 : decode cX6_cloudsOver 25 = .ok (.iconst 1, 1) := by decide +kernel
theorem dX6_cloudsOver_26 : decode cX6_cloudsOver 26 = .ok (.iload_n 3, 1) := by decide +kernel
theorem dX6_cloudsOver_27 : decode cX6_cloudsOver 27 = .ok (.ishl, 1) := by decide +kernel
theorem dX6_cloudsOver_28 : decode cX6_cloudsOver 28 = .ok (.ior, 1) := by decide +kernel
theorem dX6_cloudsOver_29 : decode cX6_cloudsOver 29 = .ok (.istore_n 2, 1) := by decide +kernel
theorem dX6_cloudsOver_30 : decode cX6_cloudsOver 30 = .ok (.iinc 3 1, 3) := by decide +kernel
theorem dX6_cloudsOver_33 : decode cX6_cloudsOver 33 = .ok (.goto (-29), 3) := by decide +kernel
theorem dX6_cloudsOver_36 : decode cX6_cloudsOver 36 = .ok (.iload_n 2, 1) := by decide +kernel
theorem dX6_cloudsOver_37 : decode cX6_cloudsOver 37 = .ok (.ireturn, 1) := by decide +kernel
theorem dX6_mend_0 : decode cX6_mend 0 = .ok (.aload_n 0, 1) := by decide +kernel
theorem dX6_mend_1 : decode cX6_mend 1 = .ok (.getfield 21, 3) := by decide +kernel
theorem dX6_mend_4 : decode cX6_mend 4 = .ok (.iload_n 1, 1) := by decide +kernel
theorem dX6_mend_5 : decode cX6_mend 5 = .ok (.aload_n 0, 1) := by decide +kernel
theorem dX6_mend_6 : decode cX6_mend 6 = .ok (.getfield 21, 3) := by decide +kernel
theorem dX6_mend_9 : decode cX6_mend 9 = .ok (.iload_n 1, 1) := by decide +kernel
theorem dX6_mend_10 : decode cX6_mend 10 = .ok (.iaload, 1) := by decide +kernel
theorem dX6_mend_11 : decode cX6_mend 11 = .ok (.aload_n 0, 1) := by decide +kernel
theorem dX6_mend_12 : decode cX6_mend 12 = .ok (.getfield 37, 3) := by decide +kernel
theorem dX6_mend_15 : decode cX6_mend 15 = .ok (.iadd, 1) := by decide +kernel
theorem dX6_mend_16 : decode cX6_mend 16 = .ok (.bipush 99, 2) := by decide +kernel
theorem dX6_mend_18 : decode cX6_mend 18 = .ok (.invokestatic 67, 3) := by decide +kernel
theorem dX6_mend_21 : decode cX6_mend 21 = .ok (.iastore, 1) := by decide +kernel
theorem dX6_mend_22 : decode cX6_mend 22 = .ok (.return_, 1) := by decide +kernel
theorem dX6_passDay_0 : decode cX6_passDay 0 = .ok (.iconst 0, 1) := by decide +kernel
theorem dX6_passDay_1 : decode cX6_passDay 1 = .ok (.istore_n 1, 1) := by decide +kernel
theorem dX6_passDay_2 : decode cX6_passDay 2 = .ok (.iconst 0, 1) := by decide +kernel
theorem dX6_passDay_3 : decode cX6_passDay 3 = .ok (.istore_n 2, 1) := by decide +kernel
theorem dX6_passDay_4 : decode cX6_passDay 4 = .ok (.iload_n 2, 1) := by decide +kernel
theorem dX6_passDay_5 : decode cX6_passDay 5 = .ok (.aload_n 0, 1) := by decide +kernel
theorem dX6_passDay_6 : decode cX6_passDay 6 = .ok (.getfield 30, 3) := by decide +kernel
theorem dX6_passDay_9 : decode cX6_passDay 9 = .ok (.if_icmp .ge 39, 3) := by decide +kernel
theorem dX6_passDay_12 : decode cX6_passDay 12 = .ok (.aload_n 0, 1) := by decide +kernel
theorem dX6_passDay_13 : decode cX6_passDay 13 = .ok (.iload_n 2, 1) := by decide +kernel
theorem dX6_passDay_14 : decode cX6_passDay 14 = .ok (.invokevirtual 72, 3) := by decide +kernel
theorem dX6_passDay_17 : decode cX6_passDay 17 = .ok (.istore_n 3, 1) := by decide +kernel
theorem dX6_passDay_18 : decode cX6_passDay 18 = .ok (.aload_n 0, 1) := by decide +kernel
theorem dX6_passDay_19 : decode cX6_passDay 19 = .ok (.iload_n 2, 1) := by decide +kernel
theorem dX6_passDay_20 : decode cX6_passDay 20 = .ok (.invokevirtual 53, 3) := by decide +kernel
theorem dX6_passDay_23 : decode cX6_passDay 23 = .ok (.istore 4, 2) := by decide +kernel
theorem dX6_passDay_25 : decode cX6_passDay 25 = .ok (.aload_n 0, 1) := by decide +kernel
theorem dX6_passDay_26 : decode cX6_passDay 26 = .ok (.iload_n 3, 1) := by decide +kernel
theorem dX6_passDay_27 : decode cX6_passDay 27 = .ok (.iload 4, 2) := by decide +kernel
theorem dX6_passDay_29 : decode cX6_passDay 29 = .ok (.invokevirtual 75, 3) := by decide +kernel
theorem dX6_passDay_32 : decode cX6_passDay 32 = .ok (.iload_n 1, 1) := by decide +kernel
theorem dX6_passDay_33 : decode cX6_passDay 33 = .ok (.iload_n 3, 1) := by decide +kernel
theorem dX6_passDay_34 : decode cX6_passDay 34 = .ok (.invokestatic 79, 3) := by decide +kernel
theorem dX6_passDay_37 : decode cX6_passDay 37 = .ok (.iload 4, 2) := by decide +kernel
theorem dX6_passDay_39 : decode cX6_passDay 39 = .ok (.imul, 1) := by decide +kernel
theorem dX6_passDay_40 : decode cX6_passDay 40 = .ok (.iadd, 1) := by decide +kernel
theorem dX6_passDay_41 : decode cX6_passDay 41 = .ok (.istore_n 1, 1) := by decide +kernel
theorem dX6_passDay_42 : decode cX6_passDay 42 = .ok (.iinc 2 1, 3) := by decide +kernel
theorem dX6_passDay_45 : decode cX6_passDay 45 = .ok (.goto (-41), 3) := by decide +kernel
theorem dX6_passDay_48 : decode cX6_passDay 48 = .ok (.aload_n 0, 1) := by decide +kernel
theorem dX6_passDay_49 : decode cX6_passDay 49 = .ok (.dup, 1) := by decide +kernel
theorem dX6_passDay_50 : decode cX6_passDay 50 = .ok (.getfield 40, 3) := by decide +kernel
theorem dX6_passDay_53 : decode cX6_passDay 53 = .ok (.iconst 1, 1) := by decide +kernel
theorem dX6_passDay_54 : decode cX6_passDay 54 = .ok (.iadd, 1) := by decide +kernel
theorem dX6_passDay_55 : decode cX6_passDay 55 = .ok (.putfield 40, 3) := by decide +kernel
theorem dX6_passDay_58 : decode cX6_passDay 58 = .ok (.iload_n 1, 1) := by decide +kernel
theorem dX6_passDay_59 : decode cX6_passDay 59 = .ok (.ireturn, 1) := by decide +kernel
theorem dX6_goOn_0 : decode cX6_goOn 0 = .ok (.aload_n 0, 1) := by decide +kernel
theorem dX6_goOn_1 : decode cX6_goOn 1 = .ok (.iload_n 1, 1) := by decide +kernel
theorem dX6_goOn_2 : decode cX6_goOn 2 = .ok (.invokevirtual 49, 3) := by decide +kernel
theorem dX6_goOn_5 : decode cX6_goOn 5 = .ok (.ifCond .eq 5, 3) := by decide +kernel
theorem dX6_goOn_8 : decode cX6_goOn 8 = .ok (.iconst 0, 1) := by decide +kernel
theorem dX6_goOn_9 : decode cX6_goOn 9 = .ok (.ireturn, 1) := by decide +kernel
theorem dX6_goOn_10 : decode cX6_goOn 10 = .ok (.aload_n 0, 1) := by decide +kernel
theorem dX6_goOn_11 : decode cX6_goOn 11 = .ok (.getfield 15, 3) := by decide +kernel
theorem dX6_goOn_14 : decode cX6_goOn 14 = .ok (.iload_n 1, 1) := by decide +kernel
theorem dX6_goOn_15 : decode cX6_goOn 15 = .ok (.aload_n 0, 1) := by decide +kernel
theorem dX6_goOn_16 : decode cX6_goOn 16 = .ok (.getfield 15, 3) := by decide +kernel
theorem dX6_goOn_19 : decode cX6_goOn 19 = .ok (.iload_n 1, 1) := by decide +kernel
theorem dX6_goOn_20 : decode cX6_goOn 20 = .ok (.iaload, 1) := by decide +kernel
theorem dX6_goOn_21 : decode cX6_goOn 21 = .ok (.aload_n 0, 1) := by decide +kernel
theorem dX6_goOn_22 : decode cX6_goOn 22 = .ok (.iload_n 1, 1) := by decide +kernel
theorem dX6_goOn_23 : decode cX6_goOn 23 = .ok (.invokevirtual 84, 3) := by decide +kernel
theorem dX6_goOn_26 : decode cX6_goOn 26 = .ok (.iadd, 1) := by decide +kernel
theorem dX6_goOn_27 : decode cX6_goOn 27 = .ok (.invokestatic 87, 3) := by decide +kernel
theorem dX6_goOn_30 : decode cX6_goOn 30 = .ok (.iastore, 1) := by decide +kernel
theorem dX6_goOn_31 : decode cX6_goOn 31 = .ok (.aload_n 0, 1) := by decide +kernel
theorem dX6_goOn_32 : decode cX6_goOn 32 = .ok (.getfield 9, 3) := by decide +kernel
theorem dX6_goOn_35 : decode cX6_goOn 35 = .ok (.iload_n 1, 1) := by decide +kernel
theorem dX6_goOn_36 : decode cX6_goOn 36 = .ok (.iaload, 1) := by decide +kernel
theorem dX6_goOn_37 : decode cX6_goOn 37 = .ok (.iconst 2, 1) := by decide +kernel
theorem dX6_goOn_38 : decode cX6_goOn 38 = .ok (.if_icmp .ne 31, 3) := by decide +kernel
theorem dX6_goOn_41 : decode cX6_goOn 41 = .ok (.aload_n 0, 1) := by decide +kernel
theorem dX6_goOn_42 : decode cX6_goOn 42 = .ok (.getfield 40, 3) := by decide +kernel
theorem dX6_goOn_45 : decode cX6_goOn 45 = .ok (.iconst 1, 1) := by decide +kernel
theorem dX6_goOn_46 : decode cX6_goOn 46 = .ok (.iand, 1) := by decide +kernel
theorem dX6_goOn_47 : decode cX6_goOn 47 = .ok (.ifCond .ne 22, 3) := by decide +kernel
theorem dX6_goOn_50 : decode cX6_goOn 50 = .ok (.aload_n 0, 1) := by decide +kernel
theorem dX6_goOn_51 : decode cX6_goOn 51 = .ok (.getfield 18, 3) := by decide +kernel
theorem dX6_goOn_54 : decode cX6_goOn 54 = .ok (.iload_n 1, 1) := by decide +kernel
theorem dX6_goOn_55 : decode cX6_goOn 55 = .ok (.aload_n 0, 1) := by decide +kernel
theorem dX6_goOn_56 : decode cX6_goOn 56 = .ok (.getfield 18, 3) := by decide +kernel
theorem dX6_goOn_59 : decode cX6_goOn 59 = .ok (.iload_n 1, 1) := by decide +kernel
theorem dX6_goOn_60 : decode cX6_goOn 60 = .ok (.iaload, 1) := by decide +kernel
theorem dX6_goOn_61 : decode cX6_goOn 61 = .ok (.iconst 1, 1) := by decide +kernel
theorem dX6_goOn_62 : decode cX6_goOn 62 = .ok (.iadd, 1) := by decide +kernel
theorem dX6_goOn_63 : decode cX6_goOn 63 = .ok (.bipush 8, 2) := by decide +kernel
theorem dX6_goOn_65 : decode cX6_goOn 65 = .ok (.invokestatic 67, 3) := by decide +kernel
theorem dX6_goOn_68 : decode cX6_goOn 68 = .ok (.iastore, 1) := by decide +kernel
theorem dX6_goOn_69 : decode cX6_goOn 69 = .ok (.aload_n 0, 1) := by decide +kernel
theorem dX6_goOn_70 : decode cX6_goOn 70 = .ok (.iload_n 1, 1) := by decide +kernel
theorem dX6_goOn_71 : decode cX6_goOn 71 = .ok (.invokevirtual 90, 3) := by decide +kernel
theorem dX6_goOn_74 : decode cX6_goOn 74 = .ok (.istore_n 2, 1) := by decide +kernel
theorem dX6_goOn_75 : decode cX6_goOn 75 = .ok (.iload_n 2, 1) := by decide +kernel
theorem dX6_goOn_76 : decode cX6_goOn 76 = .ok (.ifCond .eq 13, 3) := by decide +kernel
theorem dX6_goOn_79 : decode cX6_goOn 79 = .ok (.aload_n 0, 1) := by decide +kernel
theorem dX6_goOn_80 : decode cX6_goOn 80 = .ok (.getfield 21, 3) := by decide +kernel
theorem dX6_goOn_83 : decode cX6_goOn 83 = .ok (.iload_n 1, 1) := by decide +kernel
theorem dX6_goOn_84 : decode cX6_goOn 84 = .ok (.iaload, 1) := by decide +kernel
theorem dX6_goOn_85 : decode cX6_goOn 85 = .ok (.iload_n 2, 1) := by decide +kernel
theorem dX6_goOn_86 : decode cX6_goOn 86 = .ok (.if_icmp .ge 15, 3) := by decide +kernel
theorem dX6_goOn_89 : decode cX6_goOn 89 = .ok (.aload_n 0, 1) := by decide +kernel
theorem dX6_goOn_90 : decode cX6_goOn 90 = .ok (.getfield 21, 3) := by decide +kernel
theorem dX6_goOn_93 : decode cX6_goOn 93 = .ok (.iload_n 1, 1) := by decide +kernel
theorem dX6_goOn_94 : decode cX6_goOn 94 = .ok (.dup2, 1) := by decide +kernel
theorem dX6_goOn_95 : decode cX6_goOn 95 = .ok (.iaload, 1) := by decide +kernel
theorem dX6_goOn_96 : decode cX6_goOn 96 = .ok (.iconst 1, 1) := by decide +kernel
theorem dX6_goOn_97 : decode cX6_goOn 97 = .ok (.isub, 1) := by decide +kernel
theorem dX6_goOn_98 : decode cX6_goOn 98 = .ok (.iastore, 1) := by decide +kernel
theorem dX6_goOn_99 : decode cX6_goOn 99 = .ok (.iconst 0, 1) := by decide +kernel
theorem dX6_goOn_100 : decode cX6_goOn 100 = .ok (.ireturn, 1) := by decide +kernel
theorem dX6_goOn_101 : decode cX6_goOn 101 = .ok (.aload_n 0, 1) := by decide +kernel
theorem dX6_goOn_102 : decode cX6_goOn 102 = .ok (.getfield 21, 3) := by decide +kernel
theorem dX6_goOn_105 : decode cX6_goOn 105 = .ok (.iload_n 1, 1) := by decide +kernel
theorem dX6_goOn_106 : decode cX6_goOn 106 = .ok (.dup2, 1) := by decide +kernel
theorem dX6_goOn_107 : decode cX6_goOn 107 = .ok (.iaload, 1) := by decide +kernel
theorem dX6_goOn_108 : decode cX6_goOn 108 = .ok (.iload_n 2, 1) := by decide +kernel
theorem dX6_goOn_109 : decode cX6_goOn 109 = .ok (.isub, 1) := by decide +kernel
theorem dX6_goOn_110 : decode cX6_goOn 110 = .ok (.iastore, 1) := by decide +kernel
theorem dX6_goOn_111 : decode cX6_goOn 111 = .ok (.aload_n 0, 1) := by decide +kernel
theorem dX6_goOn_112 : decode cX6_goOn 112 = .ok (.iload_n 1, 1) := by decide +kernel
theorem dX6_goOn_113 : decode cX6_goOn 113 = .ok (.invokevirtual 61, 3) := by decide +kernel
theorem dX6_goOn_116 : decode cX6_goOn 116 = .ok (.ireturn, 1) := by decide +kernel
theorem dX6_rainOn_0 : decode cX6_rainOn 0 = .ok (.iconst 0, 1) := by decide +kernel
theorem dX6_rainOn_1 : decode cX6_rainOn 1 = .ok (.istore_n 3, 1) := by decide +kernel
theorem dX6_rainOn_2 : decode cX6_rainOn 2 = .ok (.iload_n 3, 1) := by decide +kernel
theorem dX6_rainOn_3 : decode cX6_rainOn 3 = .ok (.bipush 16, 2) := by decide +kernel
theorem dX6_rainOn_5 : decode cX6_rainOn 5 = .ok (.if_icmp .ge 27, 3) := by decide +kernel
theorem dX6_rainOn_8 : decode cX6_rainOn 8 = .ok (.iload_n 1, 1) := by decide +kernel
theorem dX6_rainOn_9 : decode cX6_rainOn 9 = .ok (.iload_n 3, 1) := by decide +kernel
theorem dX6_rainOn_10 : decode cX6_rainOn 10 = .ok (.ishr, 1) := by decide +kernel
theorem dX6_rainOn_11 : decode cX6_rainOn 11 = .ok (.iconst 1, 1) := by decide +kernel
theorem dX6_rainOn_12 : decode cX6_rainOn 12 = .ok (.iand, 1) := by decide +kernel
theorem dX6_rainOn_13 : decode cX6_rainOn 13 = .ok (.ifCond .eq 13, 3) := by decide +kernel
theorem dX6_rainOn_16 : decode cX6_rainOn 16 = .ok (.aload_n 0, 1) := by decide +kernel
theorem dX6_rainOn_17 : decode cX6_rainOn 17 = .ok (.getfield 27, 3) := by decide +kernel
theorem dX6_rainOn_20 : decode cX6_rainOn 20 = .ok (.iload_n 3, 1) := by decide +kernel
theorem dX6_rainOn_21 : decode cX6_rainOn 21 = .ok (.dup2, 1) := by decide +kernel
theorem dX6_rainOn_22 : decode cX6_rainOn 22 = .ok (.iaload, 1) := by decide +kernel
theorem dX6_rainOn_23 : decode cX6_rainOn 23 = .ok (.iload_n 2, 1) := by decide +kernel
theorem dX6_rainOn_24 : decode cX6_rainOn 24 = .ok (.iadd, 1) := by decide +kernel
theorem dX6_rainOn_25 : decode cX6_rainOn 25 = .ok (.iastore, 1) := by decide +kernel
theorem dX6_rainOn_26 : decode cX6_rainOn 26 = .ok (.iinc 3 1, 3) := by decide +kernel
theorem dX6_rainOn_29 : decode cX6_rainOn 29 = .ok (.goto (-27), 3) := by decide +kernel
theorem dX6_rainOn_32 : decode cX6_rainOn 32 = .ok (.return_, 1) := by decide +kernel
theorem dX6_fallen_0 : decode cX6_fallen 0 = .ok (.iconst 0, 1) := by decide +kernel
theorem dX6_fallen_1 : decode cX6_fallen 1 = .ok (.istore_n 1, 1) := by decide +kernel
theorem dX6_fallen_2 : decode cX6_fallen 2 = .ok (.iconst 0, 1) := by decide +kernel
theorem dX6_fallen_3 : decode cX6_fallen 3 = .ok (.istore_n 2, 1) := by decide +kernel
theorem dX6_fallen_4 : decode cX6_fallen 4 = .ok (.iload_n 2, 1) := by decide +kernel
theorem dX6_fallen_5 : decode cX6_fallen 5 = .ok (.bipush 16, 2) := by decide +kernel
theorem dX6_fallen_7 : decode cX6_fallen 7 = .ok (.if_icmp .ge 18, 3) := by decide +kernel
theorem dX6_fallen_10 : decode cX6_fallen 10 = .ok (.iload_n 1, 1) := by decide +kernel
theorem dX6_fallen_11 : decode cX6_fallen 11 = .ok (.aload_n 0, 1) := by decide +kernel
theorem dX6_fallen_12 : decode cX6_fallen 12 = .ok (.getfield 27, 3) := by decide +kernel
theorem dX6_fallen_15 : decode cX6_fallen 15 = .ok (.iload_n 2, 1) := by decide +kernel
theorem dX6_fallen_16 : decode cX6_fallen 16 = .ok (.iaload, 1) := by decide +kernel
theorem dX6_fallen_17 : decode cX6_fallen 17 = .ok (.iadd, 1) := by decide +kernel
theorem dX6_fallen_18 : decode cX6_fallen 18 = .ok (.istore_n 1, 1) := by decide +kernel
theorem dX6_fallen_19 : decode cX6_fallen 19 = .ok (.iinc 2 1, 3) := by decide +kernel
theorem dX6_fallen_22 : decode cX6_fallen 22 = .ok (.goto (-18), 3) := by decide +kernel
theorem dX6_fallen_25 : decode cX6_fallen 25 = .ok (.iload_n 1, 1) := by decide +kernel
theorem dX6_fallen_26 : decode cX6_fallen 26 = .ok (.ireturn, 1) := by decide +kernel
theorem dX6_fieldsWithoutRain_0 : decode cX6_fieldsWithoutRain 0 = .ok (.iconst 0, 1) := by decide +kernel
theorem dX6_fieldsWithoutRain_1 : decode cX6_fieldsWithoutRain 1 = .ok (.istore_n 1, 1) := by decide +kernel
theorem dX6_fieldsWithoutRain_2 : decode cX6_fieldsWithoutRain 2 = .ok (.iconst 0, 1) := by decide +kernel
theorem dX6_fieldsWithoutRain_3 : decode cX6_fieldsWithoutRain 3 = .ok (.istore_n 2, 1) := by decide +kernel
theorem dX6_fieldsWithoutRain_4 : decode cX6_fieldsWithoutRain 4 = .ok (.iload_n 2, 1) := by decide +kernel
theorem dX6_fieldsWithoutRain_5 : decode cX6_fieldsWithoutRain 5 = .ok (.bipush 16, 2) := by decide +kernel
theorem dX6_fieldsWithoutRain_7 : decode cX6_fieldsWithoutRain 7 = .ok (.if_icmp .ge 24, 3) := by decide +kernel
theorem dX6_fieldsWithoutRain_10 : decode cX6_fieldsWithoutRain 10 = .ok (.aload_n 0, 1) := by decide +kernel
theorem dX6_fieldsWithoutRain_11 : decode cX6_fieldsWithoutRain 11 = .ok (.getfield 27, 3) := by decide +kernel
theorem dX6_fieldsWithoutRain_14 : decode cX6_fieldsWithoutRain 14 = .ok (.iload_n 2, 1) := by decide +kernel
theorem dX6_fieldsWithoutRain_15 : decode cX6_fieldsWithoutRain 15 = .ok (.iaload, 1) := by decide +kernel
theorem dX6_fieldsWithoutRain_16 : decode cX6_fieldsWithoutRain 16 = .ok (.ifCond .ne 9, 3) := by decide +kernel
theorem dX6_fieldsWithoutRain_19 : decode cX6_fieldsWithoutRain 19 = .ok (.iload_n 1, 1) := by decide +kernel
theorem dX6_fieldsWithoutRain_20 : decode cX6_fieldsWithoutRain 20 = .ok (.iconst 1, 1) := by decide +kernel
theorem dX6_fieldsWithoutRain_21 : decode cX6_fieldsWithoutRain 21 = .ok (.iload_n 2, 1) := by decide +kernel
theorem dX6_fieldsWithoutRain_22 : decode cX6_fieldsWithoutRain 22 = .ok (.ishl, 1) := by decide +kernel
theorem dX6_fieldsWithoutRain_23 : decode cX6_fieldsWithoutRain 23 = .ok (.ior, 1) := by decide +kernel
theorem dX6_fieldsWithoutRain_24 : decode cX6_fieldsWithoutRain 24 = .ok (.istore_n 1, 1) := by decide +kernel
theorem dX6_fieldsWithoutRain_25 : decode cX6_fieldsWithoutRain 25 = .ok (.iinc 2 1, 3) := by decide +kernel
theorem dX6_fieldsWithoutRain_28 : decode cX6_fieldsWithoutRain 28 = .ok (.goto (-24), 3) := by decide +kernel
theorem dX6_fieldsWithoutRain_31 : decode cX6_fieldsWithoutRain 31 = .ok (.iload_n 1, 1) := by decide +kernel
theorem dX6_fieldsWithoutRain_32 : decode cX6_fieldsWithoutRain 32 = .ok (.ireturn, 1) := by decide +kernel
theorem dX6_shaded_0 : decode cX6_shaded 0 = .ok (.iconst 0, 1) := by decide +kernel
theorem dX6_shaded_1 : decode cX6_shaded 1 = .ok (.istore_n 1, 1) := by decide +kernel
theorem dX6_shaded_2 : decode cX6_shaded 2 = .ok (.iconst 0, 1) := by decide +kernel
theorem dX6_shaded_3 : decode cX6_shaded 3 = .ok (.istore_n 2, 1) := by decide +kernel
theorem dX6_shaded_4 : decode cX6_shaded 4 = .ok (.iload_n 2, 1) := by decide +kernel
theorem dX6_shaded_5 : decode cX6_shaded 5 = .ok (.aload_n 0, 1) := by decide +kernel
theorem dX6_shaded_6 : decode cX6_shaded 6 = .ok (.getfield 30, 3) := by decide +kernel
theorem dX6_shaded_9 : decode cX6_shaded 9 = .ok (.if_icmp .ge 17, 3) := by decide +kernel
theorem dX6_shaded_12 : decode cX6_shaded 12 = .ok (.iload_n 1, 1) := by decide +kernel
theorem dX6_shaded_13 : decode cX6_shaded 13 = .ok (.aload_n 0, 1) := by decide +kernel
theorem dX6_shaded_14 : decode cX6_shaded 14 = .ok (.iload_n 2, 1) := by decide +kernel
theorem dX6_shaded_15 : decode cX6_shaded 15 = .ok (.invokevirtual 64, 3) := by decide +kernel
theorem dX6_shaded_18 : decode cX6_shaded 18 = .ok (.ior, 1) := by decide +kernel
theorem dX6_shaded_19 : decode cX6_shaded 19 = .ok (.istore_n 1, 1) := by decide +kernel
theorem dX6_shaded_20 : decode cX6_shaded 20 = .ok (.iinc 2 1, 3) := by decide +kernel
theorem dX6_shaded_23 : decode cX6_shaded 23 = .ok (.goto (-19), 3) := by decide +kernel
theorem dX6_shaded_26 : decode cX6_shaded 26 = .ok (.iload_n 1, 1) := by decide +kernel
theorem dX6_shaded_27 : decode cX6_shaded 27 = .ok (.ireturn, 1) := by decide +kernel
theorem dX6_isPair_0 : decode cX6_isPair 0 = .ok (.aload_n 0, 1) := by decide +kernel
theorem dX6_isPair_1 : decode cX6_isPair 1 = .ok (.iload_n 1, 1) := by decide +kernel
theorem dX6_isPair_2 : decode cX6_isPair 2 = .ok (.invokevirtual 49, 3) := by decide +kernel
theorem dX6_isPair_5 : decode cX6_isPair 5 = .ok (.ifCond .ne 60, 3) := by decide +kernel
theorem dX6_isPair_8 : decode cX6_isPair 8 = .ok (.aload_n 0, 1) := by decide +kernel
theorem dX6_isPair_9 : decode cX6_isPair 9 = .ok (.iload_n 2, 1) := by decide +kernel
theorem dX6_isPair_10 : decode cX6_isPair 10 = .ok (.invokevirtual 49, 3) := by decide +kernel
theorem dX6_isPair_13 : decode cX6_isPair 13 = .ok (.ifCond .ne 52, 3) := by decide +kernel
theorem dX6_isPair_16 : decode cX6_isPair 16 = .ok (.aload_n 0, 1) := by decide +kernel
theorem dX6_isPair_17 : decode cX6_isPair 17 = .ok (.getfield 24, 3) := by decide +kernel
theorem dX6_isPair_20 : decode cX6_isPair 20 = .ok (.iload_n 1, 1) := by decide +kernel
theorem dX6_isPair_21 : decode cX6_isPair 21 = .ok (.iaload, 1) := by decide +kernel
theorem dX6_isPair_22 : decode cX6_isPair 22 = .ok (.aload_n 0, 1) := by decide +kernel
theorem dX6_isPair_23 : decode cX6_isPair 23 = .ok (.getfield 24, 3) := by decide +kernel
theorem dX6_isPair_26 : decode cX6_isPair 26 = .ok (.iload_n 2, 1) := by decide +kernel
theorem dX6_isPair_27 : decode cX6_isPair 27 = .ok (.iaload, 1) := by decide +kernel
theorem dX6_isPair_28 : decode cX6_isPair 28 = .ok (.if_icmp .eq 37, 3) := by decide +kernel
theorem dX6_isPair_31 : decode cX6_isPair 31 = .ok (.aload_n 0, 1) := by decide +kernel
theorem dX6_isPair_32 : decode cX6_isPair 32 = .ok (.getfield 9, 3) := by decide +kernel
theorem dX6_isPair_35 : decode cX6_isPair 35 = .ok (.iload_n 1, 1) := by decide +kernel
theorem dX6_isPair_36 : decode cX6_isPair 36 = .ok (.iaload, 1) := by decide +kernel
theorem dX6_isPair_37 : decode cX6_isPair 37 = .ok (.aload_n 0, 1) := by decide +kernel
theorem dX6_isPair_38 : decode cX6_isPair 38 = .ok (.getfield 9, 3) := by decide +kernel
theorem dX6_isPair_41 : decode cX6_isPair 41 = .ok (.iload_n 2, 1) := by decide +kernel
theorem dX6_isPair_42 : decode cX6_isPair 42 = .ok (.iaload, 1) := by decide +kernel
theorem dX6_isPair_43 : decode cX6_isPair 43 = .ok (.if_icmp .ne 22, 3) := by decide +kernel
theorem dX6_isPair_46 : decode cX6_isPair 46 = .ok (.aload_n 0, 1) := by decide +kernel
theorem dX6_isPair_47 : decode cX6_isPair 47 = .ok (.getfield 18, 3) := by decide +kernel
theorem dX6_isPair_50 : decode cX6_isPair 50 = .ok (.iload_n 1, 1) := by decide +kernel
theorem dX6_isPair_51 : decode cX6_isPair 51 = .ok (.iaload, 1) := by decide +kernel
theorem dX6_isPair_52 : decode cX6_isPair 52 = .ok (.aload_n 0, 1) := by decide +kernel
theorem dX6_isPair_53 : decode cX6_isPair 53 = .ok (.getfield 18, 3) := by decide +kernel
theorem dX6_isPair_56 : decode cX6_isPair 56 = .ok (.iload_n 2, 1) := by decide +kernel
theorem dX6_isPair_57 : decode cX6_isPair 57 = .ok (.iaload, 1) := by decide +kernel
theorem dX6_isPair_58 : decode cX6_isPair 58 = .ok (.if_icmp .ne 7, 3) := by decide +kernel
theorem dX6_isPair_61 : decode cX6_isPair 61 = .ok (.iconst 1, 1) := by decide +kernel
theorem dX6_isPair_62 : decode cX6_isPair 62 = .ok (.goto 4, 3) := by decide +kernel
theorem dX6_isPair_65 : decode cX6_isPair 65 = .ok (.iconst 0, 1) := by decide +kernel
theorem dX6_isPair_66 : decode cX6_isPair 66 = .ok (.ireturn, 1) := by decide +kernel
theorem dX6_alikePairs_0 : decode cX6_alikePairs 0 = .ok (.iconst 0, 1) := by decide +kernel
theorem dX6_alikePairs_1 : decode cX6_alikePairs 1 = .ok (.istore_n 1, 1) := by decide +kernel
theorem dX6_alikePairs_2 : decode cX6_alikePairs 2 = .ok (.iconst 0, 1) := by decide +kernel
theorem dX6_alikePairs_3 : decode cX6_alikePairs 3 = .ok (.istore_n 2, 1) := by decide +kernel
theorem dX6_alikePairs_4 : decode cX6_alikePairs 4 = .ok (.iload_n 2, 1) := by decide +kernel
theorem dX6_alikePairs_5 : decode cX6_alikePairs 5 = .ok (.aload_n 0, 1) := by decide +kernel
theorem dX6_alikePairs_6 : decode cX6_alikePairs 6 = .ok (.getfield 30, 3) := by decide +kernel
theorem dX6_alikePairs_9 : decode cX6_alikePairs 9 = .ok (.if_icmp .ge 39, 3) := by decide +kernel
theorem dX6_alikePairs_12 : decode cX6_alikePairs 12 = .ok (.iload_n 2, 1) := by decide +kernel
theorem dX6_alikePairs_13 : decode cX6_alikePairs 13 = .ok (.iconst 1, 1) := by decide +kernel
theorem dX6_alikePairs_14 : decode cX6_alikePairs 14 = .ok (.iadd, 1) := by decide +kernel
theorem dX6_alikePairs_15 : decode cX6_alikePairs 15 = .ok (.istore_n 3, 1) := by decide +kernel
theorem dX6_alikePairs_16 : decode cX6_alikePairs 16 = .ok (.iload_n 3, 1) := by decide +kernel
theorem dX6_alikePairs_17 : decode cX6_alikePairs 17 = .ok (.aload_n 0, 1) := by decide +kernel
theorem dX6_alikePairs_18 : decode cX6_alikePairs 18 = .ok (.getfield 30, 3) := by decide +kernel
theorem dX6_alikePairs_21 : decode cX6_alikePairs 21 = .ok (.if_icmp .ge 21, 3) := by decide +kernel
theorem dX6_alikePairs_24 : decode cX6_alikePairs 24 = .ok (.aload_n 0, 1) := by decide +kernel
theorem dX6_alikePairs_25 : decode cX6_alikePairs 25 = .ok (.iload_n 2, 1) := by decide +kernel
theorem dX6_alikePairs_26 : decode cX6_alikePairs 26 = .ok (.iload_n 3, 1) := by decide +kernel
theorem dX6_alikePairs_27 : decode cX6_alikePairs 27 = .ok (.invokevirtual 93, 3) := by decide +kernel
theorem dX6_alikePairs_30 : decode cX6_alikePairs 30 = .ok (.ifCond .eq 6, 3) := by decide +kernel
theorem dX6_alikePairs_33 : decode cX6_alikePairs 33 = .ok (.iinc 1 1, 3) := by decide +kernel
theorem dX6_alikePairs_36 : decode cX6_alikePairs 36 = .ok (.iinc 3 1, 3) := by decide +kernel
theorem dX6_alikePairs_39 : decode cX6_alikePairs 39 = .ok (.goto (-23), 3) := by decide +kernel
theorem dX6_alikePairs_42 : decode cX6_alikePairs 42 = .ok (.iinc 2 1, 3) := by decide +kernel
theorem dX6_alikePairs_45 : decode cX6_alikePairs 45 = .ok (.goto (-41), 3) := by decide +kernel
theorem dX6_alikePairs_48 : decode cX6_alikePairs 48 = .ok (.iload_n 1, 1) := by decide +kernel
theorem dX6_alikePairs_49 : decode cX6_alikePairs 49 = .ok (.ireturn, 1) := by decide +kernel
theorem dX6_firstAlikePair_0 : decode cX6_firstAlikePair 0 = .ok (.iconst 0, 1) := by decide +kernel
theorem dX6_firstAlikePair_1 : decode cX6_firstAlikePair 1 = .ok (.istore_n 1, 1) := by decide +kernel
theorem dX6_firstAlikePair_2 : decode cX6_firstAlikePair 2 = .ok (.iload_n 1, 1) := by decide +kernel
theorem dX6_firstAlikePair_3 : decode cX6_firstAlikePair 3 = .ok (.aload_n 0, 1) := by decide +kernel
theorem dX6_firstAlikePair_4 : decode cX6_firstAlikePair 4 = .ok (.getfield 30, 3) := by decide +kernel
theorem dX6_firstAlikePair_7 : decode cX6_firstAlikePair 7 = .ok (.if_icmp .ge 43, 3) := by decide +kernel
theorem dX6_firstAlikePair_10 : decode cX6_firstAlikePair 10 = .ok (.iload_n 1, 1) := by decide +kernel
theorem dX6_firstAlikePair_11 : decode cX6_firstAlikePair 11 = .ok (.iconst 1, 1) := by decide +kernel
theorem dX6_firstAlikePair_12 : decode cX6_firstAlikePair 12 = .ok (.iadd, 1) := by decide +kernel
theorem dX6_firstAlikePair_13 : decode cX6_firstAlikePair 13 = .ok (.istore_n 2, 1) := by decide +kernel
theorem dX6_firstAlikePair_14 : decode cX6_firstAlikePair 14 = .ok (.iload_n 2, 1) := by decide +kernel
theorem dX6_firstAlikePair_15 : decode cX6_firstAlikePair 15 = .ok (.aload_n 0, 1) := by decide +kernel
theorem dX6_firstAlikePair_16 : decode cX6_firstAlikePair 16 = .ok (.getfield 30, 3) := by decide +kernel
theorem dX6_firstAlikePair_19 : decode cX6_firstAlikePair 19 = .ok (.if_icmp .ge 25, 3) := by decide +kernel
theorem dX6_firstAlikePair_22 : decode cX6_firstAlikePair 22 = .ok (.aload_n 0, 1) := by decide +kernel
theorem dX6_firstAlikePair_23 : decode cX6_firstAlikePair 23 = .ok (.iload_n 1, 1) := by decide +kernel
theorem dX6_firstAlikePair_24 : decode cX6_firstAlikePair 24 = .ok (.iload_n 2, 1) := by decide +kernel
theorem dX6_firstAlikePair_25 : decode cX6_firstAlikePair 25 = .ok (.invokevirtual 93, 3) := by decide +kernel
theorem dX6_firstAlikePair_28 : decode cX6_firstAlikePair 28 = .ok (.ifCond .eq 10, 3) := by decide +kernel
theorem dX6_firstAlikePair_31 : decode cX6_firstAlikePair 31 = .ok (.bipush 10, 2) := by decide +kernel
theorem dX6_firstAlikePair_33 : decode cX6_firstAlikePair 33 = .ok (.iload_n 1, 1) := by decide +kernel
theorem dX6_firstAlikePair_34 : decode cX6_firstAlikePair 34 = .ok (.imul, 1) := by decide +kernel
theorem dX6_firstAlikePair_35 : decode cX6_firstAlikePair 35 = .ok (.iload_n 2, 1) := by decide +kernel
theorem dX6_firstAlikePair_36 : decode cX6_firstAlikePair 36 = .ok (.iadd, 1) := by decide +kernel
theorem dX6_firstAlikePair_37 : decode cX6_firstAlikePair 37 = .ok (.ireturn, 1) := by decide +kernel
theorem dX6_firstAlikePair_38 : decode cX6_firstAlikePair 38 = .ok (.iinc 2 1, 3) := by decide +kernel
theorem dX6_firstAlikePair_41 : decode cX6_firstAlikePair 41 = .ok (.goto (-27), 3) := by decide +kernel
theorem dX6_firstAlikePair_44 : decode cX6_firstAlikePair 44 = .ok (.iinc 1 1, 3) := by decide +kernel
theorem dX6_firstAlikePair_47 : decode cX6_firstAlikePair 47 = .ok (.goto (-45), 3) := by decide +kernel
theorem dX6_firstAlikePair_50 : decode cX6_firstAlikePair 50 = .ok (.ldc 97, 2) := by decide +kernel
theorem dX6_firstAlikePair_52 : decode cX6_firstAlikePair 52 = .ok (.ireturn, 1) := by decide +kernel
theorem dX6_wetOf_0 : decode cX6_wetOf 0 = .ok (.iconst 0, 1) := by decide +kernel
theorem dX6_wetOf_1 : decode cX6_wetOf 1 = .ok (.istore_n 2, 1) := by decide +kernel
theorem dX6_wetOf_2 : decode cX6_wetOf 2 = .ok (.iconst 0, 1) := by decide +kernel
theorem dX6_wetOf_3 : decode cX6_wetOf 3 = .ok (.istore_n 3, 1) := by decide +kernel
theorem dX6_wetOf_4 : decode cX6_wetOf 4 = .ok (.iload_n 3, 1) := by decide +kernel
theorem dX6_wetOf_5 : decode cX6_wetOf 5 = .ok (.aload_n 0, 1) := by decide +kernel
theorem dX6_wetOf_6 : decode cX6_wetOf 6 = .ok (.getfield 30, 3) := by decide +kernel
theorem dX6_wetOf_9 : decode cX6_wetOf 9 = .ok (.if_icmp .ge 28, 3) := by decide +kernel
theorem dX6_wetOf_12 : decode cX6_wetOf 12 = .ok (.aload_n 0, 1) := by decide +kernel
theorem dX6_wetOf_13 : decode cX6_wetOf 13 = .ok (.getfield 24, 3) := by decide +kernel
theorem dX6_wetOf_16 : decode cX6_wetOf 16 = .ok (.iload_n 3, 1) := by decide +kernel
theorem dX6_wetOf_17 : decode cX6_wetOf 17 = .ok (.iaload, 1) := by decide +kernel
theorem dX6_wetOf_18 : decode cX6_wetOf 18 = .ok (.iload_n 1, 1) := by decide +kernel
theorem dX6_wetOf_19 : decode cX6_wetOf 19 = .ok (.if_icmp .ne 12, 3) := by decide +kernel
theorem dX6_wetOf_22 : decode cX6_wetOf 22 = .ok (.iload_n 2, 1) := by decide +kernel
theorem dX6_wetOf_23 : decode cX6_wetOf 23 = .ok (.aload_n 0, 1) := by decide +kernel
theorem dX6_wetOf_24 : decode cX6_wetOf 24 = .ok (.getfield 21, 3) := by decide +kernel
theorem dX6_wetOf_27 : decode cX6_wetOf 27 = .ok (.iload_n 3, 1) := by decide +kernel
theorem dX6_wetOf_28 : decode cX6_wetOf 28 = .ok (.iaload, 1) := by decide +kernel
theorem dX6_wetOf_29 : decode cX6_wetOf 29 = .ok (.iadd, 1) := by decide +kernel
theorem dX6_wetOf_30 : decode cX6_wetOf 30 = .ok (.istore_n 2, 1) := by decide +kernel
theorem dX6_wetOf_31 : decode cX6_wetOf 31 = .ok (.iinc 3 1, 3) := by decide +kernel
theorem dX6_wetOf_34 : decode cX6_wetOf 34 = .ok (.goto (-30), 3) := by decide +kernel
theorem dX6_wetOf_37 : decode cX6_wetOf 37 = .ok (.iload_n 2, 1) := by decide +kernel
theorem dX6_wetOf_38 : decode cX6_wetOf 38 = .ok (.ireturn, 1) := by decide +kernel
theorem dX7_init_0 : decode cX7_init 0 = .ok (.aload_n 0, 1) := by decide +kernel
theorem dX7_init_1 : decode cX7_init 1 = .ok (.invokespecial 1, 3) := by decide +kernel
theorem dX7_init_4 : decode cX7_init 4 = .ok (.aload_n 0, 1) := by decide +kernel
theorem dX7_init_5 : decode cX7_init 5 = .ok (.bipush 100, 2) := by decide +kernel
theorem dX7_init_7 : decode cX7_init 7 = .ok (.newarray .int, 2) := by decide +kernel
theorem dX7_init_9 : decode cX7_init 9 = .ok (.putfield 9, 3) := by decide +kernel
theorem dX7_init_12 : decode cX7_init 12 = .ok (.return_, 1) := by decide +kernel
theorem dX7_isFull_0 : decode cX7_isFull 0 = .ok (.aload_n 0, 1) := by decide +kernel
theorem dX7_isFull_1 : decode cX7_isFull 1 = .ok (.getfield 13, 3) := by decide +kernel
theorem dX7_isFull_4 : decode cX7_isFull 4 = .ok (.bipush 100, 2) := by decide +kernel
theorem dX7_isFull_6 : decode cX7_isFull 6 = .ok (.if_icmp .lt 7, 3) := by decide +kernel
theorem dX7_isFull_9 : decode cX7_isFull 9 = .ok (.iconst 1, 1) := by decide +kernel
theorem dX7_isFull_10 : decode cX7_isFull 10 = .ok (.goto 4, 3) := by decide +kernel
theorem dX7_isFull_13 : decode cX7_isFull 13 = .ok (.iconst 0, 1) := by decide +kernel
theorem dX7_isFull_14 : decode cX7_isFull 14 = .ok (.ireturn, 1) := by decide +kernel
theorem dX7_add_0 : decode cX7_add 0 = .ok (.aload_n 0, 1) := by decide +kernel
theorem dX7_add_1 : decode cX7_add 1 = .ok (.getfield 9, 3) := by decide +kernel
theorem dX7_add_4 : decode cX7_add 4 = .ok (.aload_n 0, 1) := by decide +kernel
theorem dX7_add_5 : decode cX7_add 5 = .ok (.getfield 13, 3) := by decide +kernel
theorem dX7_add_8 : decode cX7_add 8 = .ok (.iload_n 1, 1) := by decide +kernel
theorem dX7_add_9 : decode cX7_add 9 = .ok (.iastore, 1) := by decide +kernel
theorem dX7_add_10 : decode cX7_add 10 = .ok (.aload_n 0, 1) := by decide +kernel
theorem dX7_add_11 : decode cX7_add 11 = .ok (.dup, 1) := by decide +kernel
theorem dX7_add_12 : decode cX7_add 12 = .ok (.getfield 13, 3) := by decide +kernel
theorem dX7_add_15 : decode cX7_add 15 = .ok (.iconst 1, 1) := by decide +kernel
theorem dX7_add_16 : decode cX7_add 16 = .ok (.iadd, 1) := by decide +kernel
theorem dX7_add_17 : decode cX7_add 17 = .ok (.putfield 13, 3) := by decide +kernel
theorem dX7_add_20 : decode cX7_add 20 = .ok (.aload_n 0, 1) := by decide +kernel
theorem dX7_add_21 : decode cX7_add 21 = .ok (.getfield 13, 3) := by decide +kernel
theorem dX7_add_24 : decode cX7_add 24 = .ok (.ireturn, 1) := by decide +kernel
theorem dX7_letter_0 : decode cX7_letter 0 = .ok (.iload_n 1, 1) := by decide +kernel
theorem dX7_letter_1 : decode cX7_letter 1 = .ok (.ifCond .lt 20, 3) := by decide +kernel
theorem dX7_letter_4 : decode cX7_letter 4 = .ok (.iload_n 1, 1) := by decide +kernel
theorem dX7_letter_5 : decode cX7_letter 5 = .ok (.aload_n 0, 1) := by decide +kernel
theorem dX7_letter_6 : decode cX7_letter 6 = .ok (.getfield 13, 3) := by decide +kernel
theorem dX7_letter_9 : decode cX7_letter 9 = .ok (.if_icmp .ge 12, 3) := by decide +kernel
theorem dX7_letter_12 : decode cX7_letter 12 = .ok (.aload_n 0, 1) := by decide +kernel
theorem dX7_letter_13 : decode cX7_letter 13 = .ok (.getfield 9, 3) := by decide +kernel
theorem dX7_letter_16 : decode cX7_letter 16 = .ok (.iload_n 1, 1) := by decide +kernel
theorem dX7_letter_17 : decode cX7_letter 17 = .ok (.iaload, 1) := by decide +kernel
theorem dX7_letter_18 : decode cX7_letter 18 = .ok (.goto 4, 3) := by decide +kernel
theorem dX7_letter_21 : decode cX7_letter 21 = .ok (.iconst (-1), 1) := by decide +kernel
theorem dX7_letter_22 : decode cX7_letter 22 = .ok (.ireturn, 1) := by decide +kernel
theorem dX8_init_0 : decode cX8_init 0 = .ok (.aload_n 0, 1) := by decide +kernel
theorem dX8_init_1 : decode cX8_init 1 = .ok (.invokespecial 3, 3) := by decide +kernel
theorem dX8_init_4 : decode cX8_init 4 = .ok (.aload_n 0, 1) := by decide +kernel
theorem dX8_init_5 : decode cX8_init 5 = .ok (.iconst 5, 1) := by decide +kernel
theorem dX8_init_6 : decode cX8_init 6 = .ok (.newarray .int, 2) := by decide +kernel
theorem dX8_init_8 : decode cX8_init 8 = .ok (.putfield 9, 3) := by decide +kernel
theorem dX8_init_11 : decode cX8_init 11 = .ok (.aload_n 0, 1) := by decide +kernel
theorem dX8_init_12 : decode cX8_init 12 = .ok (.new 15, 3) := by decide +kernel
theorem dX8_init_15 : decode cX8_init 15 = .ok (.dup, 1) := by decide +kernel
theorem dX8_init_16 : decode cX8_init 16 = .ok (.invokespecial 17, 3) := by decide +kernel
theorem dX8_init_19 : decode cX8_init 19 = .ok (.putfield 18, 3) := by decide +kernel
theorem dX8_init_22 : decode cX8_init 22 = .ok (.aload_n 0, 1) := by decide +kernel
theorem dX8_init_23 : decode cX8_init 23 = .ok (.iconst 5, 1) := by decide +kernel
theorem dX8_init_24 : decode cX8_init 24 = .ok (.newarray .int, 2) := by decide +kernel
theorem dX8_init_26 : decode cX8_init 26 = .ok (.putfield 22, 3) := by decide +kernel
theorem dX8_init_29 : decode cX8_init 29 = .ok (.aload_n 0, 1) := by decide +kernel
theorem dX8_init_30 : decode cX8_init 30 = .ok (.iconst 5, 1) := by decide +kernel
theorem dX8_init_31 : decode cX8_init 31 = .ok (.newarray .int, 2) := by decide +kernel
theorem dX8_init_33 : decode cX8_init 33 = .ok (.putfield 25, 3) := by decide +kernel
theorem dX8_init_36 : decode cX8_init 36 = .ok (.aload_n 0, 1) := by decide +kernel
theorem dX8_init_37 : decode cX8_init 37 = .ok (.aload_n 1, 1) := by decide +kernel
theorem dX8_init_38 : decode cX8_init 38 = .ok (.putfield 28, 3) := by decide +kernel
theorem dX8_init_41 : decode cX8_init 41 = .ok (.return_, 1) := by decide +kernel
theorem dX8_find_0 : decode cX8_find 0 = .ok (.aload_n 0, 1) := by decide +kernel
theorem dX8_find_1 : decode cX8_find 1 = .ok (.iload_n 1, 1) := by decide +kernel
theorem dX8_find_2 : decode cX8_find 2 = .ok (.putfield 31, 3) := by decide +kernel
theorem dX8_find_5 : decode cX8_find 5 = .ok (.aload_n 0, 1) := by decide +kernel
theorem dX8_find_6 : decode cX8_find 6 = .ok (.iload_n 2, 1) := by decide +kernel
theorem dX8_find_7 : decode cX8_find 7 = .ok (.invokevirtual 35, 3) := by decide +kernel
theorem dX8_find_10 : decode cX8_find 10 = .ok (.bipush 16, 2) := by decide +kernel
theorem dX8_find_12 : decode cX8_find 12 = .ok (.istore_n 3, 1) := by decide +kernel
theorem dX8_find_13 : decode cX8_find 13 = .ok (.aload_n 0, 1) := by decide +kernel
theorem dX8_find_14 : decode cX8_find 14 = .ok (.iload_n 3, 1) := by decide +kernel
theorem dX8_find_15 : decode cX8_find 15 = .ok (.putfield 39, 3) := by decide +kernel
theorem dX8_find_18 : decode cX8_find 18 = .ok (.aload_n 0, 1) := by decide +kernel
theorem dX8_find_19 : decode cX8_find 19 = .ok (.iconst 0, 1) := by decide +kernel
theorem dX8_find_20 : decode cX8_find 20 = .ok (.iconst 0, 1) := by decide +kernel
theorem dX8_find_21 : decode cX8_find 21 = .ok (.iconst 0, 1) := by decide +kernel
theorem dX8_find_22 : decode cX8_find 22 = .ok (.invokevirtual 42, 3) := by decide +kernel
theorem dX8_find_25 : decode cX8_find 25 = .ok (.aload_n 0, 1) := by decide +kernel
theorem dX8_find_26 : decode cX8_find 26 = .ok (.getfield 39, 3) := by decide +kernel
theorem dX8_find_29 : decode cX8_find 29 = .ok (.iload_n 3, 1) := by decide +kernel
theorem dX8_find_30 : decode cX8_find 30 = .ok (.if_icmp .ge 7, 3) := by decide +kernel
theorem dX8_find_33 : decode cX8_find 33 = .ok (.iconst 1, 1) := by decide +kernel
theorem dX8_find_34 : decode cX8_find 34 = .ok (.goto 4, 3) := by decide +kernel
theorem dX8_find_37 : decode cX8_find 37 = .ok (.iconst 0, 1) := by decide +kernel
theorem dX8_find_38 : decode cX8_find 38 = .ok (.ireturn, 1) := by decide +kernel
theorem dX8_findWetted_0 : decode cX8_findWetted 0 = .ok (.aload_n 0, 1) := by decide +kernel
theorem dX8_findWetted_1 : decode cX8_findWetted 1 = .ok (.getfield 18, 3) := by decide +kernel
theorem dX8_findWetted_4 : decode cX8_findWetted 4 = .ok (.aload_n 0, 1) := by decide +kernel
theorem dX8_findWetted_5 : decode cX8_findWetted 5 = .ok (.getfield 28, 3) := by decide +kernel
theorem dX8_findWetted_8 : decode cX8_findWetted 8 = .ok (.invokevirtual 46, 3) := by decide +kernel
theorem dX8_findWetted_11 : decode cX8_findWetted 11 = .ok (.iconst 0, 1) := by decide +kernel
theorem dX8_findWetted_12 : decode cX8_findWetted 12 = .ok (.istore_n 2, 1) := by decide +kernel
theorem dX8_findWetted_13 : decode cX8_findWetted 13 = .ok (.iload_n 2, 1) := by decide +kernel
theorem dX8_findWetted_14 : decode cX8_findWetted 14 = .ok (.iconst 5, 1) := by decide +kernel
theorem dX8_findWetted_15 : decode cX8_findWetted 15 = .ok (.if_icmp .ge 16, 3) := by decide +kernel
theorem dX8_findWetted_18 : decode cX8_findWetted 18 = .ok (.aload_n 0, 1) := by decide +kernel
theorem dX8_findWetted_19 : decode cX8_findWetted 19 = .ok (.getfield 22, 3) := by decide +kernel
theorem dX8_findWetted_22 : decode cX8_findWetted 22 = .ok (.iload_n 2, 1) := by decide +kernel
theorem dX8_findWetted_23 : decode cX8_findWetted 23 = .ok (.iconst 0, 1) := by decide +kernel
theorem dX8_findWetted_24 : decode cX8_findWetted 24 = .ok (.iastore, 1) := by decide +kernel
theorem dX8_findWetted_25 : decode cX8_findWetted 25 = .ok (.iinc 2 1, 3) := by decide +kernel
theorem dX8_findWetted_28 : decode cX8_findWetted 28 = .ok (.goto (-15), 3) := by decide +kernel
theorem dX8_findWetted_31 : decode cX8_findWetted 31 = .ok (.iconst 0, 1) := by decide +kernel
theorem dX8_findWetted_32 : decode cX8_findWetted 32 = .ok (.istore_n 2, 1) := by decide +kernel
theorem dX8_findWetted_33 : decode cX8_findWetted 33 = .ok (.iload_n 2, 1) := by decide +kernel
theorem dX8_findWetted_34 : decode cX8_findWetted 34 = .ok (.iload_n 1, 1) := by decide +kernel
theorem dX8_findWetted_35 : decode cX8_findWetted 35 = .ok (.if_icmp .ge 58, 3) := by decide +kernel
theorem dX8_findWetted_38 : decode cX8_findWetted 38 = .ok (.iconst 0, 1) := by decide +kernel
theorem dX8_findWetted_39 : decode cX8_findWetted 39 = .ok (.istore_n 3, 1) := by decide +kernel
theorem dX8_findWetted_40 : decode cX8_findWetted 40 = .ok (.iload_n 3, 1) := by decide +kernel
theorem dX8_findWetted_41 : decode cX8_findWetted 41 = .ok (.aload_n 0, 1) := by decide +kernel
theorem dX8_findWetted_42 : decode cX8_findWetted 42 = .ok (.getfield 18, 3) := by decide +kernel
theorem dX8_findWetted_45 : decode cX8_findWetted 45 = .ok (.getfield 50, 3) := by decide +kernel
theorem dX8_findWetted_48 : decode cX8_findWetted 48 = .ok (.if_icmp .ge 26, 3) := by decide +kernel
theorem dX8_findWetted_51 : decode cX8_findWetted 51 = .ok (.aload_n 0, 1) := by decide +kernel
theorem dX8_findWetted_52 : decode cX8_findWetted 52 = .ok (.getfield 22, 3) := by decide +kernel
theorem dX8_findWetted_55 : decode cX8_findWetted 55 = .ok (.iload_n 3, 1) := by decide +kernel
theorem dX8_findWetted_56 : decode cX8_findWetted 56 = .ok (.dup2, 1) := by decide +kernel
theorem dX8_findWetted_57 : decode cX8_findWetted 57 = .ok (.iaload, 1) := by decide +kernel
theorem dX8_findWetted_58 : decode cX8_findWetted 58 = .ok (.aload_n 0, 1) := by decide +kernel
theorem dX8_findWetted_59 : decode cX8_findWetted 59 = .ok (.getfield 18, 3) := by decide +kernel
theorem dX8_findWetted_62 : decode cX8_findWetted 62 = .ok (.iload_n 3, 1) := by decide +kernel
theorem dX8_findWetted_63 : decode cX8_findWetted 63 = .ok (.invokevirtual 53, 3) := by decide +kernel
theorem dX8_findWetted_66 : decode cX8_findWetted 66 = .ok (.ior, 1) := by decide +kernel
theorem dX8_findWetted_67 : decode cX8_findWetted 67 = .ok (.iastore, 1) := by decide +kernel
theorem dX8_findWetted_68 : decode cX8_findWetted 68 = .ok (.iinc 3 1, 3) := by decide +kernel
theorem dX8_findWetted_71 : decode cX8_findWetted 71 = .ok (.goto (-31), 3) := by decide +kernel
theorem dX8_findWetted_74 : decode cX8_findWetted 74 = .ok (.aload_n 0, 1) := by decide +kernel
theorem dX8_findWetted_75 : decode cX8_findWetted 75 = .ok (.getfield 18, 3) := by decide +kernel
theorem dX8_findWetted_78 : decode cX8_findWetted 78 = .ok (.dup, 1) := by decide +kernel
theorem dX8_findWetted_79 : decode cX8_findWetted 79 = .ok (.getfield 57, 3) := by decide +kernel
theorem dX8_findWetted_82 : decode cX8_findWetted 82 = .ok (.iconst 1, 1) := by decide +kernel
theorem dX8_findWetted_83 : decode cX8_findWetted 83 = .ok (.iadd, 1) := by decide +kernel
theorem dX8_findWetted_84 : decode cX8_findWetted 84 = .ok (.putfield 57, 3) := by decide +kernel
theorem dX8_findWetted_87 : decode cX8_findWetted 87 = .ok (.iinc 2 1, 3) := by decide +kernel
theorem dX8_findWetted_90 : decode cX8_findWetted 90 = .ok (.goto (-57), 3) := by decide +kernel
theorem dX8_findWetted_93 : decode cX8_findWetted 93 = .ok (.return_, 1) := by decide +kernel
theorem dX8_tryFrom_0 : decode cX8_tryFrom 0 = .ok (.iload_n 2, 1) := by decide +kernel
theorem dX8_tryFrom_1 : decode cX8_tryFrom 1 = .ok (.aload_n 0, 1) := by decide +kernel
theorem dX8_tryFrom_2 : decode cX8_tryFrom 2 = .ok (.getfield 39, 3) := by decide +kernel
theorem dX8_tryFrom_5 : decode cX8_tryFrom 5 = .ok (.if_icmp .lt 4, 3) := by decide +kernel
theorem dX8_tryFrom_8 : decode cX8_tryFrom 8 = .ok (.return_, 1) := by decide +kernel
theorem dX8_tryFrom_9 : decode cX8_tryFrom 9 = .ok (.iload_n 1, 1) := by decide +kernel
theorem dX8_tryFrom_10 : decode cX8_tryFrom 10 = .ok (.aload_n 0, 1) := by decide +kernel
theorem dX8_tryFrom_11 : decode cX8_tryFrom 11 = .ok (.getfield 28, 3) := by decide +kernel
theorem dX8_tryFrom_14 : decode cX8_tryFrom 14 = .ok (.getfield 50, 3) := by decide +kernel
theorem dX8_tryFrom_17 : decode cX8_tryFrom 17 = .ok (.if_icmp .ge 8, 3) := by decide +kernel
theorem dX8_tryFrom_20 : decode cX8_tryFrom 20 = .ok (.iload_n 1, 1) := by decide +kernel
theorem dX8_tryFrom_21 : decode cX8_tryFrom 21 = .ok (.iconst 5, 1) := by decide +kernel
theorem dX8_tryFrom_22 : decode cX8_tryFrom 22 = .ok (.if_icmp .lt 34, 3) := by decide +kernel
theorem dX8_tryFrom_25 : decode cX8_tryFrom 25 = .ok (.aload_n 0, 1) := by decide +kernel
theorem dX8_tryFrom_26 : decode cX8_tryFrom 26 = .ok (.getfield 31, 3) := by decide +kernel
theorem dX8_tryFrom_29 : decode cX8_tryFrom 29 = .ok (.iload_n 3, 1) := by decide +kernel
theorem dX8_tryFrom_30 : decode cX8_tryFrom 30 = .ok (.iconst (-1), 1) := by decide +kernel
theorem dX8_tryFrom_31 : decode cX8_tryFrom 31 = .ok (.ixor, 1) := by decide +kernel
theorem dX8_tryFrom_32 : decode cX8_tryFrom 32 = .ok (.iand, 1) := by decide +kernel
theorem dX8_tryFrom_33 : decode cX8_tryFrom 33 = .ok (.ifCond .ne 22, 3) := by decide +kernel
theorem dX8_tryFrom_36 : decode cX8_tryFrom 36 = .ok (.aload_n 0, 1) := by decide +kernel
theorem dX8_tryFrom_37 : decode cX8_tryFrom 37 = .ok (.iload_n 2, 1) := by decide +kernel
theorem dX8_tryFrom_38 : decode cX8_tryFrom 38 = .ok (.putfield 39, 3) := by decide +kernel
theorem dX8_tryFrom_41 : decode cX8_tryFrom 41 = .ok (.aload_n 0, 1) := by decide +kernel
theorem dX8_tryFrom_42 : decode cX8_tryFrom 42 = .ok (.getfield 25, 3) := by decide +kernel
theorem dX8_tryFrom_45 : decode cX8_tryFrom 45 = .ok (.iconst 0, 1) := by decide +kernel
theorem dX8_tryFrom_46 : decode cX8_tryFrom 46 = .ok (.aload_n 0, 1) := by decide +kernel
theorem dX8_tryFrom_47 : decode cX8_tryFrom 47 = .ok (.getfield 9, 3) := by decide +kernel
theorem dX8_tryFrom_50 : decode cX8_tryFrom 50 = .ok (.iconst 0, 1) := by decide +kernel
theorem dX8_tryFrom_51 : decode cX8_tryFrom 51 = .ok (.iconst 5, 1) := by decide +kernel
theorem dX8_tryFrom_52 : decode cX8_tryFrom 52 = .ok (.invokestatic 60, 3) := by decide +kernel
theorem dX8_tryFrom_55 : decode cX8_tryFrom 55 = .ok (.return_, 1) := by decide +kernel
theorem dX8_tryFrom_56 : decode cX8_tryFrom 56 = .ok (.aload_n 0, 1) := by decide +kernel
theorem dX8_tryFrom_57 : decode cX8_tryFrom 57 = .ok (.getfield 28, 3) := by decide +kernel
theorem dX8_tryFrom_60 : decode cX8_tryFrom 60 = .ok (.iload_n 1, 1) := by decide +kernel
theorem dX8_tryFrom_61 : decode cX8_tryFrom 61 = .ok (.invokevirtual 66, 3) := by decide +kernel
theorem dX8_tryFrom_64 : decode cX8_tryFrom 64 = .ok (.ifCond .eq 7, 3) := by decide +kernel
theorem dX8_tryFrom_67 : decode cX8_tryFrom 67 = .ok (.iconst 0, 1) := by decide +kernel
theorem dX8_tryFrom_68 : decode cX8_tryFrom 68 = .ok (.goto 4, 3) := by decide +kernel
theorem dX8_tryFrom_71 : decode cX8_tryFrom 71 = .ok (.iconst 3, 1) := by decide +kernel
theorem dX8_tryFrom_72 : decode cX8_tryFrom 72 = .ok (.istore 4, 2) := by decide +kernel
theorem dX8_tryFrom_74 : decode cX8_tryFrom 74 = .ok (.iconst 0, 1) := by decide +kernel
theorem dX8_tryFrom_75 : decode cX8_tryFrom 75 = .ok (.istore 5, 2) := by decide +kernel
theorem dX8_tryFrom_77 : decode cX8_tryFrom 77 = .ok (.iload 5, 2) := by decide +kernel
theorem dX8_tryFrom_79 : decode cX8_tryFrom 79 = .ok (.iload 4, 2) := by decide +kernel
theorem dX8_tryFrom_81 : decode cX8_tryFrom 81 = .ok (.if_icmp .gt 41, 3) := by decide +kernel
theorem dX8_tryFrom_84 : decode cX8_tryFrom 84 = .ok (.aload_n 0, 1) := by decide +kernel
theorem dX8_tryFrom_85 : decode cX8_tryFrom 85 = .ok (.getfield 25, 3) := by decide +kernel
theorem dX8_tryFrom_88 : decode cX8_tryFrom 88 = .ok (.iload_n 1, 1) := by decide +kernel
theorem dX8_tryFrom_89 : decode cX8_tryFrom 89 = .ok (.iload 5, 2) := by decide +kernel
theorem dX8_tryFrom_91 : decode cX8_tryFrom 91 = .ok (.iastore, 1) := by decide +kernel
theorem dX8_tryFrom_92 : decode cX8_tryFrom 92 = .ok (.aload_n 0, 1) := by decide +kernel
theorem dX8_tryFrom_93 : decode cX8_tryFrom 93 = .ok (.iload_n 1, 1) := by decide +kernel
theorem dX8_tryFrom_94 : decode cX8_tryFrom 94 = .ok (.iconst 1, 1) := by decide +kernel
theorem dX8_tryFrom_95 : decode cX8_tryFrom 95 = .ok (.iadd, 1) := by decide +kernel
theorem dX8_tryFrom_96 : decode cX8_tryFrom 96 = .ok (.iload_n 2, 1) := by decide +kernel
theorem dX8_tryFrom_97 : decode cX8_tryFrom 97 = .ok (.iload 5, 2) := by decide +kernel
theorem dX8_tryFrom_99 : decode cX8_tryFrom 99 = .ok (.iadd, 1) := by decide +kernel
theorem dX8_tryFrom_100 : decode cX8_tryFrom 100 = .ok (.iload_n 3, 1) := by decide +kernel
theorem dX8_tryFrom_101 : decode cX8_tryFrom 101 = .ok (.aload_n 0, 1) := by decide +kernel
theorem dX8_tryFrom_102 : decode cX8_tryFrom 102 = .ok (.getfield 22, 3) := by decide +kernel
theorem dX8_tryFrom_105 : decode cX8_tryFrom 105 = .ok (.iload_n 1, 1) := by decide +kernel
theorem dX8_tryFrom_106 : decode cX8_tryFrom 106 = .ok (.iaload, 1) := by decide +kernel
theorem dX8_tryFrom_107 : decode cX8_tryFrom 107 = .ok (.iload 5, 2) := by decide +kernel
theorem dX8_tryFrom_109 : decode cX8_tryFrom 109 = .ok (.invokestatic 70, 3) := by decide +kernel
theorem dX8_tryFrom_112 : decode cX8_tryFrom 112 = .ok (.ior, 1) := by decide +kernel
theorem dX8_tryFrom_113 : decode cX8_tryFrom 113 = .ok (.invokevirtual 42, 3) := by decide +kernel
theorem dX8_tryFrom_116 : decode cX8_tryFrom 116 = .ok (.iinc 5 1, 3) := by decide +kernel
theorem dX8_tryFrom_119 : decode cX8_tryFrom 119 = .ok (.goto (-42), 3) := by decide +kernel
theorem dX8_tryFrom_122 : decode cX8_tryFrom 122 = .ok (.return_, 1) := by decide +kernel
end
section
theorem dX9_init_0 : decode cX9_init 0 = .ok (.aload_n 0, 1) := by decide +kernel
theorem dX9_init_1 : decode cX9_init 1 = .ok (.invokespecial 1, 3) := by decide +kernel
theorem dX9_init_4 : decode cX9_init 4 = .ok (.aload_n 0, 1) := by decide +kernel
theorem dX9_init_5 : decode cX9_init 5 = .ok (.new 7, 3) := by decide +kernel
theorem dX9_init_8 : decode cX9_init 8 = .ok (.dup, 1) := by decide +kernel
theorem dX9_init_9 : decode cX9_init 9 = .ok (.invokespecial 9, 3) := by decide +kernel
theorem dX9_init_12 : decode cX9_init 12 = .ok (.putfield 10, 3) := by decide +kernel
theorem dX9_init_15 : decode cX9_init 15 = .ok (.aload_n 0, 1) := by decide +kernel
theorem dX9_init_16 : decode cX9_init 16 = .ok (.new 16, 3) := by decide +kernel
theorem dX9_init_19 : decode cX9_init 19 = .ok (.dup, 1) := by decide +kernel
theorem dX9_init_20 : decode cX9_init 20 = .ok (.invokespecial 18, 3) := by decide +kernel
theorem dX9_init_23 : decode cX9_init 23 = .ok (.putfield 19, 3) := by decide +kernel
theorem dX9_init_26 : decode cX9_init 26 = .ok (.aload_n 0, 1) := by decide +kernel
theorem dX9_init_27 : decode cX9_init 27 = .ok (.new 23, 3) := by decide +kernel
theorem dX9_init_30 : decode cX9_init 30 = .ok (.dup, 1) := by decide +kernel
theorem dX9_init_31 : decode cX9_init 31 = .ok (.aload_n 0, 1) := by decide +kernel
theorem dX9_init_32 : decode cX9_init 32 = .ok (.getfield 19, 3) := by decide +kernel
theorem dX9_init_35 : decode cX9_init 35 = .ok (.invokespecial 25, 3) := by decide +kernel
theorem dX9_init_38 : decode cX9_init 38 = .ok (.putfield 28, 3) := by decide +kernel
theorem dX9_init_41 : decode cX9_init 41 = .ok (.aload_n 0, 1) := by decide +kernel
theorem dX9_init_42 : decode cX9_init 42 = .ok (.new 32, 3) := by decide +kernel
theorem dX9_init_45 : decode cX9_init 45 = .ok (.dup, 1) := by decide +kernel
theorem dX9_init_46 : decode cX9_init 46 = .ok (.invokespecial 34, 3) := by decide +kernel
theorem dX9_init_49 : decode cX9_init 49 = .ok (.putfield 35, 3) := by decide +kernel
theorem dX9_init_52 : decode cX9_init 52 = .ok (.aload_n 0, 1) := by decide +kernel
theorem dX9_init_53 : decode cX9_init 53 = .ok (.new 39, 3) := by decide +kernel
theorem dX9_init_56 : decode cX9_init 56 = .ok (.dup, 1) := by decide +kernel
theorem dX9_init_57 : decode cX9_init 57 = .ok (.aload_n 0, 1) := by decide +kernel
theorem dX9_init_58 : decode cX9_init 58 = .ok (.getfield 35, 3) := by decide +kernel
theorem dX9_init_61 : decode cX9_init 61 = .ok (.invokespecial 41, 3) := by decide +kernel
theorem dX9_init_64 : decode cX9_init 64 = .ok (.putfield 44, 3) := by decide +kernel
theorem dX9_init_67 : decode cX9_init 67 = .ok (.aload_n 0, 1) := by decide +kernel
theorem dX9_init_68 : decode cX9_init 68 = .ok (.iconst 2, 1) := by decide +kernel
theorem dX9_init_69 : decode cX9_init 69 = .ok (.anewarray 32, 3) := by decide +kernel
theorem dX9_init_72 : decode cX9_init 72 = .ok (.putfield 48, 3) := by decide +kernel
theorem dX9_init_75 : decode cX9_init 75 = .ok (.aload_n 0, 1) := by decide +kernel
theorem dX9_init_76 : decode cX9_init 76 = .ok (.new 52, 3) := by decide +kernel
theorem dX9_init_79 : decode cX9_init 79 = .ok (.dup, 1) := by decide +kernel
theorem dX9_init_80 : decode cX9_init 80 = .ok (.aload_n 0, 1) := by decide +kernel
theorem dX9_init_81 : decode cX9_init 81 = .ok (.getfield 35, 3) := by decide +kernel
theorem dX9_init_84 : decode cX9_init 84 = .ok (.aload_n 0, 1) := by decide +kernel
theorem dX9_init_85 : decode cX9_init 85 = .ok (.getfield 10, 3) := by decide +kernel
theorem dX9_init_88 : decode cX9_init 88 = .ok (.invokespecial 54, 3) := by decide +kernel
theorem dX9_init_91 : decode cX9_init 91 = .ok (.putfield 57, 3) := by decide +kernel
theorem dX9_init_94 : decode cX9_init 94 = .ok (.aload_n 0, 1) := by decide +kernel
theorem dX9_init_95 : decode cX9_init 95 = .ok (.new 61, 3) := by decide +kernel
theorem dX9_init_98 : decode cX9_init 98 = .ok (.dup, 1) := by decide +kernel
theorem dX9_init_99 : decode cX9_init 99 = .ok (.aload_n 0, 1) := by decide +kernel
theorem dX9_init_100 : decode cX9_init 100 = .ok (.getfield 35, 3) := by decide +kernel
theorem dX9_init_103 : decode cX9_init 103 = .ok (.invokespecial 63, 3) := by decide +kernel
theorem dX9_init_106 : decode cX9_init 106 = .ok (.putfield 64, 3) := by decide +kernel
theorem dX9_init_109 : decode cX9_init 109 = .ok (.aload_n 0, 1) := by decide +kernel
theorem dX9_init_110 : decode cX9_init 110 = .ok (.new 68, 3) := by decide +kernel
theorem dX9_init_113 : decode cX9_init 113 = .ok (.dup, 1) := by decide +kernel
theorem dX9_init_114 : decode cX9_init 114 = .ok (.invokespecial 70, 3) := by decide +kernel
theorem dX9_init_117 : decode cX9_init 117 = .ok (.putfield 71, 3) := by decide +kernel
theorem dX9_init_120 : decode cX9_init 120 = .ok (.aload_n 0, 1) := by decide +kernel
theorem dX9_init_121 : decode cX9_init 121 = .ok (.new 75, 3) := by decide +kernel
theorem dX9_init_124 : decode cX9_init 124 = .ok (.dup, 1) := by decide +kernel
theorem dX9_init_125 : decode cX9_init 125 = .ok (.aload_n 0, 1) := by decide +kernel
theorem dX9_init_126 : decode cX9_init 126 = .ok (.getfield 35, 3) := by decide +kernel
theorem dX9_init_129 : decode cX9_init 129 = .ok (.invokespecial 77, 3) := by decide +kernel
theorem dX9_init_132 : decode cX9_init 132 = .ok (.putfield 78, 3) := by decide +kernel
theorem dX9_init_135 : decode cX9_init 135 = .ok (.iconst 0, 1) := by decide +kernel
theorem dX9_init_136 : decode cX9_init 136 = .ok (.istore_n 1, 1) := by decide +kernel
theorem dX9_init_137 : decode cX9_init 137 = .ok (.iload_n 1, 1) := by decide +kernel
theorem dX9_init_138 : decode cX9_init 138 = .ok (.iconst 1, 1) := by decide +kernel
theorem dX9_init_139 : decode cX9_init 139 = .ok (.if_icmp .gt 22, 3) := by decide +kernel
theorem dX9_init_142 : decode cX9_init 142 = .ok (.aload_n 0, 1) := by decide +kernel
theorem dX9_init_143 : decode cX9_init 143 = .ok (.getfield 48, 3) := by decide +kernel
theorem dX9_init_146 : decode cX9_init 146 = .ok (.iload_n 1, 1) := by decide +kernel
theorem dX9_init_147 : decode cX9_init 147 = .ok (.new 32, 3) := by decide +kernel
theorem dX9_init_150 : decode cX9_init 150 = .ok (.dup, 1) := by decide +kernel
theorem dX9_init_151 : decode cX9_init 151 = .ok (.invokespecial 34, 3) := by decide +kernel
theorem dX9_init_154 : decode cX9_init 154 = .ok (.aastore, 1) := by decide +kernel
theorem dX9_init_155 : decode cX9_init 155 = .ok (.iinc 1 1, 3) := by decide +kernel
theorem dX9_init_158 : decode cX9_init 158 = .ok (.goto (-21), 3) := by decide +kernel
theorem dX9_init_161 : decode cX9_init 161 = .ok (.return_, 1) := by decide +kernel
theorem dX9_row_0 : decode cX9_row 0 = .ok (.iload_n 1, 1) := by decide +kernel
theorem dX9_row_1 : decode cX9_row 1 = .ok (.invokestatic 82, 3) := by decide +kernel
theorem dX9_row_4 : decode cX9_row 4 = .ok (.ifCond .eq 18, 3) := by decide +kernel
theorem dX9_row_7 : decode cX9_row 7 = .ok (.iload_n 2, 1) := by decide +kernel
theorem dX9_row_8 : decode cX9_row 8 = .ok (.iconst 0, 1) := by decide +kernel
theorem dX9_row_9 : decode cX9_row 9 = .ok (.iconst 2, 1) := by decide +kernel
theorem dX9_row_10 : decode cX9_row 10 = .ok (.invokestatic 86, 3) := by decide +kernel
theorem dX9_row_13 : decode cX9_row 13 = .ok (.ifCond .eq 9, 3) := by decide +kernel
theorem dX9_row_16 : decode cX9_row 16 = .ok (.iload_n 3, 1) := by decide +kernel
theorem dX9_row_17 : decode cX9_row 17 = .ok (.bipush 40, 2) := by decide +kernel
theorem dX9_row_19 : decode cX9_row 19 = .ok (.if_icmp .le 6, 3) := by decide +kernel
theorem dX9_row_22 : decode cX9_row 22 = .ok (.ldc 90, 2) := by decide +kernel
theorem dX9_row_24 : decode cX9_row 24 = .ok (.ireturn, 1) := by decide +kernel
theorem dX9_row_25 : decode cX9_row 25 = .ok (.iload_n 3, 1) := by decide +kernel
theorem dX9_row_26 : decode cX9_row 26 = .ok (.ifCond .ge 9, 3) := by decide +kernel
theorem dX9_row_29 : decode cX9_row 29 = .ok (.aload_n 0, 1) := by decide +kernel
theorem dX9_row_30 : decode cX9_row 30 = .ok (.iconst 4, 1) := by decide +kernel
theorem dX9_row_31 : decode cX9_row 31 = .ok (.invokevirtual 91, 3) := by decide +kernel
theorem dX9_row_34 : decode cX9_row 34 = .ok (.ireturn, 1) := by decide +kernel
theorem dX9_row_35 : decode cX9_row 35 = .ok (.aload_n 0, 1) := by decide +kernel
theorem dX9_row_36 : decode cX9_row 36 = .ok (.getfield 10, 3) := by decide +kernel
theorem dX9_row_39 : decode cX9_row 39 = .ok (.iload_n 1, 1) := by decide +kernel
theorem dX9_row_40 : decode cX9_row 40 = .ok (.iload_n 2, 1) := by decide +kernel
theorem dX9_row_41 : decode cX9_row 41 = .ok (.iload_n 3, 1) := by decide +kernel
theorem dX9_row_42 : decode cX9_row 42 = .ok (.invokevirtual 95, 3) := by decide +kernel
theorem dX9_row_45 : decode cX9_row 45 = .ok (.aload_n 0, 1) := by decide +kernel
theorem dX9_row_46 : decode cX9_row 46 = .ok (.iload_n 3, 1) := by decide +kernel
theorem dX9_row_47 : decode cX9_row 47 = .ok (.invokevirtual 99, 3) := by decide +kernel
theorem dX9_row_50 : decode cX9_row 50 = .ok (.ireturn, 1) := by decide +kernel
theorem dX9_set_0 : decode cX9_set 0 = .ok (.iload_n 1, 1) := by decide +kernel
theorem dX9_set_1 : decode cX9_set 1 = .ok (.invokestatic 82, 3) := by decide +kernel
theorem dX9_set_4 : decode cX9_set 4 = .ok (.ifCond .ne 6, 3) := by decide +kernel
theorem dX9_set_7 : decode cX9_set 7 = .ok (.ldc 90, 2) := by decide +kernel
theorem dX9_set_9 : decode cX9_set 9 = .ok (.ireturn, 1) := by decide +kernel
theorem dX9_set_10 : decode cX9_set 10 = .ok (.aload_n 0, 1) := by decide +kernel
theorem dX9_set_11 : decode cX9_set 11 = .ok (.getfield 10, 3) := by decide +kernel
theorem dX9_set_14 : decode cX9_set 14 = .ok (.iload_n 1, 1) := by decide +kernel
theorem dX9_set_15 : decode cX9_set 15 = .ok (.invokevirtual 102, 3) := by decide +kernel
theorem dX9_set_18 : decode cX9_set 18 = .ok (.ifCond .eq 9, 3) := by decide +kernel
theorem dX9_set_21 : decode cX9_set 21 = .ok (.aload_n 0, 1) := by decide +kernel
theorem dX9_set_22 : decode cX9_set 22 = .ok (.iconst 1, 1) := by decide +kernel
theorem dX9_set_23 : decode cX9_set 23 = .ok (.invokevirtual 91, 3) := by decide +kernel
theorem dX9_set_26 : decode cX9_set 26 = .ok (.ireturn, 1) := by decide +kernel
theorem dX9_set_27 : decode cX9_set 27 = .ok (.aload_n 0, 1) := by decide +kernel
theorem dX9_set_28 : decode cX9_set 28 = .ok (.getfield 10, 3) := by decide +kernel
theorem dX9_set_31 : decode cX9_set 31 = .ok (.iload_n 1, 1) := by decide +kernel
theorem dX9_set_32 : decode cX9_set 32 = .ok (.iload_n 2, 1) := by decide +kernel
theorem dX9_set_33 : decode cX9_set 33 = .ok (.iconst 1, 1) := by decide +kernel
theorem dX9_set_34 : decode cX9_set 34 = .ok (.invokevirtual 105, 3) := by decide +kernel
theorem dX9_set_37 : decode cX9_set 37 = .ok (.ifCond .ne 9, 3) := by decide +kernel
theorem dX9_set_40 : decode cX9_set 40 = .ok (.aload_n 0, 1) := by decide +kernel
theorem dX9_set_41 : decode cX9_set 41 = .ok (.iconst 2, 1) := by decide +kernel
theorem dX9_set_42 : decode cX9_set 42 = .ok (.invokevirtual 91, 3) := by decide +kernel
theorem dX9_set_45 : decode cX9_set 45 = .ok (.ireturn, 1) := by decide +kernel
theorem dX9_set_46 : decode cX9_set 46 = .ok (.aload_n 0, 1) := by decide +kernel
theorem dX9_set_47 : decode cX9_set 47 = .ok (.aload_n 0, 1) := by decide +kernel
theorem dX9_set_48 : decode cX9_set 48 = .ok (.getfield 10, 3) := by decide +kernel
theorem dX9_set_51 : decode cX9_set 51 = .ok (.iload_n 1, 1) := by decide +kernel
theorem dX9_set_52 : decode cX9_set 52 = .ok (.iload_n 2, 1) := by decide +kernel
theorem dX9_set_53 : decode cX9_set 53 = .ok (.iload_n 3, 1) := by decide +kernel
theorem dX9_set_54 : decode cX9_set 54 = .ok (.invokevirtual 108, 3) := by decide +kernel
theorem dX9_set_57 : decode cX9_set 57 = .ok (.invokevirtual 99, 3) := by decide +kernel
theorem dX9_set_60 : decode cX9_set 60 = .ok (.ireturn, 1) := by decide +kernel
theorem dX9_copy_0 : decode cX9_copy 0 = .ok (.iload_n 1, 1) := by decide +kernel
theorem dX9_copy_1 : decode cX9_copy 1 = .ok (.invokestatic 82, 3) := by decide +kernel
theorem dX9_copy_4 : decode cX9_copy 4 = .ok (.ifCond .eq 10, 3) := by decide +kernel
theorem dX9_copy_7 : decode cX9_copy 7 = .ok (.iload_n 3, 1) := by decide +kernel
theorem dX9_copy_8 : decode cX9_copy 8 = .ok (.invokestatic 82, 3) := by decide +kernel
theorem dX9_copy_11 : decode cX9_copy 11 = .ok (.ifCond .ne 6, 3) := by decide +kernel
theorem dX9_copy_14 : decode cX9_copy 14 = .ok (.ldc 90, 2) := by decide +kernel
theorem dX9_copy_16 : decode cX9_copy 16 = .ok (.ireturn, 1) := by decide +kernel
theorem dX9_copy_17 : decode cX9_copy 17 = .ok (.aload_n 0, 1) := by decide +kernel
theorem dX9_copy_18 : decode cX9_copy 18 = .ok (.getfield 10, 3) := by decide +kernel
theorem dX9_copy_21 : decode cX9_copy 21 = .ok (.iload_n 1, 1) := by decide +kernel
theorem dX9_copy_22 : decode cX9_copy 22 = .ok (.invokevirtual 102, 3) := by decide +kernel
theorem dX9_copy_25 : decode cX9_copy 25 = .ok (.ifCond .ne 14, 3) := by decide +kernel
theorem dX9_copy_28 : decode cX9_copy 28 = .ok (.aload_n 0, 1) := by decide +kernel
theorem dX9_copy_29 : decode cX9_copy 29 = .ok (.getfield 10, 3) := by decide +kernel
theorem dX9_copy_32 : decode cX9_copy 32 = .ok (.iload_n 3, 1) := by decide +kernel
theorem dX9_copy_33 : decode cX9_copy 33 = .ok (.invokevirtual 102, 3) := by decide +kernel
theorem dX9_copy_36 : decode cX9_copy 36 = .ok (.ifCond .eq 9, 3) := by decide +kernel
theorem dX9_copy_39 : decode cX9_copy 39 = .ok (.aload_n 0, 1) := by decide +kernel
theorem dX9_copy_40 : decode cX9_copy 40 = .ok (.iconst 1, 1) := by decide +kernel
theorem dX9_copy_41 : decode cX9_copy 41 = .ok (.invokevirtual 91, 3) := by decide +kernel
theorem dX9_copy_44 : decode cX9_copy 44 = .ok (.ireturn, 1) := by decide +kernel
theorem dX9_copy_45 : decode cX9_copy 45 = .ok (.aload_n 0, 1) := by decide +kernel
theorem dX9_copy_46 : decode cX9_copy 46 = .ok (.getfield 10, 3) := by decide +kernel
theorem dX9_copy_49 : decode cX9_copy 49 = .ok (.getfield 112, 3) := by decide +kernel
theorem dX9_copy_52 : decode cX9_copy 52 = .ok (.iload_n 1, 1) := by decide +kernel
theorem dX9_copy_53 : decode cX9_copy 53 = .ok (.iaload, 1) := by decide +kernel
theorem dX9_copy_54 : decode cX9_copy 54 = .ok (.aload_n 0, 1) := by decide +kernel
theorem dX9_copy_55 : decode cX9_copy 55 = .ok (.getfield 10, 3) := by decide +kernel
theorem dX9_copy_58 : decode cX9_copy 58 = .ok (.getfield 112, 3) := by decide +kernel
theorem dX9_copy_61 : decode cX9_copy 61 = .ok (.iload_n 3, 1) := by decide +kernel
theorem dX9_copy_62 : decode cX9_copy 62 = .ok (.iaload, 1) := by decide +kernel
theorem dX9_copy_63 : decode cX9_copy 63 = .ok (.if_icmp .eq 9, 3) := by decide +kernel
theorem dX9_copy_66 : decode cX9_copy 66 = .ok (.aload_n 0, 1) := by decide +kernel
theorem dX9_copy_67 : decode cX9_copy 67 = .ok (.iconst 5, 1) := by decide +kernel
theorem dX9_copy_68 : decode cX9_copy 68 = .ok (.invokevirtual 91, 3) := by decide +kernel
theorem dX9_copy_71 : decode cX9_copy 71 = .ok (.ireturn, 1) := by decide +kernel
theorem dX9_copy_72 : decode cX9_copy 72 = .ok (.aload_n 0, 1) := by decide +kernel
theorem dX9_copy_73 : decode cX9_copy 73 = .ok (.getfield 10, 3) := by decide +kernel
theorem dX9_copy_76 : decode cX9_copy 76 = .ok (.iload_n 1, 1) := by decide +kernel
theorem dX9_copy_77 : decode cX9_copy 77 = .ok (.iload_n 2, 1) := by decide +kernel
theorem dX9_copy_78 : decode cX9_copy 78 = .ok (.iload 5, 2) := by decide +kernel
theorem dX9_copy_80 : decode cX9_copy 80 = .ok (.invokevirtual 105, 3) := by decide +kernel
theorem dX9_copy_83 : decode cX9_copy 83 = .ok (.ifCond .eq 18, 3) := by decide +kernel
theorem dX9_copy_86 : decode cX9_copy 86 = .ok (.aload_n 0, 1) := by decide +kernel
theorem dX9_copy_87 : decode cX9_copy 87 = .ok (.getfield 10, 3) := by decide +kernel
theorem dX9_copy_90 : decode cX9_copy 90 = .ok (.iload_n 3, 1) := by decide +kernel
theorem dX9_copy_91 : decode cX9_copy 91 = .ok (.iload 4, 2) := by decide +kernel
theorem dX9_copy_93 : decode cX9_copy 93 = .ok (.iload 5, 2) := by decide +kernel
theorem dX9_copy_95 : decode cX9_copy 95 = .ok (.invokevirtual 105, 3) := by decide +kernel
theorem dX9_copy_98 : decode cX9_copy 98 = .ok (.ifCond .ne 9, 3) := by decide +kernel
theorem dX9_copy_101 : decode cX9_copy 101 = .ok (.aload_n 0, 1) := by decide +kernel
theorem dX9_copy_102 : decode cX9_copy 102 = .ok (.iconst 2, 1) := by decide +kernel
theorem dX9_copy_103 : decode cX9_copy 103 = .ok (.invokevirtual 91, 3) := by decide +kernel
theorem dX9_copy_106 : decode cX9_copy 106 = .ok (.ireturn, 1) := by decide +kernel
theorem dX9_copy_107 : decode cX9_copy 107 = .ok (.aload_n 0, 1) := by decide +kernel
theorem dX9_copy_108 : decode cX9_copy 108 = .ok (.getfield 10, 3) := by decide +kernel
theorem dX9_copy_111 : decode cX9_copy 111 = .ok (.iload_n 1, 1) := by decide +kernel
theorem dX9_copy_112 : decode cX9_copy 112 = .ok (.iload_n 2, 1) := by decide +kernel
theorem dX9_copy_113 : decode cX9_copy 113 = .ok (.iload_n 3, 1) := by decide +kernel
theorem dX9_copy_114 : decode cX9_copy 114 = .ok (.iload 4, 2) := by decide +kernel
theorem dX9_copy_116 : decode cX9_copy 116 = .ok (.iload 5, 2) := by decide +kernel
theorem dX9_copy_118 : decode cX9_copy 118 = .ok (.invokevirtual 116, 3) := by decide +kernel
theorem dX9_copy_121 : decode cX9_copy 121 = .ok (.aload_n 0, 1) := by decide +kernel
theorem dX9_copy_122 : decode cX9_copy 122 = .ok (.iload 5, 2) := by decide +kernel
theorem dX9_copy_124 : decode cX9_copy 124 = .ok (.invokevirtual 99, 3) := by decide +kernel
theorem dX9_copy_127 : decode cX9_copy 127 = .ok (.ireturn, 1) := by decide +kernel
theorem dX9_drop_0 : decode cX9_drop 0 = .ok (.iload_n 1, 1) := by decide +kernel
theorem dX9_drop_1 : decode cX9_drop 1 = .ok (.invokestatic 82, 3) := by decide +kernel
theorem dX9_drop_4 : decode cX9_drop 4 = .ok (.ifCond .ne 6, 3) := by decide +kernel
theorem dX9_drop_7 : decode cX9_drop 7 = .ok (.ldc 90, 2) := by decide +kernel
theorem dX9_drop_9 : decode cX9_drop 9 = .ok (.ireturn, 1) := by decide +kernel
theorem dX9_drop_10 : decode cX9_drop 10 = .ok (.aload_n 0, 1) := by decide +kernel
theorem dX9_drop_11 : decode cX9_drop 11 = .ok (.getfield 10, 3) := by decide +kernel
theorem dX9_drop_14 : decode cX9_drop 14 = .ok (.iload_n 1, 1) := by decide +kernel
theorem dX9_drop_15 : decode cX9_drop 15 = .ok (.invokevirtual 102, 3) := by decide +kernel
theorem dX9_drop_18 : decode cX9_drop 18 = .ok (.ifCond .eq 9, 3) := by decide +kernel
theorem dX9_drop_21 : decode cX9_drop 21 = .ok (.aload_n 0, 1) := by decide +kernel
theorem dX9_drop_22 : decode cX9_drop 22 = .ok (.iconst 1, 1) := by decide +kernel
theorem dX9_drop_23 : decode cX9_drop 23 = .ok (.invokevirtual 91, 3) := by decide +kernel
theorem dX9_drop_26 : decode cX9_drop 26 = .ok (.ireturn, 1) := by decide +kernel
theorem dX9_drop_27 : decode cX9_drop 27 = .ok (.aload_n 0, 1) := by decide +kernel
theorem dX9_drop_28 : decode cX9_drop 28 = .ok (.aload_n 0, 1) := by decide +kernel
theorem dX9_drop_29 : decode cX9_drop 29 = .ok (.getfield 10, 3) := by decide +kernel
theorem dX9_drop_32 : decode cX9_drop 32 = .ok (.iload_n 1, 1) := by decide +kernel
theorem dX9_drop_33 : decode cX9_drop 33 = .ok (.invokevirtual 120, 3) := by decide +kernel
theorem dX9_drop_36 : decode cX9_drop 36 = .ok (.invokevirtual 99, 3) := by decide +kernel
theorem dX9_drop_39 : decode cX9_drop 39 = .ok (.ireturn, 1) := by decide +kernel
theorem dX9_feed_0 : decode cX9_feed 0 = .ok (.iload_n 1, 1) := by decide +kernel
theorem dX9_feed_1 : decode cX9_feed 1 = .ok (.iconst 0, 1) := by decide +kernel
theorem dX9_feed_2 : decode cX9_feed 2 = .ok (.sipush 255, 3) := by decide +kernel
theorem dX9_feed_5 : decode cX9_feed 5 = .ok (.invokestatic 86, 3) := by decide +kernel
theorem dX9_feed_8 : decode cX9_feed 8 = .ok (.ifCond .ne 6, 3) := by decide +kernel
theorem dX9_feed_11 : decode cX9_feed 11 = .ok (.ldc 90, 2) := by decide +kernel
theorem dX9_feed_13 : decode cX9_feed 13 = .ok (.ireturn, 1) := by decide +kernel
theorem dX9_feed_14 : decode cX9_feed 14 = .ok (.aload_n 0, 1) := by decide +kernel
theorem dX9_feed_15 : decode cX9_feed 15 = .ok (.getfield 19, 3) := by decide +kernel
theorem dX9_feed_18 : decode cX9_feed 18 = .ok (.invokevirtual 123, 3) := by decide +kernel
theorem dX9_feed_21 : decode cX9_feed 21 = .ok (.ifCond .eq 8, 3) := by decide +kernel
theorem dX9_feed_24 : decode cX9_feed 24 = .ok (.ldc 127, 2) := by decide +kernel
theorem dX9_feed_26 : decode cX9_feed 26 = .ok (.goto 11, 3) := by decide +kernel
theorem dX9_feed_29 : decode cX9_feed 29 = .ok (.aload_n 0, 1) := by decide +kernel
theorem dX9_feed_30 : decode cX9_feed 30 = .ok (.getfield 19, 3) := by decide +kernel
theorem dX9_feed_33 : decode cX9_feed 33 = .ok (.iload_n 1, 1) := by decide +kernel
theorem dX9_feed_34 : decode cX9_feed 34 = .ok (.invokevirtual 128, 3) := by decide +kernel
theorem dX9_feed_37 : decode cX9_feed 37 = .ok (.ireturn, 1) := by decide +kernel
theorem dX9_sky_0 : decode cX9_sky 0 = .ok (.aload_n 0, 1) := by decide +kernel
theorem dX9_sky_1 : decode cX9_sky 1 = .ok (.getfield 28, 3) := by decide +kernel
theorem dX9_sky_4 : decode cX9_sky 4 = .ok (.invokevirtual 131, 3) := by decide +kernel
theorem dX9_sky_7 : decode cX9_sky 7 = .ok (.istore_n 1, 1) := by decide +kernel
theorem dX9_sky_8 : decode cX9_sky 8 = .ok (.aload_n 0, 1) := by decide +kernel
theorem dX9_sky_9 : decode cX9_sky 9 = .ok (.getfield 28, 3) := by decide +kernel
theorem dX9_sky_12 : decode cX9_sky 12 = .ok (.getfield 135, 3) := by decide +kernel
theorem dX9_sky_15 : decode cX9_sky 15 = .ok (.istore_n 2, 1) := by decide +kernel
theorem dX9_sky_16 : decode cX9_sky 16 = .ok (.aload_n 0, 1) := by decide +kernel
theorem dX9_sky_17 : decode cX9_sky 17 = .ok (.getfield 19, 3) := by decide +kernel
theorem dX9_sky_20 : decode cX9_sky 20 = .ok (.iconst 0, 1) := by decide +kernel
theorem dX9_sky_21 : decode cX9_sky 21 = .ok (.putfield 139, 3) := by decide +kernel
theorem dX9_sky_24 : decode cX9_sky 24 = .ok (.iload_n 1, 1) := by decide +kernel
theorem dX9_sky_25 : decode cX9_sky 25 = .ok (.ifCond .eq 13, 3) := by decide +kernel
theorem dX9_sky_28 : decode cX9_sky 28 = .ok (.aload_n 0, 1) := by decide +kernel
theorem dX9_sky_29 : decode cX9_sky 29 = .ok (.iload_n 1, 1) := by decide +kernel
theorem dX9_sky_30 : decode cX9_sky 30 = .ok (.putfield 142, 3) := by decide +kernel
theorem dX9_sky_33 : decode cX9_sky 33 = .ok (.ldc 145, 2) := by decide +kernel
theorem dX9_sky_35 : decode cX9_sky 35 = .ok (.iload_n 2, 1) := by decide +kernel
theorem dX9_sky_36 : decode cX9_sky 36 = .ok (.isub, 1) := by decide +kernel
theorem dX9_sky_37 : decode cX9_sky 37 = .ok (.ireturn, 1) := by decide +kernel
theorem dX9_sky_38 : decode cX9_sky 38 = .ok (.aload_n 0, 1) := by decide +kernel
theorem dX9_sky_39 : decode cX9_sky 39 = .ok (.getfield 35, 3) := by decide +kernel
theorem dX9_sky_42 : decode cX9_sky 42 = .ok (.aload_n 0, 1) := by decide +kernel
theorem dX9_sky_43 : decode cX9_sky 43 = .ok (.getfield 28, 3) := by decide +kernel
theorem dX9_sky_46 : decode cX9_sky 46 = .ok (.getfield 146, 3) := by decide +kernel
theorem dX9_sky_49 : decode cX9_sky 49 = .ok (.invokevirtual 149, 3) := by decide +kernel
theorem dX9_sky_52 : decode cX9_sky 52 = .ok (.aload_n 0, 1) := by decide +kernel
theorem dX9_sky_53 : decode cX9_sky 53 = .ok (.getfield 44, 3) := by decide +kernel
theorem dX9_sky_56 : decode cX9_sky 56 = .ok (.invokevirtual 152, 3) := by decide +kernel
theorem dX9_sky_59 : decode cX9_sky 59 = .ok (.aload_n 0, 1) := by decide +kernel
theorem dX9_sky_60 : decode cX9_sky 60 = .ok (.getfield 35, 3) := by decide +kernel
theorem dX9_sky_63 : decode cX9_sky 63 = .ok (.getfield 155, 3) := by decide +kernel
theorem dX9_sky_66 : decode cX9_sky 66 = .ok (.ireturn, 1) := by decide +kernel
theorem dX9_fault_0 : decode cX9_fault 0 = .ok (.aload_n 0, 1) := by decide +kernel
theorem dX9_fault_1 : decode cX9_fault 1 = .ok (.getfield 142, 3) := by decide +kernel
theorem dX9_fault_4 : decode cX9_fault 4 = .ok (.ireturn, 1) := by decide +kernel
theorem dX9_undo_0 : decode cX9_undo 0 = .ok (.aload_n 0, 1) := by decide +kernel
theorem dX9_undo_1 : decode cX9_undo 1 = .ok (.getfield 44, 3) := by decide +kernel
theorem dX9_undo_4 : decode cX9_undo 4 = .ok (.getfield 158, 3) := by decide +kernel
theorem dX9_undo_7 : decode cX9_undo 7 = .ok (.ifCond .ne 6, 3) := by decide +kernel
theorem dX9_undo_10 : decode cX9_undo 10 = .ok (.ldc 161, 2) := by decide +kernel
theorem dX9_undo_12 : decode cX9_undo 12 = .ok (.ireturn, 1) := by decide +kernel
theorem dX9_undo_13 : decode cX9_undo 13 = .ok (.aload_n 0, 1) := by decide +kernel
theorem dX9_undo_14 : decode cX9_undo 14 = .ok (.getfield 44, 3) := by decide +kernel
theorem dX9_undo_17 : decode cX9_undo 17 = .ok (.invokevirtual 162, 3) := by decide +kernel
theorem dX9_undo_20 : decode cX9_undo 20 = .ok (.aload_n 0, 1) := by decide +kernel
theorem dX9_undo_21 : decode cX9_undo 21 = .ok (.getfield 44, 3) := by decide +kernel
theorem dX9_undo_24 : decode cX9_undo 24 = .ok (.getfield 158, 3) := by decide +kernel
theorem dX9_undo_27 : decode cX9_undo 27 = .ok (.ireturn, 1) := by decide +kernel
theorem dX9_days_0 : decode cX9_days 0 = .ok (.aload_n 0, 1) := by decide +kernel
theorem dX9_days_1 : decode cX9_days 1 = .ok (.invokevirtual 165, 3) := by decide +kernel
theorem dX9_days_4 : decode cX9_days 4 = .ok (.ifCond .eq 6, 3) := by decide +kernel
theorem dX9_days_7 : decode cX9_days 7 = .ok (.ldc 161, 2) := by decide +kernel
theorem dX9_days_9 : decode cX9_days 9 = .ok (.ireturn, 1) := by decide +kernel
theorem dX9_days_10 : decode cX9_days 10 = .ok (.iload_n 1, 1) := by decide +kernel
theorem dX9_days_11 : decode cX9_days 11 = .ok (.iconst 1, 1) := by decide +kernel
theorem dX9_days_12 : decode cX9_days 12 = .ok (.bipush 24, 2) := by decide +kernel
theorem dX9_days_14 : decode cX9_days 14 = .ok (.invokestatic 86, 3) := by decide +kernel
theorem dX9_days_17 : decode cX9_days 17 = .ok (.ifCond .ne 6, 3) := by decide +kernel
theorem dX9_days_20 : decode cX9_days 20 = .ok (.ldc 90, 2) := by decide +kernel
theorem dX9_days_22 : decode cX9_days 22 = .ok (.ireturn, 1) := by decide +kernel
theorem dX9_days_23 : decode cX9_days 23 = .ok (.aload_n 0, 1) := by decide +kernel
theorem dX9_days_24 : decode cX9_days 24 = .ok (.getfield 35, 3) := by decide +kernel
theorem dX9_days_27 : decode cX9_days 27 = .ok (.getfield 168, 3) := by decide +kernel
theorem dX9_days_30 : decode cX9_days 30 = .ok (.iload_n 1, 1) := by decide +kernel
theorem dX9_days_31 : decode cX9_days 31 = .ok (.iadd, 1) := by decide +kernel
theorem dX9_days_32 : decode cX9_days 32 = .ok (.sipush 999, 3) := by decide +kernel
theorem dX9_days_35 : decode cX9_days 35 = .ok (.if_icmp .le 6, 3) := by decide +kernel
theorem dX9_days_38 : decode cX9_days 38 = .ok (.ldc 127, 2) := by decide +kernel
theorem dX9_days_40 : decode cX9_days 40 = .ok (.ireturn, 1) := by decide +kernel
theorem dX9_days_41 : decode cX9_days 41 = .ok (.iconst 0, 1) := by decide +kernel
theorem dX9_days_42 : decode cX9_days 42 = .ok (.istore_n 2, 1) := by decide +kernel
theorem dX9_days_43 : decode cX9_days 43 = .ok (.iconst 0, 1) := by decide +kernel
theorem dX9_days_44 : decode cX9_days 44 = .ok (.istore_n 3, 1) := by decide +kernel
theorem dX9_days_45 : decode cX9_days 45 = .ok (.iload_n 3, 1) := by decide +kernel
theorem dX9_days_46 : decode cX9_days 46 = .ok (.iload_n 1, 1) := by decide +kernel
theorem dX9_days_47 : decode cX9_days 47 = .ok (.if_icmp .ge 26, 3) := by decide +kernel
theorem dX9_days_50 : decode cX9_days 50 = .ok (.aload_n 0, 1) := by decide +kernel
theorem dX9_days_51 : decode cX9_days 51 = .ok (.getfield 44, 3) := by decide +kernel
theorem dX9_days_54 : decode cX9_days 54 = .ok (.invokevirtual 171, 3) := by decide +kernel
theorem dX9_days_57 : decode cX9_days 57 = .ok (.iload_n 2, 1) := by decide +kernel
theorem dX9_days_58 : decode cX9_days 58 = .ok (.aload_n 0, 1) := by decide +kernel
theorem dX9_days_59 : decode cX9_days 59 = .ok (.getfield 35, 3) := by decide +kernel
theorem dX9_days_62 : decode cX9_days 62 = .ok (.invokevirtual 174, 3) := by decide +kernel
theorem dX9_days_65 : decode cX9_days 65 = .ok (.iadd, 1) := by decide +kernel
theorem dX9_days_66 : decode cX9_days 66 = .ok (.istore_n 2, 1) := by decide +kernel
theorem dX9_days_67 : decode cX9_days 67 = .ok (.iinc 3 1, 3) := by decide +kernel
theorem dX9_days_70 : decode cX9_days 70 = .ok (.goto (-25), 3) := by decide +kernel
theorem dX9_days_73 : decode cX9_days 73 = .ok (.iload_n 2, 1) := by decide +kernel
theorem dX9_days_74 : decode cX9_days 74 = .ok (.ireturn, 1) := by decide +kernel
theorem dX9_wind_0 : decode cX9_wind 0 = .ok (.aload_n 0, 1) := by decide +kernel
theorem dX9_wind_1 : decode cX9_wind 1 = .ok (.invokevirtual 165, 3) := by decide +kernel
theorem dX9_wind_4 : decode cX9_wind 4 = .ok (.ifCond .eq 6, 3) := by decide +kernel
theorem dX9_wind_7 : decode cX9_wind 7 = .ok (.ldc 161, 2) := by decide +kernel
theorem dX9_wind_9 : decode cX9_wind 9 = .ok (.ireturn, 1) := by decide +kernel
theorem dX9_wind_10 : decode cX9_wind 10 = .ok (.iload_n 1, 1) := by decide +kernel
theorem dX9_wind_11 : decode cX9_wind 11 = .ok (.iconst 0, 1) := by decide +kernel
theorem dX9_wind_12 : decode cX9_wind 12 = .ok (.bipush 15, 2) := by decide +kernel
theorem dX9_wind_14 : decode cX9_wind 14 = .ok (.invokestatic 86, 3) := by decide +kernel
theorem dX9_wind_17 : decode cX9_wind 17 = .ok (.ifCond .ne 6, 3) := by decide +kernel
theorem dX9_wind_20 : decode cX9_wind 20 = .ok (.ldc 90, 2) := by decide +kernel
theorem dX9_wind_22 : decode cX9_wind 22 = .ok (.ireturn, 1) := by decide +kernel
theorem dX9_wind_23 : decode cX9_wind 23 = .ok (.aload_n 0, 1) := by decide +kernel
theorem dX9_wind_24 : decode cX9_wind 24 = .ok (.getfield 35, 3) := by decide +kernel
theorem dX9_wind_27 : decode cX9_wind 27 = .ok (.getfield 177, 3) := by decide +kernel
theorem dX9_wind_30 : decode cX9_wind 30 = .ok (.istore_n 2, 1) := by decide +kernel
theorem dX9_wind_31 : decode cX9_wind 31 = .ok (.aload_n 0, 1) := by decide +kernel
theorem dX9_wind_32 : decode cX9_wind 32 = .ok (.getfield 44, 3) := by decide +kernel
theorem dX9_wind_35 : decode cX9_wind 35 = .ok (.invokevirtual 171, 3) := by decide +kernel
theorem dX9_wind_38 : decode cX9_wind 38 = .ok (.aload_n 0, 1) := by decide +kernel
theorem dX9_wind_39 : decode cX9_wind 39 = .ok (.getfield 35, 3) := by decide +kernel
theorem dX9_wind_42 : decode cX9_wind 42 = .ok (.iload_n 1, 1) := by decide +kernel
theorem dX9_wind_43 : decode cX9_wind 43 = .ok (.putfield 177, 3) := by decide +kernel
theorem dX9_wind_46 : decode cX9_wind 46 = .ok (.iload_n 2, 1) := by decide +kernel
theorem dX9_wind_47 : decode cX9_wind 47 = .ok (.ireturn, 1) := by decide +kernel
theorem dX9_tow_0 : decode cX9_tow 0 = .ok (.aload_n 0, 1) := by decide +kernel
theorem dX9_tow_1 : decode cX9_tow 1 = .ok (.iload_n 1, 1) := by decide +kernel
theorem dX9_tow_2 : decode cX9_tow 2 = .ok (.invokevirtual 180, 3) := by decide +kernel
theorem dX9_tow_5 : decode cX9_tow 5 = .ok (.ifCond .eq 13, 3) := by decide +kernel
theorem dX9_tow_8 : decode cX9_tow 8 = .ok (.iload_n 2, 1) := by decide +kernel
theorem dX9_tow_9 : decode cX9_tow 9 = .ok (.iconst 1, 1) := by decide +kernel
theorem dX9_tow_10 : decode cX9_tow 10 = .ok (.bipush 15, 2) := by decide +kernel
theorem dX9_tow_12 : decode cX9_tow 12 = .ok (.invokestatic 86, 3) := by decide +kernel
theorem dX9_tow_15 : decode cX9_tow 15 = .ok (.ifCond .ne 6, 3) := by decide +kernel
theorem dX9_tow_18 : decode cX9_tow 18 = .ok (.ldc 90, 2) := by decide +kernel
theorem dX9_tow_20 : decode cX9_tow 20 = .ok (.ireturn, 1) := by decide +kernel
theorem dX9_tow_21 : decode cX9_tow 21 = .ok (.aload_n 0, 1) := by decide +kernel
theorem dX9_tow_22 : decode cX9_tow 22 = .ok (.getfield 35, 3) := by decide +kernel
theorem dX9_tow_25 : decode cX9_tow 25 = .ok (.iload_n 1, 1) := by decide +kernel
theorem dX9_tow_26 : decode cX9_tow 26 = .ok (.invokevirtual 183, 3) := by decide +kernel
theorem dX9_tow_29 : decode cX9_tow 29 = .ok (.ifCond .eq 6, 3) := by decide +kernel
theorem dX9_tow_32 : decode cX9_tow 32 = .ok (.ldc 161, 2) := by decide +kernel
theorem dX9_tow_34 : decode cX9_tow 34 = .ok (.ireturn, 1) := by decide +kernel
theorem dX9_tow_35 : decode cX9_tow 35 = .ok (.aload_n 0, 1) := by decide +kernel
theorem dX9_tow_36 : decode cX9_tow 36 = .ok (.getfield 44, 3) := by decide +kernel
theorem dX9_tow_39 : decode cX9_tow 39 = .ok (.invokevirtual 171, 3) := by decide +kernel
theorem dX9_tow_42 : decode cX9_tow 42 = .ok (.aload_n 0, 1) := by decide +kernel
theorem dX9_tow_43 : decode cX9_tow 43 = .ok (.getfield 35, 3) := by decide +kernel
theorem dX9_tow_46 : decode cX9_tow 46 = .ok (.getfield 186, 3) := by decide +kernel
theorem dX9_tow_49 : decode cX9_tow 49 = .ok (.iload_n 1, 1) := by decide +kernel
theorem dX9_tow_50 : decode cX9_tow 50 = .ok (.aload_n 0, 1) := by decide +kernel
theorem dX9_tow_51 : decode cX9_tow 51 = .ok (.getfield 35, 3) := by decide +kernel
theorem dX9_tow_54 : decode cX9_tow 54 = .ok (.getfield 186, 3) := by decide +kernel
theorem dX9_tow_57 : decode cX9_tow 57 = .ok (.iload_n 1, 1) := by decide +kernel
theorem dX9_tow_58 : decode cX9_tow 58 = .ok (.iaload, 1) := by decide +kernel
theorem dX9_tow_59 : decode cX9_tow 59 = .ok (.iload_n 2, 1) := by decide +kernel
theorem dX9_tow_60 : decode cX9_tow 60 = .ok (.iadd, 1) := by decide +kernel
theorem dX9_tow_61 : decode cX9_tow 61 = .ok (.invokestatic 189, 3) := by decide +kernel
theorem dX9_tow_64 : decode cX9_tow 64 = .ok (.iastore, 1) := by decide +kernel
theorem dX9_tow_65 : decode cX9_tow 65 = .ok (.aload_n 0, 1) := by decide +kernel
theorem dX9_tow_66 : decode cX9_tow 66 = .ok (.getfield 35, 3) := by decide +kernel
theorem dX9_tow_69 : decode cX9_tow 69 = .ok (.getfield 186, 3) := by decide +kernel
theorem dX9_tow_72 : decode cX9_tow 72 = .ok (.iload_n 1, 1) := by decide +kernel
theorem dX9_tow_73 : decode cX9_tow 73 = .ok (.iaload, 1) := by decide +kernel
theorem dX9_tow_74 : decode cX9_tow 74 = .ok (.ireturn, 1) := by decide +kernel
theorem dX9_silk_0 : decode cX9_silk 0 = .ok (.aload_n 0, 1) := by decide +kernel
theorem dX9_silk_1 : decode cX9_silk 1 = .ok (.iload_n 1, 1) := by decide +kernel
theorem dX9_silk_2 : decode cX9_silk 2 = .ok (.invokevirtual 180, 3) := by decide +kernel
theorem dX9_silk_5 : decode cX9_silk 5 = .ok (.ifCond .ne 6, 3) := by decide +kernel
theorem dX9_silk_8 : decode cX9_silk 8 = .ok (.ldc 90, 2) := by decide +kernel
theorem dX9_silk_10 : decode cX9_silk 10 = .ok (.ireturn, 1) := by decide +kernel
theorem dX9_silk_11 : decode cX9_silk 11 = .ok (.aload_n 0, 1) := by decide +kernel
theorem dX9_silk_12 : decode cX9_silk 12 = .ok (.getfield 35, 3) := by decide +kernel
theorem dX9_silk_15 : decode cX9_silk 15 = .ok (.getfield 192, 3) := by decide +kernel
theorem dX9_silk_18 : decode cX9_silk 18 = .ok (.iload_n 1, 1) := by decide +kernel
theorem dX9_silk_19 : decode cX9_silk 19 = .ok (.iaload, 1) := by decide +kernel
theorem dX9_silk_20 : decode cX9_silk 20 = .ok (.aload_n 0, 1) := by decide +kernel
theorem dX9_silk_21 : decode cX9_silk 21 = .ok (.getfield 35, 3) := by decide +kernel
theorem dX9_silk_24 : decode cX9_silk 24 = .ok (.getfield 195, 3) := by decide +kernel
theorem dX9_silk_27 : decode cX9_silk 27 = .ok (.iadd, 1) := by decide +kernel
theorem dX9_silk_28 : decode cX9_silk 28 = .ok (.bipush 99, 2) := by decide +kernel
theorem dX9_silk_30 : decode cX9_silk 30 = .ok (.if_icmp .le 6, 3) := by decide +kernel
theorem dX9_silk_33 : decode cX9_silk 33 = .ok (.ldc 127, 2) := by decide +kernel
theorem dX9_silk_35 : decode cX9_silk 35 = .ok (.ireturn, 1) := by decide +kernel
theorem dX9_silk_36 : decode cX9_silk 36 = .ok (.aload_n 0, 1) := by decide +kernel
theorem dX9_silk_37 : decode cX9_silk 37 = .ok (.getfield 44, 3) := by decide +kernel
theorem dX9_silk_40 : decode cX9_silk 40 = .ok (.invokevirtual 171, 3) := by decide +kernel
theorem dX9_silk_43 : decode cX9_silk 43 = .ok (.aload_n 0, 1) := by decide +kernel
theorem dX9_silk_44 : decode cX9_silk 44 = .ok (.getfield 35, 3) := by decide +kernel
theorem dX9_silk_47 : decode cX9_silk 47 = .ok (.iload_n 1, 1) := by decide +kernel
theorem dX9_silk_48 : decode cX9_silk 48 = .ok (.invokevirtual 198, 3) := by decide +kernel
theorem dX9_silk_51 : decode cX9_silk 51 = .ok (.aload_n 0, 1) := by decide +kernel
theorem dX9_silk_52 : decode cX9_silk 52 = .ok (.getfield 35, 3) := by decide +kernel
theorem dX9_silk_55 : decode cX9_silk 55 = .ok (.getfield 192, 3) := by decide +kernel
theorem dX9_silk_58 : decode cX9_silk 58 = .ok (.iload_n 1, 1) := by decide +kernel
theorem dX9_silk_59 : decode cX9_silk 59 = .ok (.iaload, 1) := by decide +kernel
theorem dX9_silk_60 : decode cX9_silk 60 = .ok (.ireturn, 1) := by decide +kernel
theorem dX9_sign_0 : decode cX9_sign 0 = .ok (.aload_n 0, 1) := by decide +kernel
theorem dX9_sign_1 : decode cX9_sign 1 = .ok (.iload_n 1, 1) := by decide +kernel
theorem dX9_sign_2 : decode cX9_sign 2 = .ok (.invokevirtual 180, 3) := by decide +kernel
theorem dX9_sign_5 : decode cX9_sign 5 = .ok (.ifCond .eq 13, 3) := by decide +kernel
theorem dX9_sign_8 : decode cX9_sign 8 = .ok (.iload_n 2, 1) := by decide +kernel
theorem dX9_sign_9 : decode cX9_sign 9 = .ok (.iconst 0, 1) := by decide +kernel
theorem dX9_sign_10 : decode cX9_sign 10 = .ok (.bipush 9, 2) := by decide +kernel
theorem dX9_sign_12 : decode cX9_sign 12 = .ok (.invokestatic 86, 3) := by decide +kernel
theorem dX9_sign_15 : decode cX9_sign 15 = .ok (.ifCond .ne 6, 3) := by decide +kernel
theorem dX9_sign_18 : decode cX9_sign 18 = .ok (.ldc 90, 2) := by decide +kernel
theorem dX9_sign_20 : decode cX9_sign 20 = .ok (.ireturn, 1) := by decide +kernel
theorem dX9_sign_21 : decode cX9_sign 21 = .ok (.aload_n 0, 1) := by decide +kernel
theorem dX9_sign_22 : decode cX9_sign 22 = .ok (.getfield 35, 3) := by decide +kernel
theorem dX9_sign_25 : decode cX9_sign 25 = .ok (.getfield 202, 3) := by decide +kernel
theorem dX9_sign_28 : decode cX9_sign 28 = .ok (.iload_n 1, 1) := by decide +kernel
theorem dX9_sign_29 : decode cX9_sign 29 = .ok (.iaload, 1) := by decide +kernel
theorem dX9_sign_30 : decode cX9_sign 30 = .ok (.istore_n 3, 1) := by decide +kernel
theorem dX9_sign_31 : decode cX9_sign 31 = .ok (.aload_n 0, 1) := by decide +kernel
theorem dX9_sign_32 : decode cX9_sign 32 = .ok (.getfield 44, 3) := by decide +kernel
theorem dX9_sign_35 : decode cX9_sign 35 = .ok (.invokevirtual 171, 3) := by decide +kernel
theorem dX9_sign_38 : decode cX9_sign 38 = .ok (.aload_n 0, 1) := by decide +kernel
theorem dX9_sign_39 : decode cX9_sign 39 = .ok (.getfield 35, 3) := by decide +kernel
theorem dX9_sign_42 : decode cX9_sign 42 = .ok (.getfield 202, 3) := by decide +kernel
theorem dX9_sign_45 : decode cX9_sign 45 = .ok (.iload_n 1, 1) := by decide +kernel
theorem dX9_sign_46 : decode cX9_sign 46 = .ok (.iload_n 2, 1) := by decide +kernel
theorem dX9_sign_47 : decode cX9_sign 47 = .ok (.iastore, 1) := by decide +kernel
theorem dX9_sign_48 : decode cX9_sign 48 = .ok (.iload_n 3, 1) := by decide +kernel
theorem dX9_sign_49 : decode cX9_sign 49 = .ok (.ireturn, 1) := by decide +kernel
theorem dX9_cloud_0 : decode cX9_cloud 0 = .ok (.aload_n 0, 1) := by decide +kernel
theorem dX9_cloud_1 : decode cX9_cloud 1 = .ok (.iload_n 1, 1) := by decide +kernel
theorem dX9_cloud_2 : decode cX9_cloud 2 = .ok (.invokevirtual 180, 3) := by decide +kernel
theorem dX9_cloud_5 : decode cX9_cloud 5 = .ok (.ifCond .ne 6, 3) := by decide +kernel
theorem dX9_cloud_8 : decode cX9_cloud 8 = .ok (.ldc 90, 2) := by decide +kernel
theorem dX9_cloud_10 : decode cX9_cloud 10 = .ok (.ireturn, 1) := by decide +kernel
theorem dX9_cloud_11 : decode cX9_cloud 11 = .ok (.iload_n 2, 1) := by decide +kernel
theorem dX9_cloud_12 : decode cX9_cloud 12 = .ok (.tableswitch 98 0 5 #[40, 50, 60, 70, 80, 89], 40) := by decide +kernel
theorem dX9_cloud_52 : decode cX9_cloud 52 = .ok (.aload_n 0, 1) := by decide +kernel
theorem dX9_cloud_53 : decode cX9_cloud 53 = .ok (.getfield 35, 3) := by decide +kernel
theorem dX9_cloud_56 : decode cX9_cloud 56 = .ok (.getfield 186, 3) := by decide +kernel
theorem dX9_cloud_59 : decode cX9_cloud 59 = .ok (.iload_n 1, 1) := by decide +kernel
theorem dX9_cloud_60 : decode cX9_cloud 60 = .ok (.iaload, 1) := by decide +kernel
theorem dX9_cloud_61 : decode cX9_cloud 61 = .ok (.ireturn, 1) := by decide +kernel
theorem dX9_cloud_62 : decode cX9_cloud 62 = .ok (.aload_n 0, 1) := by decide +kernel
theorem dX9_cloud_63 : decode cX9_cloud 63 = .ok (.getfield 35, 3) := by decide +kernel
theorem dX9_cloud_66 : decode cX9_cloud 66 = .ok (.getfield 205, 3) := by decide +kernel
theorem dX9_cloud_69 : decode cX9_cloud 69 = .ok (.iload_n 1, 1) := by decide +kernel
theorem dX9_cloud_70 : decode cX9_cloud 70 = .ok (.iaload, 1) := by decide +kernel
theorem dX9_cloud_71 : decode cX9_cloud 71 = .ok (.ireturn, 1) := by decide +kernel
theorem dX9_cloud_72 : decode cX9_cloud 72 = .ok (.aload_n 0, 1) := by decide +kernel
theorem dX9_cloud_73 : decode cX9_cloud 73 = .ok (.getfield 35, 3) := by decide +kernel
theorem dX9_cloud_76 : decode cX9_cloud 76 = .ok (.getfield 192, 3) := by decide +kernel
theorem dX9_cloud_79 : decode cX9_cloud 79 = .ok (.iload_n 1, 1) := by decide +kernel
theorem dX9_cloud_80 : decode cX9_cloud 80 = .ok (.iaload, 1) := by decide +kernel
theorem dX9_cloud_81 : decode cX9_cloud 81 = .ok (.ireturn, 1) := by decide +kernel
theorem dX9_cloud_82 : decode cX9_cloud 82 = .ok (.aload_n 0, 1) := by decide +kernel
theorem dX9_cloud_83 : decode cX9_cloud 83 = .ok (.getfield 35, 3) := by decide +kernel
theorem dX9_cloud_86 : decode cX9_cloud 86 = .ok (.getfield 202, 3) := by decide +kernel
theorem dX9_cloud_89 : decode cX9_cloud 89 = .ok (.iload_n 1, 1) := by decide +kernel
theorem dX9_cloud_90 : decode cX9_cloud 90 = .ok (.iaload, 1) := by decide +kernel
theorem dX9_cloud_91 : decode cX9_cloud 91 = .ok (.ireturn, 1) := by decide +kernel
theorem dX9_cloud_92 : decode cX9_cloud 92 = .ok (.aload_n 0, 1) := by decide +kernel
theorem dX9_cloud_93 : decode cX9_cloud 93 = .ok (.getfield 35, 3) := by decide +kernel
theorem dX9_cloud_96 : decode cX9_cloud 96 = .ok (.iload_n 1, 1) := by decide +kernel
theorem dX9_cloud_97 : decode cX9_cloud 97 = .ok (.invokevirtual 208, 3) := by decide +kernel
theorem dX9_cloud_100 : decode cX9_cloud 100 = .ok (.ireturn, 1) := by decide +kernel
theorem dX9_cloud_101 : decode cX9_cloud 101 = .ok (.aload_n 0, 1) := by decide +kernel
theorem dX9_cloud_102 : decode cX9_cloud 102 = .ok (.getfield 35, 3) := by decide +kernel
theorem dX9_cloud_105 : decode cX9_cloud 105 = .ok (.iload_n 1, 1) := by decide +kernel
theorem dX9_cloud_106 : decode cX9_cloud 106 = .ok (.invokevirtual 211, 3) := by decide +kernel
theorem dX9_cloud_109 : decode cX9_cloud 109 = .ok (.ireturn, 1) := by decide +kernel
theorem dX9_cloud_110 : decode cX9_cloud 110 = .ok (.ldc 90, 2) := by decide +kernel
theorem dX9_cloud_112 : decode cX9_cloud 112 = .ok (.ireturn, 1) := by decide +kernel
theorem dX9_field_0 : decode cX9_field 0 = .ok (.aload_n 0, 1) := by decide +kernel
theorem dX9_field_1 : decode cX9_field 1 = .ok (.invokevirtual 165, 3) := by decide +kernel
theorem dX9_field_4 : decode cX9_field 4 = .ok (.ifCond .eq 6, 3) := by decide +kernel
theorem dX9_field_7 : decode cX9_field 7 = .ok (.ldc 161, 2) := by decide +kernel
theorem dX9_field_9 : decode cX9_field 9 = .ok (.ireturn, 1) := by decide +kernel
theorem dX9_field_10 : decode cX9_field 10 = .ok (.iload_n 1, 1) := by decide +kernel
theorem dX9_field_11 : decode cX9_field 11 = .ok (.invokestatic 214, 3) := by decide +kernel
theorem dX9_field_14 : decode cX9_field 14 = .ok (.ifCond .eq 10, 3) := by decide +kernel
theorem dX9_field_17 : decode cX9_field 17 = .ok (.iload_n 2, 1) := by decide +kernel
theorem dX9_field_18 : decode cX9_field 18 = .ok (.invokestatic 217, 3) := by decide +kernel
theorem dX9_field_21 : decode cX9_field 21 = .ok (.ifCond .ne 6, 3) := by decide +kernel
theorem dX9_field_24 : decode cX9_field 24 = .ok (.ldc 90, 2) := by decide +kernel
theorem dX9_field_26 : decode cX9_field 26 = .ok (.ireturn, 1) := by decide +kernel
theorem dX9_field_27 : decode cX9_field 27 = .ok (.iload_n 2, 1) := by decide +kernel
theorem dX9_field_28 : decode cX9_field 28 = .ok (.ifCond .ne 15, 3) := by decide +kernel
theorem dX9_field_31 : decode cX9_field 31 = .ok (.aload_n 0, 1) := by decide +kernel
theorem dX9_field_32 : decode cX9_field 32 = .ok (.getfield 35, 3) := by decide +kernel
theorem dX9_field_35 : decode cX9_field 35 = .ok (.getfield 220, 3) := by decide +kernel
theorem dX9_field_38 : decode cX9_field 38 = .ok (.iload_n 1, 1) := by decide +kernel
theorem dX9_field_39 : decode cX9_field 39 = .ok (.iaload, 1) := by decide +kernel
theorem dX9_field_40 : decode cX9_field 40 = .ok (.goto 11, 3) := by decide +kernel
theorem dX9_field_43 : decode cX9_field 43 = .ok (.aload_n 0, 1) := by decide +kernel
theorem dX9_field_44 : decode cX9_field 44 = .ok (.getfield 35, 3) := by decide +kernel
theorem dX9_field_47 : decode cX9_field 47 = .ok (.iload_n 1, 1) := by decide +kernel
theorem dX9_field_48 : decode cX9_field 48 = .ok (.invokevirtual 223, 3) := by decide +kernel
theorem dX9_field_51 : decode cX9_field 51 = .ok (.ireturn, 1) := by decide +kernel
theorem dX9_ahead_0 : decode cX9_ahead 0 = .ok (.aload_n 0, 1) := by decide +kernel
theorem dX9_ahead_1 : decode cX9_ahead 1 = .ok (.iload_n 1, 1) := by decide +kernel
theorem dX9_ahead_2 : decode cX9_ahead 2 = .ok (.invokevirtual 180, 3) := by decide +kernel
theorem dX9_ahead_5 : decode cX9_ahead 5 = .ok (.ifCond .eq 20, 3) := by decide +kernel
theorem dX9_ahead_8 : decode cX9_ahead 8 = .ok (.iload_n 2, 1) := by decide +kernel
theorem dX9_ahead_9 : decode cX9_ahead 9 = .ok (.iconst 0, 1) := by decide +kernel
theorem dX9_ahead_10 : decode cX9_ahead 10 = .ok (.bipush 60, 2) := by decide +kernel
theorem dX9_ahead_12 : decode cX9_ahead 12 = .ok (.invokestatic 86, 3) := by decide +kernel
theorem dX9_ahead_15 : decode cX9_ahead 15 = .ok (.ifCond .eq 10, 3) := by decide +kernel
theorem dX9_ahead_18 : decode cX9_ahead 18 = .ok (.iload_n 3, 1) := by decide +kernel
theorem dX9_ahead_19 : decode cX9_ahead 19 = .ok (.invokestatic 217, 3) := by decide +kernel
theorem dX9_ahead_22 : decode cX9_ahead 22 = .ok (.ifCond .ne 6, 3) := by decide +kernel
theorem dX9_ahead_25 : decode cX9_ahead 25 = .ok (.ldc 90, 2) := by decide +kernel
theorem dX9_ahead_27 : decode cX9_ahead 27 = .ok (.ireturn, 1) := by decide +kernel
theorem dX9_ahead_28 : decode cX9_ahead 28 = .ok (.aload_n 0, 1) := by decide +kernel
theorem dX9_ahead_29 : decode cX9_ahead 29 = .ok (.getfield 57, 3) := by decide +kernel
theorem dX9_ahead_32 : decode cX9_ahead 32 = .ok (.iload_n 2, 1) := by decide +kernel
theorem dX9_ahead_33 : decode cX9_ahead 33 = .ok (.invokevirtual 226, 3) := by decide +kernel
theorem dX9_ahead_36 : decode cX9_ahead 36 = .ok (.astore 4, 2) := by decide +kernel
theorem dX9_ahead_38 : decode cX9_ahead 38 = .ok (.aload 4, 2) := by decide +kernel
theorem dX9_ahead_40 : decode cX9_ahead 40 = .ok (.iload_n 1, 1) := by decide +kernel
theorem dX9_ahead_41 : decode cX9_ahead 41 = .ok (.invokevirtual 183, 3) := by decide +kernel
theorem dX9_ahead_44 : decode cX9_ahead 44 = .ok (.ifCond .eq 6, 3) := by decide +kernel
theorem dX9_ahead_47 : decode cX9_ahead 47 = .ok (.ldc 230, 2) := by decide +kernel
theorem dX9_ahead_49 : decode cX9_ahead 49 = .ok (.ireturn, 1) := by decide +kernel
theorem dX9_ahead_50 : decode cX9_ahead 50 = .ok (.iload_n 3, 1) := by decide +kernel
theorem dX9_ahead_51 : decode cX9_ahead 51 = .ok (.ifCond .ne 13, 3) := by decide +kernel
theorem dX9_ahead_54 : decode cX9_ahead 54 = .ok (.aload 4, 2) := by decide +kernel
theorem dX9_ahead_56 : decode cX9_ahead 56 = .ok (.getfield 186, 3) := by decide +kernel
theorem dX9_ahead_59 : decode cX9_ahead 59 = .ok (.iload_n 1, 1) := by decide +kernel
theorem dX9_ahead_60 : decode cX9_ahead 60 = .ok (.iaload, 1) := by decide +kernel
theorem dX9_ahead_61 : decode cX9_ahead 61 = .ok (.goto 10, 3) := by decide +kernel
theorem dX9_ahead_64 : decode cX9_ahead 64 = .ok (.aload 4, 2) := by decide +kernel
theorem dX9_ahead_66 : decode cX9_ahead 66 = .ok (.getfield 205, 3) := by decide +kernel
theorem dX9_ahead_69 : decode cX9_ahead 69 = .ok (.iload_n 1, 1) := by decide +kernel
theorem dX9_ahead_70 : decode cX9_ahead 70 = .ok (.iaload, 1) := by decide +kernel
theorem dX9_ahead_71 : decode cX9_ahead 71 = .ok (.ireturn, 1) := by decide +kernel
theorem dX9_over_0 : decode cX9_over 0 = .ok (.aload_n 0, 1) := by decide +kernel
theorem dX9_over_1 : decode cX9_over 1 = .ok (.invokevirtual 165, 3) := by decide +kernel
theorem dX9_over_4 : decode cX9_over 4 = .ok (.ifCond .eq 6, 3) := by decide +kernel
theorem dX9_over_7 : decode cX9_over 7 = .ok (.ldc 161, 2) := by decide +kernel
theorem dX9_over_9 : decode cX9_over 9 = .ok (.ireturn, 1) := by decide +kernel
theorem dX9_over_10 : decode cX9_over 10 = .ok (.iload_n 1, 1) := by decide +kernel
theorem dX9_over_11 : decode cX9_over 11 = .ok (.invokestatic 214, 3) := by decide +kernel
theorem dX9_over_14 : decode cX9_over 14 = .ok (.ifCond .eq 13, 3) := by decide +kernel
theorem dX9_over_17 : decode cX9_over 17 = .ok (.iload_n 2, 1) := by decide +kernel
theorem dX9_over_18 : decode cX9_over 18 = .ok (.iconst 0, 1) := by decide +kernel
theorem dX9_over_19 : decode cX9_over 19 = .ok (.bipush 60, 2) := by decide +kernel
theorem dX9_over_21 : decode cX9_over 21 = .ok (.invokestatic 86, 3) := by decide +kernel
theorem dX9_over_24 : decode cX9_over 24 = .ok (.ifCond .ne 6, 3) := by decide +kernel
theorem dX9_over_27 : decode cX9_over 27 = .ok (.ldc 90, 2) := by decide +kernel
theorem dX9_over_29 : decode cX9_over 29 = .ok (.ireturn, 1) := by decide +kernel
theorem dX9_over_30 : decode cX9_over 30 = .ok (.aload_n 0, 1) := by decide +kernel
theorem dX9_over_31 : decode cX9_over 31 = .ok (.getfield 57, 3) := by decide +kernel
theorem dX9_over_34 : decode cX9_over 34 = .ok (.iload_n 2, 1) := by decide +kernel
theorem dX9_over_35 : decode cX9_over 35 = .ok (.invokevirtual 226, 3) := by decide +kernel
theorem dX9_over_38 : decode cX9_over 38 = .ok (.iload_n 1, 1) := by decide +kernel
theorem dX9_over_39 : decode cX9_over 39 = .ok (.invokevirtual 223, 3) := by decide +kernel
theorem dX9_over_42 : decode cX9_over 42 = .ok (.ireturn, 1) := by decide +kernel
theorem dX9_falls_0 : decode cX9_falls 0 = .ok (.aload_n 0, 1) := by decide +kernel
theorem dX9_falls_1 : decode cX9_falls 1 = .ok (.invokevirtual 165, 3) := by decide +kernel
theorem dX9_falls_4 : decode cX9_falls 4 = .ok (.ifCond .eq 6, 3) := by decide +kernel
theorem dX9_falls_7 : decode cX9_falls 7 = .ok (.ldc 161, 2) := by decide +kernel
theorem dX9_falls_9 : decode cX9_falls 9 = .ok (.ireturn, 1) := by decide +kernel
theorem dX9_falls_10 : decode cX9_falls 10 = .ok (.iload_n 1, 1) := by decide +kernel
theorem dX9_falls_11 : decode cX9_falls 11 = .ok (.invokestatic 214, 3) := by decide +kernel
theorem dX9_falls_14 : decode cX9_falls 14 = .ok (.ifCond .eq 13, 3) := by decide +kernel
theorem dX9_falls_17 : decode cX9_falls 17 = .ok (.iload_n 2, 1) := by decide +kernel
theorem dX9_falls_18 : decode cX9_falls 18 = .ok (.iconst 0, 1) := by decide +kernel
theorem dX9_falls_19 : decode cX9_falls 19 = .ok (.bipush 60, 2) := by decide +kernel
theorem dX9_falls_21 : decode cX9_falls 21 = .ok (.invokestatic 86, 3) := by decide +kernel
theorem dX9_falls_24 : decode cX9_falls 24 = .ok (.ifCond .ne 6, 3) := by decide +kernel
theorem dX9_falls_27 : decode cX9_falls 27 = .ok (.ldc 90, 2) := by decide +kernel
theorem dX9_falls_29 : decode cX9_falls 29 = .ok (.ireturn, 1) := by decide +kernel
theorem dX9_falls_30 : decode cX9_falls 30 = .ok (.aload_n 0, 1) := by decide +kernel
theorem dX9_falls_31 : decode cX9_falls 31 = .ok (.getfield 57, 3) := by decide +kernel
theorem dX9_falls_34 : decode cX9_falls 34 = .ok (.iload_n 2, 1) := by decide +kernel
theorem dX9_falls_35 : decode cX9_falls 35 = .ok (.invokevirtual 226, 3) := by decide +kernel
theorem dX9_falls_38 : decode cX9_falls 38 = .ok (.getfield 220, 3) := by decide +kernel
theorem dX9_falls_41 : decode cX9_falls 41 = .ok (.iload_n 1, 1) := by decide +kernel
theorem dX9_falls_42 : decode cX9_falls 42 = .ok (.iaload, 1) := by decide +kernel
theorem dX9_falls_43 : decode cX9_falls 43 = .ok (.ireturn, 1) := by decide +kernel
theorem dX9_dry_0 : decode cX9_dry 0 = .ok (.aload_n 0, 1) := by decide +kernel
theorem dX9_dry_1 : decode cX9_dry 1 = .ok (.invokevirtual 165, 3) := by decide +kernel
theorem dX9_dry_4 : decode cX9_dry 4 = .ok (.ifCond .eq 6, 3) := by decide +kernel
theorem dX9_dry_7 : decode cX9_dry 7 = .ok (.ldc 161, 2) := by decide +kernel
theorem dX9_dry_9 : decode cX9_dry 9 = .ok (.ireturn, 1) := by decide +kernel
theorem dX9_dry_10 : decode cX9_dry 10 = .ok (.iload_n 1, 1) := by decide +kernel
theorem dX9_dry_11 : decode cX9_dry 11 = .ok (.iconst 0, 1) := by decide +kernel
theorem dX9_dry_12 : decode cX9_dry 12 = .ok (.bipush 60, 2) := by decide +kernel
theorem dX9_dry_14 : decode cX9_dry 14 = .ok (.invokestatic 86, 3) := by decide +kernel
theorem dX9_dry_17 : decode cX9_dry 17 = .ok (.ifCond .ne 6, 3) := by decide +kernel
theorem dX9_dry_20 : decode cX9_dry 20 = .ok (.ldc 90, 2) := by decide +kernel
theorem dX9_dry_22 : decode cX9_dry 22 = .ok (.ireturn, 1) := by decide +kernel
theorem dX9_dry_23 : decode cX9_dry 23 = .ok (.aload_n 0, 1) := by decide +kernel
theorem dX9_dry_24 : decode cX9_dry 24 = .ok (.getfield 57, 3) := by decide +kernel
theorem dX9_dry_27 : decode cX9_dry 27 = .ok (.iload_n 1, 1) := by decide +kernel
theorem dX9_dry_28 : decode cX9_dry 28 = .ok (.invokevirtual 226, 3) := by decide +kernel
theorem dX9_dry_31 : decode cX9_dry 31 = .ok (.invokevirtual 231, 3) := by decide +kernel
theorem dX9_dry_34 : decode cX9_dry 34 = .ok (.ireturn, 1) := by decide +kernel
theorem dX9_first_0 : decode cX9_first 0 = .ok (.aload_n 0, 1) := by decide +kernel
theorem dX9_first_1 : decode cX9_first 1 = .ok (.invokevirtual 165, 3) := by decide +kernel
theorem dX9_first_4 : decode cX9_first 4 = .ok (.ifCond .eq 6, 3) := by decide +kernel
theorem dX9_first_7 : decode cX9_first 7 = .ok (.ldc 161, 2) := by decide +kernel
theorem dX9_first_9 : decode cX9_first 9 = .ok (.ireturn, 1) := by decide +kernel
theorem dX9_first_10 : decode cX9_first 10 = .ok (.iload_n 1, 1) := by decide +kernel
theorem dX9_first_11 : decode cX9_first 11 = .ok (.invokestatic 214, 3) := by decide +kernel
theorem dX9_first_14 : decode cX9_first 14 = .ok (.ifCond .eq 14, 3) := by decide +kernel
theorem dX9_first_17 : decode cX9_first 17 = .ok (.aload_n 0, 1) := by decide +kernel
theorem dX9_first_18 : decode cX9_first 18 = .ok (.getfield 57, 3) := by decide +kernel
theorem dX9_first_21 : decode cX9_first 21 = .ok (.iload_n 1, 1) := by decide +kernel
theorem dX9_first_22 : decode cX9_first 22 = .ok (.invokevirtual 234, 3) := by decide +kernel
theorem dX9_first_25 : decode cX9_first 25 = .ok (.goto 5, 3) := by decide +kernel
theorem dX9_first_28 : decode cX9_first 28 = .ok (.ldc 90, 2) := by decide +kernel
theorem dX9_first_30 : decode cX9_first 30 = .ok (.ireturn, 1) := by decide +kernel
theorem dX9_gone_0 : decode cX9_gone 0 = .ok (.aload_n 0, 1) := by decide +kernel
theorem dX9_gone_1 : decode cX9_gone 1 = .ok (.iload_n 1, 1) := by decide +kernel
theorem dX9_gone_2 : decode cX9_gone 2 = .ok (.invokevirtual 180, 3) := by decide +kernel
theorem dX9_gone_5 : decode cX9_gone 5 = .ok (.ifCond .eq 14, 3) := by decide +kernel
theorem dX9_gone_8 : decode cX9_gone 8 = .ok (.aload_n 0, 1) := by decide +kernel
theorem dX9_gone_9 : decode cX9_gone 9 = .ok (.getfield 57, 3) := by decide +kernel
theorem dX9_gone_12 : decode cX9_gone 12 = .ok (.iload_n 1, 1) := by decide +kernel
theorem dX9_gone_13 : decode cX9_gone 13 = .ok (.invokevirtual 237, 3) := by decide +kernel
theorem dX9_gone_16 : decode cX9_gone 16 = .ok (.goto 5, 3) := by decide +kernel
theorem dX9_gone_19 : decode cX9_gone 19 = .ok (.ldc 90, 2) := by decide +kernel
theorem dX9_gone_21 : decode cX9_gone 21 = .ok (.ireturn, 1) := by decide +kernel
theorem dX9_storm_0 : decode cX9_storm 0 = .ok (.aload_n 0, 1) := by decide +kernel
theorem dX9_storm_1 : decode cX9_storm 1 = .ok (.iload_n 1, 1) := by decide +kernel
theorem dX9_storm_2 : decode cX9_storm 2 = .ok (.iload_n 2, 1) := by decide +kernel
theorem dX9_storm_3 : decode cX9_storm 3 = .ok (.invokevirtual 240, 3) := by decide +kernel
theorem dX9_storm_6 : decode cX9_storm 6 = .ok (.ifCond .eq 15, 3) := by decide +kernel
theorem dX9_storm_9 : decode cX9_storm 9 = .ok (.aload_n 0, 1) := by decide +kernel
theorem dX9_storm_10 : decode cX9_storm 10 = .ok (.getfield 57, 3) := by decide +kernel
theorem dX9_storm_13 : decode cX9_storm 13 = .ok (.iload_n 1, 1) := by decide +kernel
theorem dX9_storm_14 : decode cX9_storm 14 = .ok (.iload_n 2, 1) := by decide +kernel
theorem dX9_storm_15 : decode cX9_storm 15 = .ok (.invokevirtual 244, 3) := by decide +kernel
theorem dX9_storm_18 : decode cX9_storm 18 = .ok (.goto 5, 3) := by decide +kernel
theorem dX9_storm_21 : decode cX9_storm 21 = .ok (.ldc 90, 2) := by decide +kernel
theorem dX9_storm_23 : decode cX9_storm 23 = .ok (.ireturn, 1) := by decide +kernel
theorem dX9_blue_0 : decode cX9_blue 0 = .ok (.aload_n 0, 1) := by decide +kernel
theorem dX9_blue_1 : decode cX9_blue 1 = .ok (.invokevirtual 165, 3) := by decide +kernel
theorem dX9_blue_4 : decode cX9_blue 4 = .ok (.ifCond .eq 6, 3) := by decide +kernel
theorem dX9_blue_7 : decode cX9_blue 7 = .ok (.ldc 161, 2) := by decide +kernel
theorem dX9_blue_9 : decode cX9_blue 9 = .ok (.ireturn, 1) := by decide +kernel
theorem dX9_blue_10 : decode cX9_blue 10 = .ok (.iload_n 1, 1) := by decide +kernel
theorem dX9_blue_11 : decode cX9_blue 11 = .ok (.invokestatic 217, 3) := by decide +kernel
theorem dX9_blue_14 : decode cX9_blue 14 = .ok (.ifCond .ne 6, 3) := by decide +kernel
theorem dX9_blue_17 : decode cX9_blue 17 = .ok (.ldc 90, 2) := by decide +kernel
theorem dX9_blue_19 : decode cX9_blue 19 = .ok (.ireturn, 1) := by decide +kernel
theorem dX9_blue_20 : decode cX9_blue 20 = .ok (.aload_n 0, 1) := by decide +kernel
theorem dX9_blue_21 : decode cX9_blue 21 = .ok (.getfield 35, 3) := by decide +kernel
theorem dX9_blue_24 : decode cX9_blue 24 = .ok (.invokevirtual 248, 3) := by decide +kernel
theorem dX9_blue_27 : decode cX9_blue 27 = .ok (.istore_n 2, 1) := by decide +kernel
theorem dX9_blue_28 : decode cX9_blue 28 = .ok (.iconst 0, 1) := by decide +kernel
theorem dX9_blue_29 : decode cX9_blue 29 = .ok (.istore_n 3, 1) := by decide +kernel
theorem dX9_blue_30 : decode cX9_blue 30 = .ok (.ldc 230, 2) := by decide +kernel
theorem dX9_blue_32 : decode cX9_blue 32 = .ok (.istore 4, 2) := by decide +kernel
theorem dX9_blue_34 : decode cX9_blue 34 = .ok (.iconst 0, 1) := by decide +kernel
theorem dX9_blue_35 : decode cX9_blue 35 = .ok (.istore 5, 2) := by decide +kernel
theorem dX9_blue_37 : decode cX9_blue 37 = .ok (.iload 5, 2) := by decide +kernel
theorem dX9_blue_39 : decode cX9_blue 39 = .ok (.bipush 16, 2) := by decide +kernel
theorem dX9_blue_41 : decode cX9_blue 41 = .ok (.if_icmp .ge 30, 3) := by decide +kernel
theorem dX9_blue_44 : decode cX9_blue 44 = .ok (.iload 5, 2) := by decide +kernel
theorem dX9_blue_46 : decode cX9_blue 46 = .ok (.iload_n 2, 1) := by decide +kernel
theorem dX9_blue_47 : decode cX9_blue 47 = .ok (.invokestatic 251, 3) := by decide +kernel
theorem dX9_blue_50 : decode cX9_blue 50 = .ok (.istore 6, 2) := by decide +kernel
theorem dX9_blue_52 : decode cX9_blue 52 = .ok (.iload 6, 2) := by decide +kernel
theorem dX9_blue_54 : decode cX9_blue 54 = .ok (.iload_n 3, 1) := by decide +kernel
theorem dX9_blue_55 : decode cX9_blue 55 = .ok (.if_icmp .le 10, 3) := by decide +kernel
theorem dX9_blue_58 : decode cX9_blue 58 = .ok (.iload 6, 2) := by decide +kernel
theorem dX9_blue_60 : decode cX9_blue 60 = .ok (.istore_n 3, 1) := by decide +kernel
theorem dX9_blue_61 : decode cX9_blue 61 = .ok (.iload 5, 2) := by decide +kernel
theorem dX9_blue_63 : decode cX9_blue 63 = .ok (.istore 4, 2) := by decide +kernel
theorem dX9_blue_65 : decode cX9_blue 65 = .ok (.iinc 5 1, 3) := by decide +kernel
theorem dX9_blue_68 : decode cX9_blue 68 = .ok (.goto (-31), 3) := by decide +kernel
theorem dX9_blue_71 : decode cX9_blue 71 = .ok (.iload_n 1, 1) := by decide +kernel
theorem dX9_blue_72 : decode cX9_blue 72 = .ok (.ifCond .ne 7, 3) := by decide +kernel
theorem dX9_blue_75 : decode cX9_blue 75 = .ok (.iload_n 3, 1) := by decide +kernel
theorem dX9_blue_76 : decode cX9_blue 76 = .ok (.goto 5, 3) := by decide +kernel
theorem dX9_blue_79 : decode cX9_blue 79 = .ok (.iload 4, 2) := by decide +kernel
theorem dX9_blue_81 : decode cX9_blue 81 = .ok (.ireturn, 1) := by decide +kernel
theorem dX9_leastTow_0 : decode cX9_leastTow 0 = .ok (.aload_n 0, 1) := by decide +kernel
theorem dX9_leastTow_1 : decode cX9_leastTow 1 = .ok (.invokevirtual 165, 3) := by decide +kernel
theorem dX9_leastTow_4 : decode cX9_leastTow 4 = .ok (.ifCond .eq 6, 3) := by decide +kernel
theorem dX9_leastTow_7 : decode cX9_leastTow 7 = .ok (.ldc 161, 2) := by decide +kernel
theorem dX9_leastTow_9 : decode cX9_leastTow 9 = .ok (.ireturn, 1) := by decide +kernel
theorem dX9_leastTow_10 : decode cX9_leastTow 10 = .ok (.iload_n 2, 1) := by decide +kernel
theorem dX9_leastTow_11 : decode cX9_leastTow 11 = .ok (.iconst 1, 1) := by decide +kernel
theorem dX9_leastTow_12 : decode cX9_leastTow 12 = .ok (.bipush 24, 2) := by decide +kernel
theorem dX9_leastTow_14 : decode cX9_leastTow 14 = .ok (.invokestatic 86, 3) := by decide +kernel
theorem dX9_leastTow_17 : decode cX9_leastTow 17 = .ok (.ifCond .eq 30, 3) := by decide +kernel
theorem dX9_leastTow_20 : decode cX9_leastTow 20 = .ok (.iload_n 1, 1) := by decide +kernel
theorem dX9_leastTow_21 : decode cX9_leastTow 21 = .ok (.iconst 0, 1) := by decide +kernel
theorem dX9_leastTow_22 : decode cX9_leastTow 22 = .ok (.ldc 254, 2) := by decide +kernel
theorem dX9_leastTow_24 : decode cX9_leastTow 24 = .ok (.invokestatic 86, 3) := by decide +kernel
theorem dX9_leastTow_27 : decode cX9_leastTow 27 = .ok (.ifCond .eq 20, 3) := by decide +kernel
theorem dX9_leastTow_30 : decode cX9_leastTow 30 = .ok (.iload_n 3, 1) := by decide +kernel
theorem dX9_leastTow_31 : decode cX9_leastTow 31 = .ok (.iconst (-1), 1) := by decide +kernel
theorem dX9_leastTow_32 : decode cX9_leastTow 32 = .ok (.aload_n 0, 1) := by decide +kernel
theorem dX9_leastTow_33 : decode cX9_leastTow 33 = .ok (.getfield 35, 3) := by decide +kernel
theorem dX9_leastTow_36 : decode cX9_leastTow 36 = .ok (.getfield 155, 3) := by decide +kernel
theorem dX9_leastTow_39 : decode cX9_leastTow 39 = .ok (.iconst 1, 1) := by decide +kernel
theorem dX9_leastTow_40 : decode cX9_leastTow 40 = .ok (.isub, 1) := by decide +kernel
theorem dX9_leastTow_41 : decode cX9_leastTow 41 = .ok (.invokestatic 86, 3) := by decide +kernel
theorem dX9_leastTow_44 : decode cX9_leastTow 44 = .ok (.ifCond .ne 6, 3) := by decide +kernel
theorem dX9_leastTow_47 : decode cX9_leastTow 47 = .ok (.ldc 90, 2) := by decide +kernel
theorem dX9_leastTow_49 : decode cX9_leastTow 49 = .ok (.ireturn, 1) := by decide +kernel
theorem dX9_leastTow_50 : decode cX9_leastTow 50 = .ok (.aload_n 0, 1) := by decide +kernel
theorem dX9_leastTow_51 : decode cX9_leastTow 51 = .ok (.getfield 64, 3) := by decide +kernel
theorem dX9_leastTow_54 : decode cX9_leastTow 54 = .ok (.iload_n 1, 1) := by decide +kernel
theorem dX9_leastTow_55 : decode cX9_leastTow 55 = .ok (.iload_n 2, 1) := by decide +kernel
theorem dX9_leastTow_56 : decode cX9_leastTow 56 = .ok (.invokevirtual 255, 3) := by decide +kernel
theorem dX9_leastTow_59 : decode cX9_leastTow 59 = .ok (.ifCond .ne 6, 3) := by decide +kernel
theorem dX9_leastTow_62 : decode cX9_leastTow 62 = .ok (.ldc 230, 2) := by decide +kernel
theorem dX9_leastTow_64 : decode cX9_leastTow 64 = .ok (.ireturn, 1) := by decide +kernel
theorem dX9_leastTow_65 : decode cX9_leastTow 65 = .ok (.iload_n 3, 1) := by decide +kernel
theorem dX9_leastTow_66 : decode cX9_leastTow 66 = .ok (.ifCond .ge 13, 3) := by decide +kernel
theorem dX9_leastTow_69 : decode cX9_leastTow 69 = .ok (.aload_n 0, 1) := by decide +kernel
theorem dX9_leastTow_70 : decode cX9_leastTow 70 = .ok (.getfield 64, 3) := by decide +kernel
theorem dX9_leastTow_73 : decode cX9_leastTow 73 = .ok (.getfield 258, 3) := by decide +kernel
theorem dX9_leastTow_76 : decode cX9_leastTow 76 = .ok (.goto 12, 3) := by decide +kernel
theorem dX9_leastTow_79 : decode cX9_leastTow 79 = .ok (.aload_n 0, 1) := by decide +kernel
theorem dX9_leastTow_80 : decode cX9_leastTow 80 = .ok (.getfield 64, 3) := by decide +kernel
theorem dX9_leastTow_83 : decode cX9_leastTow 83 = .ok (.getfield 261, 3) := by decide +kernel
theorem dX9_leastTow_86 : decode cX9_leastTow 86 = .ok (.iload_n 3, 1) := by decide +kernel
theorem dX9_leastTow_87 : decode cX9_leastTow 87 = .ok (.iaload, 1) := by decide +kernel
theorem dX9_leastTow_88 : decode cX9_leastTow 88 = .ok (.ireturn, 1) := by decide +kernel
theorem dX9_harvest_0 : decode cX9_harvest 0 = .ok (.aload_n 0, 1) := by decide +kernel
theorem dX9_harvest_1 : decode cX9_harvest 1 = .ok (.invokevirtual 165, 3) := by decide +kernel
theorem dX9_harvest_4 : decode cX9_harvest 4 = .ok (.ifCond .eq 6, 3) := by decide +kernel
theorem dX9_harvest_7 : decode cX9_harvest 7 = .ok (.ldc 161, 2) := by decide +kernel
theorem dX9_harvest_9 : decode cX9_harvest 9 = .ok (.ireturn, 1) := by decide +kernel
theorem dX9_harvest_10 : decode cX9_harvest 10 = .ok (.iload_n 1, 1) := by decide +kernel
theorem dX9_harvest_11 : decode cX9_harvest 11 = .ok (.invokestatic 214, 3) := by decide +kernel
theorem dX9_harvest_14 : decode cX9_harvest 14 = .ok (.ifCond .eq 13, 3) := by decide +kernel
theorem dX9_harvest_17 : decode cX9_harvest 17 = .ok (.iload_n 2, 1) := by decide +kernel
theorem dX9_harvest_18 : decode cX9_harvest 18 = .ok (.iconst 1, 1) := by decide +kernel
theorem dX9_harvest_19 : decode cX9_harvest 19 = .ok (.bipush 9, 2) := by decide +kernel
theorem dX9_harvest_21 : decode cX9_harvest 21 = .ok (.invokestatic 86, 3) := by decide +kernel
theorem dX9_harvest_24 : decode cX9_harvest 24 = .ok (.ifCond .ne 6, 3) := by decide +kernel
theorem dX9_harvest_27 : decode cX9_harvest 27 = .ok (.ldc 90, 2) := by decide +kernel
theorem dX9_harvest_29 : decode cX9_harvest 29 = .ok (.ireturn, 1) := by decide +kernel
theorem dX9_harvest_30 : decode cX9_harvest 30 = .ok (.aload_n 0, 1) := by decide +kernel
theorem dX9_harvest_31 : decode cX9_harvest 31 = .ok (.getfield 57, 3) := by decide +kernel
theorem dX9_harvest_34 : decode cX9_harvest 34 = .ok (.iload_n 1, 1) := by decide +kernel
theorem dX9_harvest_35 : decode cX9_harvest 35 = .ok (.iload_n 2, 1) := by decide +kernel
theorem dX9_harvest_36 : decode cX9_harvest 36 = .ok (.invokevirtual 264, 3) := by decide +kernel
theorem dX9_harvest_39 : decode cX9_harvest 39 = .ok (.ireturn, 1) := by decide +kernel
theorem dX9_who_0 : decode cX9_who 0 = .ok (.aload_n 0, 1) := by decide +kernel
theorem dX9_who_1 : decode cX9_who 1 = .ok (.iload_n 1, 1) := by decide +kernel
theorem dX9_who_2 : decode cX9_who 2 = .ok (.iload_n 2, 1) := by decide +kernel
theorem dX9_who_3 : decode cX9_who 3 = .ok (.iload_n 3, 1) := by decide +kernel
theorem dX9_who_4 : decode cX9_who 4 = .ok (.iload 4, 2) := by decide +kernel
theorem dX9_who_6 : decode cX9_who 6 = .ok (.iload 5, 2) := by decide +kernel
theorem dX9_who_8 : decode cX9_who 8 = .ok (.invokevirtual 267, 3) := by decide +kernel
theorem dX9_who_11 : decode cX9_who 11 = .ok (.istore 6, 2) := by decide +kernel
theorem dX9_who_13 : decode cX9_who 13 = .ok (.iload 6, 2) := by decide +kernel
theorem dX9_who_15 : decode cX9_who 15 = .ok (.ifCond .eq 6, 3) := by decide +kernel
theorem dX9_who_18 : decode cX9_who 18 = .ok (.iload 6, 2) := by decide +kernel
theorem dX9_who_20 : decode cX9_who 20 = .ok (.ireturn, 1) := by decide +kernel
theorem dX9_who_21 : decode cX9_who 21 = .ok (.aload_n 0, 1) := by decide +kernel
theorem dX9_who_22 : decode cX9_who 22 = .ok (.aload_n 0, 1) := by decide +kernel
theorem dX9_who_23 : decode cX9_who 23 = .ok (.getfield 57, 3) := by decide +kernel
theorem dX9_who_26 : decode cX9_who 26 = .ok (.iload_n 1, 1) := by decide +kernel
theorem dX9_who_27 : decode cX9_who 27 = .ok (.iload_n 2, 1) := by decide +kernel
theorem dX9_who_28 : decode cX9_who 28 = .ok (.iload_n 3, 1) := by decide +kernel
theorem dX9_who_29 : decode cX9_who 29 = .ok (.iload 4, 2) := by decide +kernel
theorem dX9_who_31 : decode cX9_who 31 = .ok (.iload 5, 2) := by decide +kernel
theorem dX9_who_33 : decode cX9_who 33 = .ok (.invokevirtual 271, 3) := by decide +kernel
theorem dX9_who_36 : decode cX9_who 36 = .ok (.invokevirtual 99, 3) := by decide +kernel
theorem dX9_who_39 : decode cX9_who 39 = .ok (.ireturn, 1) := by decide +kernel
theorem dX9_places_0 : decode cX9_places 0 = .ok (.aload_n 0, 1) := by decide +kernel
theorem dX9_places_1 : decode cX9_places 1 = .ok (.iload_n 1, 1) := by decide +kernel
theorem dX9_places_2 : decode cX9_places 2 = .ok (.iload_n 2, 1) := by decide +kernel
theorem dX9_places_3 : decode cX9_places 3 = .ok (.iload_n 3, 1) := by decide +kernel
theorem dX9_places_4 : decode cX9_places 4 = .ok (.iload 4, 2) := by decide +kernel
theorem dX9_places_6 : decode cX9_places 6 = .ok (.iload 5, 2) := by decide +kernel
theorem dX9_places_8 : decode cX9_places 8 = .ok (.invokevirtual 267, 3) := by decide +kernel
theorem dX9_places_11 : decode cX9_places 11 = .ok (.istore 6, 2) := by decide +kernel
theorem dX9_places_13 : decode cX9_places 13 = .ok (.iload 6, 2) := by decide +kernel
theorem dX9_places_15 : decode cX9_places 15 = .ok (.ifCond .eq 6, 3) := by decide +kernel
theorem dX9_places_18 : decode cX9_places 18 = .ok (.iload 6, 2) := by decide +kernel
theorem dX9_places_20 : decode cX9_places 20 = .ok (.ireturn, 1) := by decide +kernel
theorem dX9_places_21 : decode cX9_places 21 = .ok (.aload_n 0, 1) := by decide +kernel
theorem dX9_places_22 : decode cX9_places 22 = .ok (.getfield 35, 3) := by decide +kernel
theorem dX9_places_25 : decode cX9_places 25 = .ok (.iload_n 1, 1) := by decide +kernel
theorem dX9_places_26 : decode cX9_places 26 = .ok (.invokevirtual 183, 3) := by decide +kernel
theorem dX9_places_29 : decode cX9_places 29 = .ok (.ifCond .eq 6, 3) := by decide +kernel
theorem dX9_places_32 : decode cX9_places 32 = .ok (.ldc 161, 2) := by decide +kernel
theorem dX9_places_34 : decode cX9_places 34 = .ok (.ireturn, 1) := by decide +kernel
theorem dX9_places_35 : decode cX9_places 35 = .ok (.aload_n 0, 1) := by decide +kernel
theorem dX9_places_36 : decode cX9_places 36 = .ok (.aload_n 0, 1) := by decide +kernel
theorem dX9_places_37 : decode cX9_places 37 = .ok (.getfield 57, 3) := by decide +kernel
theorem dX9_places_40 : decode cX9_places 40 = .ok (.iload_n 1, 1) := by decide +kernel
theorem dX9_places_41 : decode cX9_places 41 = .ok (.iload_n 2, 1) := by decide +kernel
theorem dX9_places_42 : decode cX9_places 42 = .ok (.iload_n 3, 1) := by decide +kernel
theorem dX9_places_43 : decode cX9_places 43 = .ok (.iload 4, 2) := by decide +kernel
theorem dX9_places_45 : decode cX9_places 45 = .ok (.iload 5, 2) := by decide +kernel
theorem dX9_places_47 : decode cX9_places 47 = .ok (.invokevirtual 274, 3) := by decide +kernel
theorem dX9_places_50 : decode cX9_places 50 = .ok (.invokevirtual 99, 3) := by decide +kernel
theorem dX9_places_53 : decode cX9_places 53 = .ok (.ireturn, 1) := by decide +kernel
theorem dX9_from_0 : decode cX9_from 0 = .ok (.aload_n 0, 1) := by decide +kernel
theorem dX9_from_1 : decode cX9_from 1 = .ok (.iload_n 1, 1) := by decide +kernel
theorem dX9_from_2 : decode cX9_from 2 = .ok (.invokevirtual 180, 3) := by decide +kernel
theorem dX9_from_5 : decode cX9_from 5 = .ok (.ifCond .eq 13, 3) := by decide +kernel
theorem dX9_from_8 : decode cX9_from 8 = .ok (.iload_n 2, 1) := by decide +kernel
theorem dX9_from_9 : decode cX9_from 9 = .ok (.iconst 0, 1) := by decide +kernel
theorem dX9_from_10 : decode cX9_from 10 = .ok (.bipush 60, 2) := by decide +kernel
theorem dX9_from_12 : decode cX9_from 12 = .ok (.invokestatic 86, 3) := by decide +kernel
theorem dX9_from_15 : decode cX9_from 15 = .ok (.ifCond .ne 6, 3) := by decide +kernel
theorem dX9_from_18 : decode cX9_from 18 = .ok (.ldc 90, 2) := by decide +kernel
theorem dX9_from_20 : decode cX9_from 20 = .ok (.ireturn, 1) := by decide +kernel
theorem dX9_from_21 : decode cX9_from 21 = .ok (.aload_n 0, 1) := by decide +kernel
theorem dX9_from_22 : decode cX9_from 22 = .ok (.getfield 35, 3) := by decide +kernel
theorem dX9_from_25 : decode cX9_from 25 = .ok (.iload_n 1, 1) := by decide +kernel
theorem dX9_from_26 : decode cX9_from 26 = .ok (.invokevirtual 183, 3) := by decide +kernel
theorem dX9_from_29 : decode cX9_from 29 = .ok (.ifCond .eq 6, 3) := by decide +kernel
theorem dX9_from_32 : decode cX9_from 32 = .ok (.ldc 161, 2) := by decide +kernel
theorem dX9_from_34 : decode cX9_from 34 = .ok (.ireturn, 1) := by decide +kernel
theorem dX9_from_35 : decode cX9_from 35 = .ok (.aload_n 0, 1) := by decide +kernel
theorem dX9_from_36 : decode cX9_from 36 = .ok (.getfield 35, 3) := by decide +kernel
theorem dX9_from_39 : decode cX9_from 39 = .ok (.getfield 186, 3) := by decide +kernel
theorem dX9_from_42 : decode cX9_from 42 = .ok (.iload_n 1, 1) := by decide +kernel
theorem dX9_from_43 : decode cX9_from 43 = .ok (.iaload, 1) := by decide +kernel
theorem dX9_from_44 : decode cX9_from 44 = .ok (.iload_n 2, 1) := by decide +kernel
theorem dX9_from_45 : decode cX9_from 45 = .ok (.aload_n 0, 1) := by decide +kernel
theorem dX9_from_46 : decode cX9_from 46 = .ok (.getfield 35, 3) := by decide +kernel
theorem dX9_from_49 : decode cX9_from 49 = .ok (.iload_n 1, 1) := by decide +kernel
theorem dX9_from_50 : decode cX9_from 50 = .ok (.invokevirtual 277, 3) := by decide +kernel
theorem dX9_from_53 : decode cX9_from 53 = .ok (.imul, 1) := by decide +kernel
theorem dX9_from_54 : decode cX9_from 54 = .ok (.isub, 1) := by decide +kernel
theorem dX9_from_55 : decode cX9_from 55 = .ok (.invokestatic 189, 3) := by decide +kernel
theorem dX9_from_58 : decode cX9_from 58 = .ok (.ireturn, 1) := by decide +kernel
theorem dX9_alike_0 : decode cX9_alike 0 = .ok (.aload_n 0, 1) := by decide +kernel
theorem dX9_alike_1 : decode cX9_alike 1 = .ok (.invokevirtual 165, 3) := by decide +kernel
theorem dX9_alike_4 : decode cX9_alike 4 = .ok (.ifCond .eq 6, 3) := by decide +kernel
theorem dX9_alike_7 : decode cX9_alike 7 = .ok (.ldc 161, 2) := by decide +kernel
theorem dX9_alike_9 : decode cX9_alike 9 = .ok (.ireturn, 1) := by decide +kernel
theorem dX9_alike_10 : decode cX9_alike 10 = .ok (.iload_n 1, 1) := by decide +kernel
theorem dX9_alike_11 : decode cX9_alike 11 = .ok (.invokestatic 217, 3) := by decide +kernel
theorem dX9_alike_14 : decode cX9_alike 14 = .ok (.ifCond .ne 6, 3) := by decide +kernel
theorem dX9_alike_17 : decode cX9_alike 17 = .ok (.ldc 90, 2) := by decide +kernel
theorem dX9_alike_19 : decode cX9_alike 19 = .ok (.ireturn, 1) := by decide +kernel
theorem dX9_alike_20 : decode cX9_alike 20 = .ok (.iload_n 1, 1) := by decide +kernel
theorem dX9_alike_21 : decode cX9_alike 21 = .ok (.ifCond .ne 13, 3) := by decide +kernel
theorem dX9_alike_24 : decode cX9_alike 24 = .ok (.aload_n 0, 1) := by decide +kernel
theorem dX9_alike_25 : decode cX9_alike 25 = .ok (.getfield 35, 3) := by decide +kernel
theorem dX9_alike_28 : decode cX9_alike 28 = .ok (.invokevirtual 280, 3) := by decide +kernel
theorem dX9_alike_31 : decode cX9_alike 31 = .ok (.goto 10, 3) := by decide +kernel
theorem dX9_alike_34 : decode cX9_alike 34 = .ok (.aload_n 0, 1) := by decide +kernel
theorem dX9_alike_35 : decode cX9_alike 35 = .ok (.getfield 35, 3) := by decide +kernel
theorem dX9_alike_38 : decode cX9_alike 38 = .ok (.invokevirtual 283, 3) := by decide +kernel
theorem dX9_alike_41 : decode cX9_alike 41 = .ok (.ireturn, 1) := by decide +kernel
theorem dX9_likeness_0 : decode cX9_likeness 0 = .ok (.aload_n 0, 1) := by decide +kernel
theorem dX9_likeness_1 : decode cX9_likeness 1 = .ok (.iload_n 1, 1) := by decide +kernel
theorem dX9_likeness_2 : decode cX9_likeness 2 = .ok (.iload_n 2, 1) := by decide +kernel
theorem dX9_likeness_3 : decode cX9_likeness 3 = .ok (.invokevirtual 240, 3) := by decide +kernel
theorem dX9_likeness_6 : decode cX9_likeness 6 = .ok (.ifCond .ne 6, 3) := by decide +kernel
theorem dX9_likeness_9 : decode cX9_likeness 9 = .ok (.ldc 90, 2) := by decide +kernel
theorem dX9_likeness_11 : decode cX9_likeness 11 = .ok (.ireturn, 1) := by decide +kernel
theorem dX9_likeness_12 : decode cX9_likeness 12 = .ok (.aload_n 0, 1) := by decide +kernel
theorem dX9_likeness_13 : decode cX9_likeness 13 = .ok (.getfield 35, 3) := by decide +kernel
theorem dX9_likeness_16 : decode cX9_likeness 16 = .ok (.getfield 286, 3) := by decide +kernel
theorem dX9_likeness_19 : decode cX9_likeness 19 = .ok (.iload_n 1, 1) := by decide +kernel
theorem dX9_likeness_20 : decode cX9_likeness 20 = .ok (.iaload, 1) := by decide +kernel
theorem dX9_likeness_21 : decode cX9_likeness 21 = .ok (.aload_n 0, 1) := by decide +kernel
theorem dX9_likeness_22 : decode cX9_likeness 22 = .ok (.getfield 35, 3) := by decide +kernel
theorem dX9_likeness_25 : decode cX9_likeness 25 = .ok (.getfield 286, 3) := by decide +kernel
theorem dX9_likeness_28 : decode cX9_likeness 28 = .ok (.iload_n 2, 1) := by decide +kernel
theorem dX9_likeness_29 : decode cX9_likeness 29 = .ok (.iaload, 1) := by decide +kernel
theorem dX9_likeness_30 : decode cX9_likeness 30 = .ok (.if_icmp .ne 8, 3) := by decide +kernel
theorem dX9_likeness_33 : decode cX9_likeness 33 = .ok (.bipush 100, 2) := by decide +kernel
theorem dX9_likeness_35 : decode cX9_likeness 35 = .ok (.goto 5, 3) := by decide +kernel
theorem dX9_likeness_38 : decode cX9_likeness 38 = .ok (.bipush 80, 2) := by decide +kernel
theorem dX9_likeness_40 : decode cX9_likeness 40 = .ok (.istore_n 3, 1) := by decide +kernel
theorem dX9_likeness_41 : decode cX9_likeness 41 = .ok (.iload_n 3, 1) := by decide +kernel
theorem dX9_likeness_42 : decode cX9_likeness 42 = .ok (.iconst 5, 1) := by decide +kernel
theorem dX9_likeness_43 : decode cX9_likeness 43 = .ok (.aload_n 0, 1) := by decide +kernel
theorem dX9_likeness_44 : decode cX9_likeness 44 = .ok (.getfield 35, 3) := by decide +kernel
theorem dX9_likeness_47 : decode cX9_likeness 47 = .ok (.getfield 205, 3) := by decide +kernel
theorem dX9_likeness_50 : decode cX9_likeness 50 = .ok (.iload_n 1, 1) := by decide +kernel
theorem dX9_likeness_51 : decode cX9_likeness 51 = .ok (.iaload, 1) := by decide +kernel
theorem dX9_likeness_52 : decode cX9_likeness 52 = .ok (.aload_n 0, 1) := by decide +kernel
theorem dX9_likeness_53 : decode cX9_likeness 53 = .ok (.getfield 35, 3) := by decide +kernel
theorem dX9_likeness_56 : decode cX9_likeness 56 = .ok (.getfield 205, 3) := by decide +kernel
theorem dX9_likeness_59 : decode cX9_likeness 59 = .ok (.iload_n 2, 1) := by decide +kernel
theorem dX9_likeness_60 : decode cX9_likeness 60 = .ok (.iaload, 1) := by decide +kernel
theorem dX9_likeness_61 : decode cX9_likeness 61 = .ok (.isub, 1) := by decide +kernel
theorem dX9_likeness_62 : decode cX9_likeness 62 = .ok (.invokestatic 289, 3) := by decide +kernel
theorem dX9_likeness_65 : decode cX9_likeness 65 = .ok (.imul, 1) := by decide +kernel
theorem dX9_likeness_66 : decode cX9_likeness 66 = .ok (.isub, 1) := by decide +kernel
theorem dX9_likeness_67 : decode cX9_likeness 67 = .ok (.istore_n 3, 1) := by decide +kernel
theorem dX9_likeness_68 : decode cX9_likeness 68 = .ok (.iload_n 3, 1) := by decide +kernel
theorem dX9_likeness_69 : decode cX9_likeness 69 = .ok (.aload_n 0, 1) := by decide +kernel
theorem dX9_likeness_70 : decode cX9_likeness 70 = .ok (.getfield 35, 3) := by decide +kernel
theorem dX9_likeness_73 : decode cX9_likeness 73 = .ok (.getfield 192, 3) := by decide +kernel
theorem dX9_likeness_76 : decode cX9_likeness 76 = .ok (.iload_n 1, 1) := by decide +kernel
theorem dX9_likeness_77 : decode cX9_likeness 77 = .ok (.iaload, 1) := by decide +kernel
theorem dX9_likeness_78 : decode cX9_likeness 78 = .ok (.aload_n 0, 1) := by decide +kernel
theorem dX9_likeness_79 : decode cX9_likeness 79 = .ok (.getfield 35, 3) := by decide +kernel
theorem dX9_likeness_82 : decode cX9_likeness 82 = .ok (.getfield 192, 3) := by decide +kernel
theorem dX9_likeness_85 : decode cX9_likeness 85 = .ok (.iload_n 2, 1) := by decide +kernel
theorem dX9_likeness_86 : decode cX9_likeness 86 = .ok (.iaload, 1) := by decide +kernel
theorem dX9_likeness_87 : decode cX9_likeness 87 = .ok (.isub, 1) := by decide +kernel
theorem dX9_likeness_88 : decode cX9_likeness 88 = .ok (.invokestatic 289, 3) := by decide +kernel
theorem dX9_likeness_91 : decode cX9_likeness 91 = .ok (.isub, 1) := by decide +kernel
theorem dX9_likeness_92 : decode cX9_likeness 92 = .ok (.istore_n 3, 1) := by decide +kernel
theorem dX9_likeness_93 : decode cX9_likeness 93 = .ok (.iload_n 3, 1) := by decide +kernel
theorem dX9_likeness_94 : decode cX9_likeness 94 = .ok (.iconst 0, 1) := by decide +kernel
theorem dX9_likeness_95 : decode cX9_likeness 95 = .ok (.invokestatic 294, 3) := by decide +kernel
theorem dX9_likeness_98 : decode cX9_likeness 98 = .ok (.ireturn, 1) := by decide +kernel
theorem dX9_estate_0 : decode cX9_estate 0 = .ok (.aload_n 0, 1) := by decide +kernel
theorem dX9_estate_1 : decode cX9_estate 1 = .ok (.invokevirtual 165, 3) := by decide +kernel
theorem dX9_estate_4 : decode cX9_estate 4 = .ok (.ifCond .eq 6, 3) := by decide +kernel
theorem dX9_estate_7 : decode cX9_estate 7 = .ok (.ldc 161, 2) := by decide +kernel
theorem dX9_estate_9 : decode cX9_estate 9 = .ok (.ireturn, 1) := by decide +kernel
theorem dX9_estate_10 : decode cX9_estate 10 = .ok (.iload_n 1, 1) := by decide +kernel
theorem dX9_estate_11 : decode cX9_estate 11 = .ok (.iconst 0, 1) := by decide +kernel
theorem dX9_estate_12 : decode cX9_estate 12 = .ok (.bipush 9, 2) := by decide +kernel
theorem dX9_estate_14 : decode cX9_estate 14 = .ok (.invokestatic 86, 3) := by decide +kernel
theorem dX9_estate_17 : decode cX9_estate 17 = .ok (.ifCond .eq 14, 3) := by decide +kernel
theorem dX9_estate_20 : decode cX9_estate 20 = .ok (.aload_n 0, 1) := by decide +kernel
theorem dX9_estate_21 : decode cX9_estate 21 = .ok (.getfield 35, 3) := by decide +kernel
theorem dX9_estate_24 : decode cX9_estate 24 = .ok (.iload_n 1, 1) := by decide +kernel
theorem dX9_estate_25 : decode cX9_estate 25 = .ok (.invokevirtual 297, 3) := by decide +kernel
theorem dX9_estate_28 : decode cX9_estate 28 = .ok (.goto 5, 3) := by decide +kernel
theorem dX9_estate_31 : decode cX9_estate 31 = .ok (.ldc 90, 2) := by decide +kernel
theorem dX9_estate_33 : decode cX9_estate 33 = .ok (.ireturn, 1) := by decide +kernel
theorem dX9_seen_0 : decode cX9_seen 0 = .ok (.aload_n 0, 1) := by decide +kernel
theorem dX9_seen_1 : decode cX9_seen 1 = .ok (.invokevirtual 165, 3) := by decide +kernel
theorem dX9_seen_4 : decode cX9_seen 4 = .ok (.ifCond .eq 7, 3) := by decide +kernel
theorem dX9_seen_7 : decode cX9_seen 7 = .ok (.ldc2_w 300, 3) := by decide +kernel
theorem dX9_seen_10 : decode cX9_seen 10 = .ok (.lreturn, 1) := by decide +kernel
theorem dX9_seen_11 : decode cX9_seen 11 = .ok (.iload_n 1, 1) := by decide +kernel
theorem dX9_seen_12 : decode cX9_seen 12 = .ok (.iconst 0, 1) := by decide +kernel
theorem dX9_seen_13 : decode cX9_seen 13 = .ok (.iconst 5, 1) := by decide +kernel
theorem dX9_seen_14 : decode cX9_seen 14 = .ok (.invokestatic 86, 3) := by decide +kernel
theorem dX9_seen_17 : decode cX9_seen 17 = .ok (.ifCond .eq 20, 3) := by decide +kernel
theorem dX9_seen_20 : decode cX9_seen 20 = .ok (.iload_n 2, 1) := by decide +kernel
theorem dX9_seen_21 : decode cX9_seen 21 = .ok (.iconst 0, 1) := by decide +kernel
theorem dX9_seen_22 : decode cX9_seen 22 = .ok (.bipush 10, 2) := by decide +kernel
theorem dX9_seen_24 : decode cX9_seen 24 = .ok (.invokestatic 86, 3) := by decide +kernel
theorem dX9_seen_27 : decode cX9_seen 27 = .ok (.ifCond .eq 10, 3) := by decide +kernel
theorem dX9_seen_30 : decode cX9_seen 30 = .ok (.iload_n 3, 1) := by decide +kernel
theorem dX9_seen_31 : decode cX9_seen 31 = .ok (.invokestatic 217, 3) := by decide +kernel
theorem dX9_seen_34 : decode cX9_seen 34 = .ok (.ifCond .ne 7, 3) := by decide +kernel
theorem dX9_seen_37 : decode cX9_seen 37 = .ok (.ldc2_w 302, 3) := by decide +kernel
theorem dX9_seen_40 : decode cX9_seen 40 = .ok (.lreturn, 1) := by decide +kernel
theorem dX9_seen_41 : decode cX9_seen 41 = .ok (.aload_n 0, 1) := by decide +kernel
theorem dX9_seen_42 : decode cX9_seen 42 = .ok (.getfield 71, 3) := by decide +kernel
theorem dX9_seen_45 : decode cX9_seen 45 = .ok (.aload_n 0, 1) := by decide +kernel
theorem dX9_seen_46 : decode cX9_seen 46 = .ok (.getfield 35, 3) := by decide +kernel
theorem dX9_seen_49 : decode cX9_seen 49 = .ok (.invokevirtual 304, 3) := by decide +kernel
theorem dX9_seen_52 : decode cX9_seen 52 = .ok (.invokestatic 307, 3) := by decide +kernel
theorem dX9_seen_55 : decode cX9_seen 55 = .ok (.iload_n 1, 1) := by decide +kernel
theorem dX9_seen_56 : decode cX9_seen 56 = .ok (.iload_n 2, 1) := by decide +kernel
theorem dX9_seen_57 : decode cX9_seen 57 = .ok (.invokevirtual 312, 3) := by decide +kernel
theorem dX9_seen_60 : decode cX9_seen 60 = .ok (.iload_n 3, 1) := by decide +kernel
theorem dX9_seen_61 : decode cX9_seen 61 = .ok (.ifCond .ne 13, 3) := by decide +kernel
theorem dX9_seen_64 : decode cX9_seen 64 = .ok (.aload_n 0, 1) := by decide +kernel
theorem dX9_seen_65 : decode cX9_seen 65 = .ok (.getfield 71, 3) := by decide +kernel
theorem dX9_seen_68 : decode cX9_seen 68 = .ok (.getfield 315, 3) := by decide +kernel
theorem dX9_seen_71 : decode cX9_seen 71 = .ok (.goto 10, 3) := by decide +kernel
theorem dX9_seen_74 : decode cX9_seen 74 = .ok (.aload_n 0, 1) := by decide +kernel
theorem dX9_seen_75 : decode cX9_seen 75 = .ok (.getfield 71, 3) := by decide +kernel
theorem dX9_seen_78 : decode cX9_seen 78 = .ok (.getfield 319, 3) := by decide +kernel
theorem dX9_seen_81 : decode cX9_seen 81 = .ok (.lreturn, 1) := by decide +kernel
theorem dX9_drawn_0 : decode cX9_drawn 0 = .ok (.aload_n 0, 1) := by decide +kernel
theorem dX9_drawn_1 : decode cX9_drawn 1 = .ok (.invokevirtual 165, 3) := by decide +kernel
theorem dX9_drawn_4 : decode cX9_drawn 4 = .ok (.ifCond .eq 6, 3) := by decide +kernel
theorem dX9_drawn_7 : decode cX9_drawn 7 = .ok (.ldc 161, 2) := by decide +kernel
theorem dX9_drawn_9 : decode cX9_drawn 9 = .ok (.ireturn, 1) := by decide +kernel
theorem dX9_drawn_10 : decode cX9_drawn 10 = .ok (.iload_n 1, 1) := by decide +kernel
theorem dX9_drawn_11 : decode cX9_drawn 11 = .ok (.iconst 0, 1) := by decide +kernel
theorem dX9_drawn_12 : decode cX9_drawn 12 = .ok (.bipush 60, 2) := by decide +kernel
theorem dX9_drawn_14 : decode cX9_drawn 14 = .ok (.invokestatic 86, 3) := by decide +kernel
theorem dX9_drawn_17 : decode cX9_drawn 17 = .ok (.ifCond .eq 21, 3) := by decide +kernel
theorem dX9_drawn_20 : decode cX9_drawn 20 = .ok (.iload_n 2, 1) := by decide +kernel
theorem dX9_drawn_21 : decode cX9_drawn 21 = .ok (.iconst 1, 1) := by decide +kernel
theorem dX9_drawn_22 : decode cX9_drawn 22 = .ok (.ldc_w 322, 3) := by decide +kernel
theorem dX9_drawn_25 : decode cX9_drawn 25 = .ok (.invokestatic 86, 3) := by decide +kernel
theorem dX9_drawn_28 : decode cX9_drawn 28 = .ok (.ifCond .eq 10, 3) := by decide +kernel
theorem dX9_drawn_31 : decode cX9_drawn 31 = .ok (.iload_n 3, 1) := by decide +kernel
theorem dX9_drawn_32 : decode cX9_drawn 32 = .ok (.invokestatic 217, 3) := by decide +kernel
theorem dX9_drawn_35 : decode cX9_drawn 35 = .ok (.ifCond .ne 6, 3) := by decide +kernel
theorem dX9_drawn_38 : decode cX9_drawn 38 = .ok (.ldc 90, 2) := by decide +kernel
theorem dX9_drawn_40 : decode cX9_drawn 40 = .ok (.ireturn, 1) := by decide +kernel
theorem dX9_drawn_41 : decode cX9_drawn 41 = .ok (.aload_n 0, 1) := by decide +kernel
theorem dX9_drawn_42 : decode cX9_drawn 42 = .ok (.getfield 57, 3) := by decide +kernel
theorem dX9_drawn_45 : decode cX9_drawn 45 = .ok (.iload_n 1, 1) := by decide +kernel
theorem dX9_drawn_46 : decode cX9_drawn 46 = .ok (.iload_n 2, 1) := by decide +kernel
theorem dX9_drawn_47 : decode cX9_drawn 47 = .ok (.invokevirtual 323, 3) := by decide +kernel
theorem dX9_drawn_50 : decode cX9_drawn 50 = .ok (.astore 4, 2) := by decide +kernel
theorem dX9_drawn_52 : decode cX9_drawn 52 = .ok (.iload_n 3, 1) := by decide +kernel
theorem dX9_drawn_53 : decode cX9_drawn 53 = .ok (.ifCond .ne 11, 3) := by decide +kernel
theorem dX9_drawn_56 : decode cX9_drawn 56 = .ok (.aload 4, 2) := by decide +kernel
theorem dX9_drawn_58 : decode cX9_drawn 58 = .ok (.invokevirtual 327, 3) := by decide +kernel
theorem dX9_drawn_61 : decode cX9_drawn 61 = .ok (.goto 8, 3) := by decide +kernel
theorem dX9_drawn_64 : decode cX9_drawn 64 = .ok (.aload 4, 2) := by decide +kernel
theorem dX9_drawn_66 : decode cX9_drawn 66 = .ok (.invokevirtual 304, 3) := by decide +kernel
theorem dX9_drawn_69 : decode cX9_drawn 69 = .ok (.ireturn, 1) := by decide +kernel
theorem dX9_image_0 : decode cX9_image 0 = .ok (.iload_n 1, 1) := by decide +kernel
theorem dX9_image_1 : decode cX9_image 1 = .ok (.iconst 0, 1) := by decide +kernel
theorem dX9_image_2 : decode cX9_image 2 = .ok (.iconst 1, 1) := by decide +kernel
theorem dX9_image_3 : decode cX9_image 3 = .ok (.invokestatic 86, 3) := by decide +kernel
theorem dX9_image_6 : decode cX9_image 6 = .ok (.ifCond .ne 6, 3) := by decide +kernel
theorem dX9_image_9 : decode cX9_image 9 = .ok (.ldc 90, 2) := by decide +kernel
theorem dX9_image_11 : decode cX9_image 11 = .ok (.ireturn, 1) := by decide +kernel
theorem dX9_image_12 : decode cX9_image 12 = .ok (.aload_n 0, 1) := by decide +kernel
theorem dX9_image_13 : decode cX9_image 13 = .ok (.invokevirtual 165, 3) := by decide +kernel
theorem dX9_image_16 : decode cX9_image 16 = .ok (.ifCond .eq 6, 3) := by decide +kernel
theorem dX9_image_19 : decode cX9_image 19 = .ok (.ldc 161, 2) := by decide +kernel
theorem dX9_image_21 : decode cX9_image 21 = .ok (.ireturn, 1) := by decide +kernel
theorem dX9_image_22 : decode cX9_image 22 = .ok (.aload_n 0, 1) := by decide +kernel
theorem dX9_image_23 : decode cX9_image 23 = .ok (.getfield 48, 3) := by decide +kernel
theorem dX9_image_26 : decode cX9_image 26 = .ok (.iload_n 1, 1) := by decide +kernel
theorem dX9_image_27 : decode cX9_image 27 = .ok (.aaload, 1) := by decide +kernel
theorem dX9_image_28 : decode cX9_image 28 = .ok (.aload_n 0, 1) := by decide +kernel
theorem dX9_image_29 : decode cX9_image 29 = .ok (.getfield 35, 3) := by decide +kernel
theorem dX9_image_32 : decode cX9_image 32 = .ok (.invokevirtual 149, 3) := by decide +kernel
theorem dX9_image_35 : decode cX9_image 35 = .ok (.iconst 1, 1) := by decide +kernel
theorem dX9_image_36 : decode cX9_image 36 = .ok (.ireturn, 1) := by decide +kernel
theorem dX9_restore_0 : decode cX9_restore 0 = .ok (.iload_n 1, 1) := by decide +kernel
theorem dX9_restore_1 : decode cX9_restore 1 = .ok (.iconst 0, 1) := by decide +kernel
theorem dX9_restore_2 : decode cX9_restore 2 = .ok (.iconst 1, 1) := by decide +kernel
theorem dX9_restore_3 : decode cX9_restore 3 = .ok (.invokestatic 86, 3) := by decide +kernel
theorem dX9_restore_6 : decode cX9_restore 6 = .ok (.ifCond .ne 6, 3) := by decide +kernel
theorem dX9_restore_9 : decode cX9_restore 9 = .ok (.ldc 90, 2) := by decide +kernel
theorem dX9_restore_11 : decode cX9_restore 11 = .ok (.ireturn, 1) := by decide +kernel
theorem dX9_restore_12 : decode cX9_restore 12 = .ok (.aload_n 0, 1) := by decide +kernel
theorem dX9_restore_13 : decode cX9_restore 13 = .ok (.getfield 48, 3) := by decide +kernel
theorem dX9_restore_16 : decode cX9_restore 16 = .ok (.iload_n 1, 1) := by decide +kernel
theorem dX9_restore_17 : decode cX9_restore 17 = .ok (.aaload, 1) := by decide +kernel
theorem dX9_restore_18 : decode cX9_restore 18 = .ok (.getfield 155, 3) := by decide +kernel
theorem dX9_restore_21 : decode cX9_restore 21 = .ok (.ifCond .ne 6, 3) := by decide +kernel
theorem dX9_restore_24 : decode cX9_restore 24 = .ok (.ldc 161, 2) := by decide +kernel
theorem dX9_restore_26 : decode cX9_restore 26 = .ok (.ireturn, 1) := by decide +kernel
theorem dX9_restore_27 : decode cX9_restore 27 = .ok (.aload_n 0, 1) := by decide +kernel
theorem dX9_restore_28 : decode cX9_restore 28 = .ok (.getfield 35, 3) := by decide +kernel
theorem dX9_restore_31 : decode cX9_restore 31 = .ok (.aload_n 0, 1) := by decide +kernel
theorem dX9_restore_32 : decode cX9_restore 32 = .ok (.getfield 48, 3) := by decide +kernel
theorem dX9_restore_35 : decode cX9_restore 35 = .ok (.iload_n 1, 1) := by decide +kernel
theorem dX9_restore_36 : decode cX9_restore 36 = .ok (.aaload, 1) := by decide +kernel
theorem dX9_restore_37 : decode cX9_restore 37 = .ok (.invokevirtual 149, 3) := by decide +kernel
theorem dX9_restore_40 : decode cX9_restore 40 = .ok (.aload_n 0, 1) := by decide +kernel
theorem dX9_restore_41 : decode cX9_restore 41 = .ok (.getfield 44, 3) := by decide +kernel
theorem dX9_restore_44 : decode cX9_restore 44 = .ok (.invokevirtual 152, 3) := by decide +kernel
theorem dX9_restore_47 : decode cX9_restore 47 = .ok (.iconst 1, 1) := by decide +kernel
theorem dX9_restore_48 : decode cX9_restore 48 = .ok (.ireturn, 1) := by decide +kernel
theorem dX9_kind_0 : decode cX9_kind 0 = .ok (.aload_n 0, 1) := by decide +kernel
theorem dX9_kind_1 : decode cX9_kind 1 = .ok (.iload_n 1, 1) := by decide +kernel
theorem dX9_kind_2 : decode cX9_kind 2 = .ok (.invokevirtual 180, 3) := by decide +kernel
theorem dX9_kind_5 : decode cX9_kind 5 = .ok (.ifCond .eq 15, 3) := by decide +kernel
theorem dX9_kind_8 : decode cX9_kind 8 = .ok (.aload_n 0, 1) := by decide +kernel
theorem dX9_kind_9 : decode cX9_kind 9 = .ok (.getfield 35, 3) := by decide +kernel
theorem dX9_kind_12 : decode cX9_kind 12 = .ok (.getfield 286, 3) := by decide +kernel
theorem dX9_kind_15 : decode cX9_kind 15 = .ok (.iload_n 1, 1) := by decide +kernel
theorem dX9_kind_16 : decode cX9_kind 16 = .ok (.iaload, 1) := by decide +kernel
theorem dX9_kind_17 : decode cX9_kind 17 = .ok (.goto 5, 3) := by decide +kernel
theorem dX9_kind_20 : decode cX9_kind 20 = .ok (.ldc 90, 2) := by decide +kernel
theorem dX9_kind_22 : decode cX9_kind 22 = .ok (.ireturn, 1) := by decide +kernel
theorem dX9_as_0 : decode cX9_as 0 = .ok (.aload_n 0, 1) := by decide +kernel
theorem dX9_as_1 : decode cX9_as 1 = .ok (.iload_n 1, 1) := by decide +kernel
theorem dX9_as_2 : decode cX9_as 2 = .ok (.invokevirtual 180, 3) := by decide +kernel
theorem dX9_as_5 : decode cX9_as 5 = .ok (.ifCond .eq 12, 3) := by decide +kernel
theorem dX9_as_8 : decode cX9_as 8 = .ok (.iload_n 2, 1) := by decide +kernel
theorem dX9_as_9 : decode cX9_as 9 = .ok (.iconst 0, 1) := by decide +kernel
theorem dX9_as_10 : decode cX9_as 10 = .ok (.iconst 5, 1) := by decide +kernel
theorem dX9_as_11 : decode cX9_as 11 = .ok (.invokestatic 86, 3) := by decide +kernel
theorem dX9_as_14 : decode cX9_as 14 = .ok (.ifCond .ne 6, 3) := by decide +kernel
theorem dX9_as_17 : decode cX9_as 17 = .ok (.ldc 90, 2) := by decide +kernel
theorem dX9_as_19 : decode cX9_as 19 = .ok (.ireturn, 1) := by decide +kernel
theorem dX9_as_20 : decode cX9_as 20 = .ok (.aload_n 0, 1) := by decide +kernel
theorem dX9_as_21 : decode cX9_as 21 = .ok (.getfield 35, 3) := by decide +kernel
theorem dX9_as_24 : decode cX9_as 24 = .ok (.getfield 286, 3) := by decide +kernel
theorem dX9_as_27 : decode cX9_as 27 = .ok (.iload_n 1, 1) := by decide +kernel
theorem dX9_as_28 : decode cX9_as 28 = .ok (.iaload, 1) := by decide +kernel
theorem dX9_as_29 : decode cX9_as 29 = .ok (.iload_n 2, 1) := by decide +kernel
theorem dX9_as_30 : decode cX9_as 30 = .ok (.invokestatic 330, 3) := by decide +kernel
theorem dX9_as_33 : decode cX9_as 33 = .ok (.ifCond .eq 11, 3) := by decide +kernel
theorem dX9_as_36 : decode cX9_as 36 = .ok (.aload_n 0, 1) := by decide +kernel
theorem dX9_as_37 : decode cX9_as 37 = .ok (.iload_n 1, 1) := by decide +kernel
theorem dX9_as_38 : decode cX9_as 38 = .ok (.invokevirtual 99, 3) := by decide +kernel
theorem dX9_as_41 : decode cX9_as 41 = .ok (.goto 8, 3) := by decide +kernel
theorem dX9_as_44 : decode cX9_as 44 = .ok (.aload_n 0, 1) := by decide +kernel
theorem dX9_as_45 : decode cX9_as 45 = .ok (.iconst 3, 1) := by decide +kernel
theorem dX9_as_46 : decode cX9_as 46 = .ok (.invokevirtual 91, 3) := by decide +kernel
theorem dX9_as_49 : decode cX9_as 49 = .ok (.ireturn, 1) := by decide +kernel
theorem dX9_ask_0 : decode cX9_ask 0 = .ok (.aload_n 0, 1) := by decide +kernel
theorem dX9_ask_1 : decode cX9_ask 1 = .ok (.iload_n 1, 1) := by decide +kernel
theorem dX9_ask_2 : decode cX9_ask 2 = .ok (.invokevirtual 180, 3) := by decide +kernel
theorem dX9_ask_5 : decode cX9_ask 5 = .ok (.ifCond .eq 10, 3) := by decide +kernel
theorem dX9_ask_8 : decode cX9_ask 8 = .ok (.iload_n 2, 1) := by decide +kernel
theorem dX9_ask_9 : decode cX9_ask 9 = .ok (.invokestatic 217, 3) := by decide +kernel
theorem dX9_ask_12 : decode cX9_ask 12 = .ok (.ifCond .ne 6, 3) := by decide +kernel
theorem dX9_ask_15 : decode cX9_ask 15 = .ok (.ldc 90, 2) := by decide +kernel
theorem dX9_ask_17 : decode cX9_ask 17 = .ok (.ireturn, 1) := by decide +kernel
theorem dX9_ask_18 : decode cX9_ask 18 = .ok (.aload_n 0, 1) := by decide +kernel
theorem dX9_ask_19 : decode cX9_ask 19 = .ok (.getfield 78, 3) := by decide +kernel
theorem dX9_ask_22 : decode cX9_ask 22 = .ok (.iload_n 1, 1) := by decide +kernel
theorem dX9_ask_23 : decode cX9_ask 23 = .ok (.iload_n 2, 1) := by decide +kernel
theorem dX9_ask_24 : decode cX9_ask 24 = .ok (.invokevirtual 333, 3) := by decide +kernel
theorem dX9_ask_27 : decode cX9_ask 27 = .ok (.ireturn, 1) := by decide +kernel
theorem dX9_trace_0 : decode cX9_trace 0 = .ok (.iload_n 1, 1) := by decide +kernel
theorem dX9_trace_1 : decode cX9_trace 1 = .ok (.iconst 0, 1) := by decide +kernel
theorem dX9_trace_2 : decode cX9_trace 2 = .ok (.aload_n 0, 1) := by decide +kernel
theorem dX9_trace_3 : decode cX9_trace 3 = .ok (.getfield 78, 3) := by decide +kernel
theorem dX9_trace_6 : decode cX9_trace 6 = .ok (.getfield 336, 3) := by decide +kernel
theorem dX9_trace_9 : decode cX9_trace 9 = .ok (.iconst 1, 1) := by decide +kernel
theorem dX9_trace_10 : decode cX9_trace 10 = .ok (.isub, 1) := by decide +kernel
theorem dX9_trace_11 : decode cX9_trace 11 = .ok (.invokestatic 86, 3) := by decide +kernel
theorem dX9_trace_14 : decode cX9_trace 14 = .ok (.ifCond .eq 15, 3) := by decide +kernel
theorem dX9_trace_17 : decode cX9_trace 17 = .ok (.aload_n 0, 1) := by decide +kernel
theorem dX9_trace_18 : decode cX9_trace 18 = .ok (.getfield 78, 3) := by decide +kernel
theorem dX9_trace_21 : decode cX9_trace 21 = .ok (.getfield 339, 3) := by decide +kernel
theorem dX9_trace_24 : decode cX9_trace 24 = .ok (.iload_n 1, 1) := by decide +kernel
theorem dX9_trace_25 : decode cX9_trace 25 = .ok (.iaload, 1) := by decide +kernel
theorem dX9_trace_26 : decode cX9_trace 26 = .ok (.goto 5, 3) := by decide +kernel
theorem dX9_trace_29 : decode cX9_trace 29 = .ok (.ldc 230, 2) := by decide +kernel
theorem dX9_trace_31 : decode cX9_trace 31 = .ok (.ireturn, 1) := by decide +kernel
theorem dX9_count_0 : decode cX9_count 0 = .ok (.iload_n 1, 1) := by decide +kernel
theorem dX9_count_1 : decode cX9_count 1 = .ok (.tableswitch 111 0 7 #[47, 55, 63, 71, 79, 87, 95, 103], 47) := by decide +kernel
theorem dX9_count_48 : decode cX9_count 48 = .ok (.aload_n 0, 1) := by decide +kernel
theorem dX9_count_49 : decode cX9_count 49 = .ok (.getfield 10, 3) := by decide +kernel
theorem dX9_count_52 : decode cX9_count 52 = .ok (.invokevirtual 342, 3) := by decide +kernel
theorem dX9_count_55 : decode cX9_count 55 = .ok (.ireturn, 1) := by decide +kernel
theorem dX9_count_56 : decode cX9_count 56 = .ok (.aload_n 0, 1) := by decide +kernel
theorem dX9_count_57 : decode cX9_count 57 = .ok (.getfield 35, 3) := by decide +kernel
theorem dX9_count_60 : decode cX9_count 60 = .ok (.getfield 155, 3) := by decide +kernel
theorem dX9_count_63 : decode cX9_count 63 = .ok (.ireturn, 1) := by decide +kernel
theorem dX9_count_64 : decode cX9_count 64 = .ok (.aload_n 0, 1) := by decide +kernel
theorem dX9_count_65 : decode cX9_count 65 = .ok (.getfield 35, 3) := by decide +kernel
theorem dX9_count_68 : decode cX9_count 68 = .ok (.invokevirtual 304, 3) := by decide +kernel
theorem dX9_count_71 : decode cX9_count 71 = .ok (.ireturn, 1) := by decide +kernel
theorem dX9_count_72 : decode cX9_count 72 = .ok (.aload_n 0, 1) := by decide +kernel
theorem dX9_count_73 : decode cX9_count 73 = .ok (.getfield 35, 3) := by decide +kernel
theorem dX9_count_76 : decode cX9_count 76 = .ok (.getfield 168, 3) := by decide +kernel
theorem dX9_count_79 : decode cX9_count 79 = .ok (.ireturn, 1) := by decide +kernel
theorem dX9_count_80 : decode cX9_count 80 = .ok (.aload_n 0, 1) := by decide +kernel
theorem dX9_count_81 : decode cX9_count 81 = .ok (.getfield 35, 3) := by decide +kernel
theorem dX9_count_84 : decode cX9_count 84 = .ok (.getfield 177, 3) := by decide +kernel
theorem dX9_count_87 : decode cX9_count 87 = .ok (.ireturn, 1) := by decide +kernel
theorem dX9_count_88 : decode cX9_count 88 = .ok (.aload_n 0, 1) := by decide +kernel
theorem dX9_count_89 : decode cX9_count 89 = .ok (.getfield 35, 3) := by decide +kernel
theorem dX9_count_92 : decode cX9_count 92 = .ok (.invokevirtual 327, 3) := by decide +kernel
theorem dX9_count_95 : decode cX9_count 95 = .ok (.ireturn, 1) := by decide +kernel
theorem dX9_count_96 : decode cX9_count 96 = .ok (.aload_n 0, 1) := by decide +kernel
theorem dX9_count_97 : decode cX9_count 97 = .ok (.getfield 44, 3) := by decide +kernel
theorem dX9_count_100 : decode cX9_count 100 = .ok (.getfield 158, 3) := by decide +kernel
theorem dX9_count_103 : decode cX9_count 103 = .ok (.ireturn, 1) := by decide +kernel
theorem dX9_count_104 : decode cX9_count 104 = .ok (.aload_n 0, 1) := by decide +kernel
theorem dX9_count_105 : decode cX9_count 105 = .ok (.getfield 19, 3) := by decide +kernel
theorem dX9_count_108 : decode cX9_count 108 = .ok (.getfield 139, 3) := by decide +kernel
theorem dX9_count_111 : decode cX9_count 111 = .ok (.ireturn, 1) := by decide +kernel
theorem dX9_count_112 : decode cX9_count 112 = .ok (.ldc 90, 2) := by decide +kernel
theorem dX9_count_114 : decode cX9_count 114 = .ok (.ireturn, 1) := by decide +kernel
theorem dX9_status_0 : decode cX9_status 0 = .ok (.aload_n 0, 1) := by decide +kernel
theorem dX9_status_1 : decode cX9_status 1 = .ok (.getfield 345, 3) := by decide +kernel
theorem dX9_status_4 : decode cX9_status 4 = .ok (.ireturn, 1) := by decide +kernel
theorem dX9_found_0 : decode cX9_found 0 = .ok (.aload_n 0, 1) := by decide +kernel
theorem dX9_found_1 : decode cX9_found 1 = .ok (.iload_n 1, 1) := by decide +kernel
theorem dX9_found_2 : decode cX9_found 2 = .ok (.putfield 345, 3) := by decide +kernel
theorem dX9_found_5 : decode cX9_found 5 = .ok (.ldc_w 348, 3) := by decide +kernel
theorem dX9_found_8 : decode cX9_found 8 = .ok (.iload_n 1, 1) := by decide +kernel
theorem dX9_found_9 : decode cX9_found 9 = .ok (.isub, 1) := by decide +kernel
theorem dX9_found_10 : decode cX9_found 10 = .ok (.ireturn, 1) := by decide +kernel
theorem dX9_fine_0 : decode cX9_fine 0 = .ok (.aload_n 0, 1) := by decide +kernel
theorem dX9_fine_1 : decode cX9_fine 1 = .ok (.iconst 0, 1) := by decide +kernel
theorem dX9_fine_2 : decode cX9_fine 2 = .ok (.putfield 345, 3) := by decide +kernel
theorem dX9_fine_5 : decode cX9_fine 5 = .ok (.iload_n 1, 1) := by decide +kernel
theorem dX9_fine_6 : decode cX9_fine 6 = .ok (.ireturn, 1) := by decide +kernel
theorem dX9_noSky_0 : decode cX9_noSky 0 = .ok (.aload_n 0, 1) := by decide +kernel
theorem dX9_noSky_1 : decode cX9_noSky 1 = .ok (.getfield 35, 3) := by decide +kernel
theorem dX9_noSky_4 : decode cX9_noSky 4 = .ok (.getfield 155, 3) := by decide +kernel
theorem dX9_noSky_7 : decode cX9_noSky 7 = .ok (.ifCond .ne 7, 3) := by decide +kernel
theorem dX9_noSky_10 : decode cX9_noSky 10 = .ok (.iconst 1, 1) := by decide +kernel
theorem dX9_noSky_11 : decode cX9_noSky 11 = .ok (.goto 4, 3) := by decide +kernel
theorem dX9_noSky_14 : decode cX9_noSky 14 = .ok (.iconst 0, 1) := by decide +kernel
theorem dX9_noSky_15 : decode cX9_noSky 15 = .ok (.ireturn, 1) := by decide +kernel
theorem dX9_isCloud_0 : decode cX9_isCloud 0 = .ok (.iload_n 1, 1) := by decide +kernel
theorem dX9_isCloud_1 : decode cX9_isCloud 1 = .ok (.iconst 0, 1) := by decide +kernel
theorem dX9_isCloud_2 : decode cX9_isCloud 2 = .ok (.aload_n 0, 1) := by decide +kernel
theorem dX9_isCloud_3 : decode cX9_isCloud 3 = .ok (.getfield 35, 3) := by decide +kernel
theorem dX9_isCloud_6 : decode cX9_isCloud 6 = .ok (.getfield 155, 3) := by decide +kernel
theorem dX9_isCloud_9 : decode cX9_isCloud 9 = .ok (.iconst 1, 1) := by decide +kernel
theorem dX9_isCloud_10 : decode cX9_isCloud 10 = .ok (.isub, 1) := by decide +kernel
theorem dX9_isCloud_11 : decode cX9_isCloud 11 = .ok (.invokestatic 86, 3) := by decide +kernel
theorem dX9_isCloud_14 : decode cX9_isCloud 14 = .ok (.ireturn, 1) := by decide +kernel
theorem dX9_areTwoClouds_0 : decode cX9_areTwoClouds 0 = .ok (.aload_n 0, 1) := by decide +kernel
theorem dX9_areTwoClouds_1 : decode cX9_areTwoClouds 1 = .ok (.iload_n 1, 1) := by decide +kernel
theorem dX9_areTwoClouds_2 : decode cX9_areTwoClouds 2 = .ok (.invokevirtual 180, 3) := by decide +kernel
theorem dX9_areTwoClouds_5 : decode cX9_areTwoClouds 5 = .ok (.ifCond .eq 20, 3) := by decide +kernel
theorem dX9_areTwoClouds_8 : decode cX9_areTwoClouds 8 = .ok (.aload_n 0, 1) := by decide +kernel
theorem dX9_areTwoClouds_9 : decode cX9_areTwoClouds 9 = .ok (.iload_n 2, 1) := by decide +kernel
theorem dX9_areTwoClouds_10 : decode cX9_areTwoClouds 10 = .ok (.invokevirtual 180, 3) := by decide +kernel
theorem dX9_areTwoClouds_13 : decode cX9_areTwoClouds 13 = .ok (.ifCond .eq 12, 3) := by decide +kernel
theorem dX9_areTwoClouds_16 : decode cX9_areTwoClouds 16 = .ok (.iload_n 1, 1) := by decide +kernel
theorem dX9_areTwoClouds_17 : decode cX9_areTwoClouds 17 = .ok (.iload_n 2, 1) := by decide +kernel
theorem dX9_areTwoClouds_18 : decode cX9_areTwoClouds 18 = .ok (.if_icmp .eq 7, 3) := by decide +kernel
theorem dX9_areTwoClouds_21 : decode cX9_areTwoClouds 21 = .ok (.iconst 1, 1) := by decide +kernel
theorem dX9_areTwoClouds_22 : decode cX9_areTwoClouds 22 = .ok (.goto 4, 3) := by decide +kernel
theorem dX9_areTwoClouds_25 : decode cX9_areTwoClouds 25 = .ok (.iconst 0, 1) := by decide +kernel
theorem dX9_areTwoClouds_26 : decode cX9_areTwoClouds 26 = .ok (.ireturn, 1) := by decide +kernel
theorem dX9_refusalOfRain_0 : decode cX9_refusalOfRain 0 = .ok (.aload_n 0, 1) := by decide +kernel
theorem dX9_refusalOfRain_1 : decode cX9_refusalOfRain 1 = .ok (.iload_n 1, 1) := by decide +kernel
theorem dX9_refusalOfRain_2 : decode cX9_refusalOfRain 2 = .ok (.invokevirtual 180, 3) := by decide +kernel
theorem dX9_refusalOfRain_5 : decode cX9_refusalOfRain 5 = .ok (.ifCond .eq 28, 3) := by decide +kernel
theorem dX9_refusalOfRain_8 : decode cX9_refusalOfRain 8 = .ok (.iload_n 2, 1) := by decide +kernel
theorem dX9_refusalOfRain_9 : decode cX9_refusalOfRain 9 = .ok (.invokestatic 214, 3) := by decide +kernel
theorem dX9_refusalOfRain_12 : decode cX9_refusalOfRain 12 = .ok (.ifCond .eq 21, 3) := by decide +kernel
theorem dX9_refusalOfRain_15 : decode cX9_refusalOfRain 15 = .ok (.iload_n 3, 1) := by decide +kernel
theorem dX9_refusalOfRain_16 : decode cX9_refusalOfRain 16 = .ok (.invokestatic 82, 3) := by decide +kernel
theorem dX9_refusalOfRain_19 : decode cX9_refusalOfRain 19 = .ok (.ifCond .eq 14, 3) := by decide +kernel
theorem dX9_refusalOfRain_22 : decode cX9_refusalOfRain 22 = .ok (.iload 5, 2) := by decide +kernel
theorem dX9_refusalOfRain_24 : decode cX9_refusalOfRain 24 = .ok (.iconst 1, 1) := by decide +kernel
theorem dX9_refusalOfRain_25 : decode cX9_refusalOfRain 25 = .ok (.bipush 12, 2) := by decide +kernel
theorem dX9_refusalOfRain_27 : decode cX9_refusalOfRain 27 = .ok (.invokestatic 86, 3) := by decide +kernel
theorem dX9_refusalOfRain_30 : decode cX9_refusalOfRain 30 = .ok (.ifCond .ne 6, 3) := by decide +kernel
theorem dX9_refusalOfRain_33 : decode cX9_refusalOfRain 33 = .ok (.ldc 90, 2) := by decide +kernel
theorem dX9_refusalOfRain_35 : decode cX9_refusalOfRain 35 = .ok (.ireturn, 1) := by decide +kernel
theorem dX9_refusalOfRain_36 : decode cX9_refusalOfRain 36 = .ok (.aload_n 0, 1) := by decide +kernel
theorem dX9_refusalOfRain_37 : decode cX9_refusalOfRain 37 = .ok (.getfield 10, 3) := by decide +kernel
theorem dX9_refusalOfRain_40 : decode cX9_refusalOfRain 40 = .ok (.iload_n 3, 1) := by decide +kernel
theorem dX9_refusalOfRain_41 : decode cX9_refusalOfRain 41 = .ok (.invokevirtual 102, 3) := by decide +kernel
theorem dX9_refusalOfRain_44 : decode cX9_refusalOfRain 44 = .ok (.ifCond .eq 9, 3) := by decide +kernel
theorem dX9_refusalOfRain_47 : decode cX9_refusalOfRain 47 = .ok (.aload_n 0, 1) := by decide +kernel
theorem dX9_refusalOfRain_48 : decode cX9_refusalOfRain 48 = .ok (.iconst 1, 1) := by decide +kernel
theorem dX9_refusalOfRain_49 : decode cX9_refusalOfRain 49 = .ok (.invokevirtual 91, 3) := by decide +kernel
theorem dX9_refusalOfRain_52 : decode cX9_refusalOfRain 52 = .ok (.ireturn, 1) := by decide +kernel
theorem dX9_refusalOfRain_53 : decode cX9_refusalOfRain 53 = .ok (.aload_n 0, 1) := by decide +kernel
theorem dX9_refusalOfRain_54 : decode cX9_refusalOfRain 54 = .ok (.getfield 10, 3) := by decide +kernel
theorem dX9_refusalOfRain_57 : decode cX9_refusalOfRain 57 = .ok (.iload_n 3, 1) := by decide +kernel
theorem dX9_refusalOfRain_58 : decode cX9_refusalOfRain 58 = .ok (.iload 4, 2) := by decide +kernel
theorem dX9_refusalOfRain_60 : decode cX9_refusalOfRain 60 = .ok (.iload 5, 2) := by decide +kernel
theorem dX9_refusalOfRain_62 : decode cX9_refusalOfRain 62 = .ok (.invokevirtual 105, 3) := by decide +kernel
theorem dX9_refusalOfRain_65 : decode cX9_refusalOfRain 65 = .ok (.ifCond .eq 7, 3) := by decide +kernel
theorem dX9_refusalOfRain_68 : decode cX9_refusalOfRain 68 = .ok (.iconst 0, 1) := by decide +kernel
theorem dX9_refusalOfRain_69 : decode cX9_refusalOfRain 69 = .ok (.goto 8, 3) := by decide +kernel
theorem dX9_refusalOfRain_72 : decode cX9_refusalOfRain 72 = .ok (.aload_n 0, 1) := by decide +kernel
theorem dX9_refusalOfRain_73 : decode cX9_refusalOfRain 73 = .ok (.iconst 2, 1) := by decide +kernel
theorem dX9_refusalOfRain_74 : decode cX9_refusalOfRain 74 = .ok (.invokevirtual 91, 3) := by decide +kernel
theorem dX9_refusalOfRain_77 : decode cX9_refusalOfRain 77 = .ok (.ireturn, 1) := by decide +kernel
theorem dX9_isField_0 : decode cX9_isField 0 = .ok (.iload_n 0, 1) := by decide +kernel
theorem dX9_isField_1 : decode cX9_isField 1 = .ok (.iconst 0, 1) := by decide +kernel
theorem dX9_isField_2 : decode cX9_isField 2 = .ok (.bipush 15, 2) := by decide +kernel
theorem dX9_isField_4 : decode cX9_isField 4 = .ok (.invokestatic 86, 3) := by decide +kernel
theorem dX9_isField_7 : decode cX9_isField 7 = .ok (.ireturn, 1) := by decide +kernel
theorem dX9_isZeroOrOne_0 : decode cX9_isZeroOrOne 0 = .ok (.iload_n 0, 1) := by decide +kernel
theorem dX9_isZeroOrOne_1 : decode cX9_isZeroOrOne 1 = .ok (.ifCond .eq 8, 3) := by decide +kernel
theorem dX9_isZeroOrOne_4 : decode cX9_isZeroOrOne 4 = .ok (.iload_n 0, 1) := by decide +kernel
theorem dX9_isZeroOrOne_5 : decode cX9_isZeroOrOne 5 = .ok (.iconst 1, 1) := by decide +kernel
theorem dX9_isZeroOrOne_6 : decode cX9_isZeroOrOne 6 = .ok (.if_icmp .ne 7, 3) := by decide +kernel
theorem dX9_isZeroOrOne_9 : decode cX9_isZeroOrOne 9 = .ok (.iconst 1, 1) := by decide +kernel
theorem dX9_isZeroOrOne_10 : decode cX9_isZeroOrOne 10 = .ok (.goto 4, 3) := by decide +kernel
theorem dX9_isZeroOrOne_13 : decode cX9_isZeroOrOne 13 = .ok (.iconst 0, 1) := by decide +kernel
theorem dX9_isZeroOrOne_14 : decode cX9_isZeroOrOne 14 = .ok (.ireturn, 1) := by decide +kernel
theorem dX9_within_0 : decode cX9_within 0 = .ok (.iload_n 0, 1) := by decide +kernel
theorem dX9_within_1 : decode cX9_within 1 = .ok (.iload_n 1, 1) := by decide +kernel
theorem dX9_within_2 : decode cX9_within 2 = .ok (.if_icmp .lt 12, 3) := by decide +kernel
theorem dX9_within_5 : decode cX9_within 5 = .ok (.iload_n 0, 1) := by decide +kernel
theorem dX9_within_6 : decode cX9_within 6 = .ok (.iload_n 2, 1) := by decide +kernel
theorem dX9_within_7 : decode cX9_within 7 = .ok (.if_icmp .gt 7, 3) := by decide +kernel
theorem dX9_within_10 : decode cX9_within 10 = .ok (.iconst 1, 1) := by decide +kernel
theorem dX9_within_11 : decode cX9_within 11 = .ok (.goto 4, 3) := by decide +kernel
theorem dX9_within_14 : decode cX9_within 14 = .ok (.iconst 0, 1) := by decide +kernel
theorem dX9_within_15 : decode cX9_within 15 = .ok (.ireturn, 1) := by decide +kernel
theorem dX9_ring_0 : decode cX9_ring 0 = .ok (.iload_n 0, 1) := by decide +kernel
theorem dX9_ring_1 : decode cX9_ring 1 = .ok (.bipush 15, 2) := by decide +kernel
theorem dX9_ring_3 : decode cX9_ring 3 = .ok (.iand, 1) := by decide +kernel
theorem dX9_ring_4 : decode cX9_ring 4 = .ok (.ireturn, 1) := by decide +kernel
theorem dX9_turned_0 : decode cX9_turned 0 = .ok (.iload_n 0, 1) := by decide +kernel
theorem dX9_turned_1 : decode cX9_turned 1 = .ok (.iload_n 1, 1) := by decide +kernel
theorem dX9_turned_2 : decode cX9_turned 2 = .ok (.ishl, 1) := by decide +kernel
theorem dX9_turned_3 : decode cX9_turned 3 = .ok (.iload_n 0, 1) := by decide +kernel
theorem dX9_turned_4 : decode cX9_turned 4 = .ok (.bipush 16, 2) := by decide +kernel
theorem dX9_turned_6 : decode cX9_turned 6 = .ok (.iload_n 1, 1) := by decide +kernel
theorem dX9_turned_7 : decode cX9_turned 7 = .ok (.isub, 1) := by decide +kernel
theorem dX9_turned_8 : decode cX9_turned 8 = .ok (.iushr, 1) := by decide +kernel
theorem dX9_turned_9 : decode cX9_turned 9 = .ok (.ior, 1) := by decide +kernel
theorem dX9_turned_10 : decode cX9_turned 10 = .ok (.ldc 254, 2) := by decide +kernel
theorem dX9_turned_12 : decode cX9_turned 12 = .ok (.iand, 1) := by decide +kernel
theorem dX9_turned_13 : decode cX9_turned 13 = .ok (.ireturn, 1) := by decide +kernel
theorem dX9_blueFrom_0 : decode cX9_blueFrom 0 = .ok (.iconst 0, 1) := by decide +kernel
theorem dX9_blueFrom_1 : decode cX9_blueFrom 1 = .ok (.istore_n 2, 1) := by decide +kernel
theorem dX9_blueFrom_2 : decode cX9_blueFrom 2 = .ok (.iload_n 2, 1) := by decide +kernel
theorem dX9_blueFrom_3 : decode cX9_blueFrom 3 = .ok (.bipush 16, 2) := by decide +kernel
theorem dX9_blueFrom_5 : decode cX9_blueFrom 5 = .ok (.if_icmp .ge 22, 3) := by decide +kernel
theorem dX9_blueFrom_8 : decode cX9_blueFrom 8 = .ok (.iload_n 1, 1) := by decide +kernel
theorem dX9_blueFrom_9 : decode cX9_blueFrom 9 = .ok (.iload_n 0, 1) := by decide +kernel
theorem dX9_blueFrom_10 : decode cX9_blueFrom 10 = .ok (.iload_n 2, 1) := by decide +kernel
theorem dX9_blueFrom_11 : decode cX9_blueFrom 11 = .ok (.iadd, 1) := by decide +kernel
theorem dX9_blueFrom_12 : decode cX9_blueFrom 12 = .ok (.invokestatic 189, 3) := by decide +kernel
theorem dX9_blueFrom_15 : decode cX9_blueFrom 15 = .ok (.ishr, 1) := by decide +kernel
theorem dX9_blueFrom_16 : decode cX9_blueFrom 16 = .ok (.iconst 1, 1) := by decide +kernel
theorem dX9_blueFrom_17 : decode cX9_blueFrom 17 = .ok (.iand, 1) := by decide +kernel
theorem dX9_blueFrom_18 : decode cX9_blueFrom 18 = .ok (.ifCond .ne 9, 3) := by decide +kernel
theorem dX9_blueFrom_21 : decode cX9_blueFrom 21 = .ok (.iinc 2 1, 3) := by decide +kernel
theorem dX9_blueFrom_24 : decode cX9_blueFrom 24 = .ok (.goto (-22), 3) := by decide +kernel
theorem dX9_blueFrom_27 : decode cX9_blueFrom 27 = .ok (.iload_n 2, 1) := by decide +kernel
theorem dX9_blueFrom_28 : decode cX9_blueFrom 28 = .ok (.ireturn, 1) := by decide +kernel
theorem dX9_isOfKind_0 : decode cX9_isOfKind 0 = .ok (.iload_n 0, 1) := by decide +kernel
theorem dX9_isOfKind_1 : decode cX9_isOfKind 1 = .ok (.istore_n 2, 1) := by decide +kernel
theorem dX9_isOfKind_2 : decode cX9_isOfKind 2 = .ok (.iconst 0, 1) := by decide +kernel
theorem dX9_isOfKind_3 : decode cX9_isOfKind 3 = .ok (.istore_n 3, 1) := by decide +kernel
theorem dX9_isOfKind_4 : decode cX9_isOfKind 4 = .ok (.iload_n 3, 1) := by decide +kernel
theorem dX9_isOfKind_5 : decode cX9_isOfKind 5 = .ok (.iconst 5, 1) := by decide +kernel
theorem dX9_isOfKind_6 : decode cX9_isOfKind 6 = .ok (.if_icmp .gt 31, 3) := by decide +kernel
theorem dX9_isOfKind_9 : decode cX9_isOfKind 9 = .ok (.iload_n 2, 1) := by decide +kernel
theorem dX9_isOfKind_10 : decode cX9_isOfKind 10 = .ok (.ifCond .lt 27, 3) := by decide +kernel
theorem dX9_isOfKind_13 : decode cX9_isOfKind 13 = .ok (.iload_n 2, 1) := by decide +kernel
theorem dX9_isOfKind_14 : decode cX9_isOfKind 14 = .ok (.iconst 5, 1) := by decide +kernel
theorem dX9_isOfKind_15 : decode cX9_isOfKind 15 = .ok (.if_icmp .gt 22, 3) := by decide +kernel
theorem dX9_isOfKind_18 : decode cX9_isOfKind 18 = .ok (.iload_n 2, 1) := by decide +kernel
theorem dX9_isOfKind_19 : decode cX9_isOfKind 19 = .ok (.iload_n 1, 1) := by decide +kernel
theorem dX9_isOfKind_20 : decode cX9_isOfKind 20 = .ok (.if_icmp .ne 5, 3) := by decide +kernel
theorem dX9_isOfKind_23 : decode cX9_isOfKind 23 = .ok (.iconst 1, 1) := by decide +kernel
theorem dX9_isOfKind_24 : decode cX9_isOfKind 24 = .ok (.ireturn, 1) := by decide +kernel
theorem dX9_isOfKind_25 : decode cX9_isOfKind 25 = .ok (.getstatic 349, 3) := by decide +kernel
theorem dX9_isOfKind_28 : decode cX9_isOfKind 28 = .ok (.iload_n 2, 1) := by decide +kernel
theorem dX9_isOfKind_29 : decode cX9_isOfKind 29 = .ok (.iaload, 1) := by decide +kernel
theorem dX9_isOfKind_30 : decode cX9_isOfKind 30 = .ok (.istore_n 2, 1) := by decide +kernel
theorem dX9_isOfKind_31 : decode cX9_isOfKind 31 = .ok (.iinc 3 1, 3) := by decide +kernel
theorem dX9_isOfKind_34 : decode cX9_isOfKind 34 = .ok (.goto (-30), 3) := by decide +kernel
theorem dX9_isOfKind_37 : decode cX9_isOfKind 37 = .ok (.iconst 0, 1) := by decide +kernel
theorem dX9_isOfKind_38 : decode cX9_isOfKind 38 = .ok (.ireturn, 1) := by decide +kernel
end
section
theorem dX10_in_0 : decode cX10_in 0 = .ok (.lload_n 0, 1) := by decide +kernel
theorem dX10_in_1 : decode cX10_in 1 = .ok (.lload_n 2, 1) := by decide +kernel
theorem dX10_in_2 : decode cX10_in 2 = .ok (.lcmp, 1) := by decide +kernel
theorem dX10_in_3 : decode cX10_in 3 = .ok (.ifCond .lt 14, 3) := by decide +kernel
theorem dX10_in_6 : decode cX10_in 6 = .ok (.lload_n 0, 1) := by decide +kernel
theorem dX10_in_7 : decode cX10_in 7 = .ok (.lload 4, 2) := by decide +kernel
theorem dX10_in_9 : decode cX10_in 9 = .ok (.lcmp, 1) := by decide +kernel
theorem dX10_in_10 : decode cX10_in 10 = .ok (.ifCond .gt 7, 3) := by decide +kernel
theorem dX10_in_13 : decode cX10_in 13 = .ok (.iconst 1, 1) := by decide +kernel
theorem dX10_in_14 : decode cX10_in 14 = .ok (.goto 4, 3) := by decide +kernel
theorem dX10_in_17 : decode cX10_in 17 = .ok (.iconst 0, 1) := by decide +kernel
theorem dX10_in_18 : decode cX10_in 18 = .ok (.ireturn, 1) := by decide +kernel
theorem dX10_init_0 : decode cX10_init 0 = .ok (.aload_n 0, 1) := by decide +kernel
theorem dX10_init_1 : decode cX10_init 1 = .ok (.invokespecial 1, 3) := by decide +kernel
theorem dX10_init_4 : decode cX10_init 4 = .ok (.aload_n 0, 1) := by decide +kernel
theorem dX10_init_5 : decode cX10_init 5 = .ok (.bipush 8, 2) := by decide +kernel
theorem dX10_init_7 : decode cX10_init 7 = .ok (.newarray .int, 2) := by decide +kernel
theorem dX10_init_9 : decode cX10_init 9 = .ok (.putfield 7, 3) := by decide +kernel
theorem dX10_init_12 : decode cX10_init 12 = .ok (.aload_n 0, 1) := by decide +kernel
theorem dX10_init_13 : decode cX10_init 13 = .ok (.bipush 8, 2) := by decide +kernel
theorem dX10_init_15 : decode cX10_init 15 = .ok (.newarray .int, 2) := by decide +kernel
theorem dX10_init_17 : decode cX10_init 17 = .ok (.putfield 13, 3) := by decide +kernel
theorem dX10_init_20 : decode cX10_init 20 = .ok (.aload_n 0, 1) := by decide +kernel
theorem dX10_init_21 : decode cX10_init 21 = .ok (.sipush 320, 3) := by decide +kernel
theorem dX10_init_24 : decode cX10_init 24 = .ok (.newarray .int, 2) := by decide +kernel
theorem dX10_init_26 : decode cX10_init 26 = .ok (.putfield 16, 3) := by decide +kernel
theorem dX10_init_29 : decode cX10_init 29 = .ok (.aload_n 0, 1) := by decide +kernel
theorem dX10_init_30 : decode cX10_init 30 = .ok (.bipush 40, 2) := by decide +kernel
theorem dX10_init_32 : decode cX10_init 32 = .ok (.newarray .int, 2) := by decide +kernel
theorem dX10_init_34 : decode cX10_init 34 = .ok (.putfield 19, 3) := by decide +kernel
theorem dX10_init_37 : decode cX10_init 37 = .ok (.aload_n 0, 1) := by decide +kernel
theorem dX10_init_38 : decode cX10_init 38 = .ok (.bipush 45, 2) := by decide +kernel
theorem dX10_init_40 : decode cX10_init 40 = .ok (.newarray .int, 2) := by decide +kernel
theorem dX10_init_42 : decode cX10_init 42 = .ok (.putfield 22, 3) := by decide +kernel
theorem dX10_init_45 : decode cX10_init 45 = .ok (.aload_n 0, 1) := by decide +kernel
theorem dX10_init_46 : decode cX10_init 46 = .ok (.bipush 45, 2) := by decide +kernel
theorem dX10_init_48 : decode cX10_init 48 = .ok (.newarray .int, 2) := by decide +kernel
theorem dX10_init_50 : decode cX10_init 50 = .ok (.putfield 25, 3) := by decide +kernel
theorem dX10_init_53 : decode cX10_init 53 = .ok (.aload_n 0, 1) := by decide +kernel
theorem dX10_init_54 : decode cX10_init 54 = .ok (.bipush 100, 2) := by decide +kernel
theorem dX10_init_56 : decode cX10_init 56 = .ok (.newarray .int, 2) := by decide +kernel
theorem dX10_init_58 : decode cX10_init 58 = .ok (.putfield 28, 3) := by decide +kernel
theorem dX10_init_61 : decode cX10_init 61 = .ok (.aload_n 0, 1) := by decide +kernel
theorem dX10_init_62 : decode cX10_init 62 = .ok (.sipush 1080, 3) := by decide +kernel
theorem dX10_init_65 : decode cX10_init 65 = .ok (.newarray .int, 2) := by decide +kernel
theorem dX10_init_67 : decode cX10_init 67 = .ok (.putfield 31, 3) := by decide +kernel
theorem dX10_init_70 : decode cX10_init 70 = .ok (.aload_n 0, 1) := by decide +kernel
theorem dX10_init_71 : decode cX10_init 71 = .ok (.bipush 45, 2) := by decide +kernel
theorem dX10_init_73 : decode cX10_init 73 = .ok (.newarray .int, 2) := by decide +kernel
theorem dX10_init_75 : decode cX10_init 75 = .ok (.putfield 34, 3) := by decide +kernel
theorem dX10_init_78 : decode cX10_init 78 = .ok (.aload_n 0, 1) := by decide +kernel
theorem dX10_init_79 : decode cX10_init 79 = .ok (.bipush 92, 2) := by decide +kernel
theorem dX10_init_81 : decode cX10_init 81 = .ok (.newarray .int, 2) := by decide +kernel
theorem dX10_init_83 : decode cX10_init 83 = .ok (.putfield 37, 3) := by decide +kernel
theorem dX10_init_86 : decode cX10_init 86 = .ok (.aload_n 0, 1) := by decide +kernel
theorem dX10_init_87 : decode cX10_init 87 = .ok (.bipush 16, 2) := by decide +kernel
theorem dX10_init_89 : decode cX10_init 89 = .ok (.newarray .int, 2) := by decide +kernel
theorem dX10_init_91 : decode cX10_init 91 = .ok (.putfield 40, 3) := by decide +kernel
theorem dX10_init_94 : decode cX10_init 94 = .ok (.iconst 0, 1) := by decide +kernel
theorem dX10_init_95 : decode cX10_init 95 = .ok (.istore_n 1, 1) := by decide +kernel
theorem dX10_init_96 : decode cX10_init 96 = .ok (.iload_n 1, 1) := by decide +kernel
theorem dX10_init_97 : decode cX10_init 97 = .ok (.bipush 8, 2) := by decide +kernel
theorem dX10_init_99 : decode cX10_init 99 = .ok (.if_icmp .ge 16, 3) := by decide +kernel
theorem dX10_init_102 : decode cX10_init 102 = .ok (.aload_n 0, 1) := by decide +kernel
theorem dX10_init_103 : decode cX10_init 103 = .ok (.getfield 7, 3) := by decide +kernel
theorem dX10_init_106 : decode cX10_init 106 = .ok (.iload_n 1, 1) := by decide +kernel
theorem dX10_init_107 : decode cX10_init 107 = .ok (.iconst (-1), 1) := by decide +kernel
theorem dX10_init_108 : decode cX10_init 108 = .ok (.iastore, 1) := by decide +kernel
theorem dX10_init_109 : decode cX10_init 109 = .ok (.iinc 1 1, 3) := by decide +kernel
theorem dX10_init_112 : decode cX10_init 112 = .ok (.goto (-16), 3) := by decide +kernel
theorem dX10_init_115 : decode cX10_init 115 = .ok (.return_, 1) := by decide +kernel
theorem dX10_finds_0 : decode cX10_finds 0 = .ok (.aload_n 0, 1) := by decide +kernel
theorem dX10_finds_1 : decode cX10_finds 1 = .ok (.iload_n 1, 1) := by decide +kernel
theorem dX10_finds_2 : decode cX10_finds 2 = .ok (.putfield 43, 3) := by decide +kernel
theorem dX10_finds_5 : decode cX10_finds 5 = .ok (.ldc 47, 2) := by decide +kernel
theorem dX10_finds_7 : decode cX10_finds 7 = .ok (.iload_n 1, 1) := by decide +kernel
theorem dX10_finds_8 : decode cX10_finds 8 = .ok (.isub, 1) := by decide +kernel
theorem dX10_finds_9 : decode cX10_finds 9 = .ok (.ireturn, 1) := by decide +kernel
theorem dX10_well_0 : decode cX10_well 0 = .ok (.aload_n 0, 1) := by decide +kernel
theorem dX10_well_1 : decode cX10_well 1 = .ok (.iconst 0, 1) := by decide +kernel
theorem dX10_well_2 : decode cX10_well 2 = .ok (.putfield 43, 3) := by decide +kernel
theorem dX10_well_5 : decode cX10_well 5 = .ok (.iload_n 1, 1) := by decide +kernel
theorem dX10_well_6 : decode cX10_well 6 = .ok (.ireturn, 1) := by decide +kernel
theorem dX10_isRow_0 : decode cX10_isRow 0 = .ok (.iload_n 0, 1) := by decide +kernel
theorem dX10_isRow_1 : decode cX10_isRow 1 = .ok (.i2l, 1) := by decide +kernel
theorem dX10_isRow_2 : decode cX10_isRow 2 = .ok (.lconst 0, 1) := by decide +kernel
theorem dX10_isRow_3 : decode cX10_isRow 3 = .ok (.ldc2_w 48, 3) := by decide +kernel
theorem dX10_isRow_6 : decode cX10_isRow 6 = .ok (.invokestatic 50, 3) := by decide +kernel
theorem dX10_isRow_9 : decode cX10_isRow 9 = .ok (.ireturn, 1) := by decide +kernel
theorem dX10_row_0 : decode cX10_row 0 = .ok (.iload_n 1, 1) := by decide +kernel
theorem dX10_row_1 : decode cX10_row 1 = .ok (.invokestatic 54, 3) := by decide +kernel
theorem dX10_row_4 : decode cX10_row 4 = .ok (.ifCond .eq 21, 3) := by decide +kernel
theorem dX10_row_7 : decode cX10_row 7 = .ok (.iload_n 2, 1) := by decide +kernel
theorem dX10_row_8 : decode cX10_row 8 = .ok (.i2l, 1) := by decide +kernel
theorem dX10_row_9 : decode cX10_row 9 = .ok (.lconst 0, 1) := by decide +kernel
theorem dX10_row_10 : decode cX10_row 10 = .ok (.ldc2_w 58, 3) := by decide +kernel
theorem dX10_row_13 : decode cX10_row 13 = .ok (.invokestatic 50, 3) := by decide +kernel
theorem dX10_row_16 : decode cX10_row 16 = .ok (.ifCond .eq 9, 3) := by decide +kernel
theorem dX10_row_19 : decode cX10_row 19 = .ok (.iload_n 3, 1) := by decide +kernel
theorem dX10_row_20 : decode cX10_row 20 = .ok (.bipush 40, 2) := by decide +kernel
theorem dX10_row_22 : decode cX10_row 22 = .ok (.if_icmp .le 6, 3) := by decide +kernel
theorem dX10_row_25 : decode cX10_row 25 = .ok (.ldc 60, 2) := by decide +kernel
theorem dX10_row_27 : decode cX10_row 27 = .ok (.ireturn, 1) := by decide +kernel
theorem dX10_row_28 : decode cX10_row 28 = .ok (.iload_n 3, 1) := by decide +kernel
theorem dX10_row_29 : decode cX10_row 29 = .ok (.ifCond .ge 9, 3) := by decide +kernel
theorem dX10_row_32 : decode cX10_row 32 = .ok (.aload_n 0, 1) := by decide +kernel
theorem dX10_row_33 : decode cX10_row 33 = .ok (.iconst 4, 1) := by decide +kernel
theorem dX10_row_34 : decode cX10_row 34 = .ok (.invokevirtual 61, 3) := by decide +kernel
theorem dX10_row_37 : decode cX10_row 37 = .ok (.ireturn, 1) := by decide +kernel
theorem dX10_row_38 : decode cX10_row 38 = .ok (.aload_n 0, 1) := by decide +kernel
theorem dX10_row_39 : decode cX10_row 39 = .ok (.getfield 7, 3) := by decide +kernel
theorem dX10_row_42 : decode cX10_row 42 = .ok (.iload_n 1, 1) := by decide +kernel
theorem dX10_row_43 : decode cX10_row 43 = .ok (.iload_n 2, 1) := by decide +kernel
theorem dX10_row_44 : decode cX10_row 44 = .ok (.iastore, 1) := by decide +kernel
theorem dX10_row_45 : decode cX10_row 45 = .ok (.aload_n 0, 1) := by decide +kernel
theorem dX10_row_46 : decode cX10_row 46 = .ok (.getfield 13, 3) := by decide +kernel
theorem dX10_row_49 : decode cX10_row 49 = .ok (.iload_n 1, 1) := by decide +kernel
theorem dX10_row_50 : decode cX10_row 50 = .ok (.iload_n 3, 1) := by decide +kernel
theorem dX10_row_51 : decode cX10_row 51 = .ok (.iastore, 1) := by decide +kernel
theorem dX10_row_52 : decode cX10_row 52 = .ok (.iconst 0, 1) := by decide +kernel
theorem dX10_row_53 : decode cX10_row 53 = .ok (.istore 4, 2) := by decide +kernel
theorem dX10_row_55 : decode cX10_row 55 = .ok (.iload 4, 2) := by decide +kernel
theorem dX10_row_57 : decode cX10_row 57 = .ok (.bipush 40, 2) := by decide +kernel
theorem dX10_row_59 : decode cX10_row 59 = .ok (.if_icmp .ge 22, 3) := by decide +kernel
theorem dX10_row_62 : decode cX10_row 62 = .ok (.aload_n 0, 1) := by decide +kernel
theorem dX10_row_63 : decode cX10_row 63 = .ok (.getfield 16, 3) := by decide +kernel
theorem dX10_row_66 : decode cX10_row 66 = .ok (.bipush 40, 2) := by decide +kernel
theorem dX10_row_68 : decode cX10_row 68 = .ok (.iload_n 1, 1) := by decide +kernel
theorem dX10_row_69 : decode cX10_row 69 = .ok (.imul, 1) := by decide +kernel
theorem dX10_row_70 : decode cX10_row 70 = .ok (.iload 4, 2) := by decide +kernel
theorem dX10_row_72 : decode cX10_row 72 = .ok (.iadd, 1) := by decide +kernel
theorem dX10_row_73 : decode cX10_row 73 = .ok (.iconst 0, 1) := by decide +kernel
theorem dX10_row_74 : decode cX10_row 74 = .ok (.iastore, 1) := by decide +kernel
theorem dX10_row_75 : decode cX10_row 75 = .ok (.iinc 4 1, 3) := by decide +kernel
theorem dX10_row_78 : decode cX10_row 78 = .ok (.goto (-23), 3) := by decide +kernel
theorem dX10_row_81 : decode cX10_row 81 = .ok (.aload_n 0, 1) := by decide +kernel
theorem dX10_row_82 : decode cX10_row 82 = .ok (.iload_n 3, 1) := by decide +kernel
theorem dX10_row_83 : decode cX10_row 83 = .ok (.invokevirtual 65, 3) := by decide +kernel
theorem dX10_row_86 : decode cX10_row 86 = .ok (.ireturn, 1) := by decide +kernel
theorem dX10_set_0 : decode cX10_set 0 = .ok (.iload_n 1, 1) := by decide +kernel
theorem dX10_set_1 : decode cX10_set 1 = .ok (.invokestatic 54, 3) := by decide +kernel
theorem dX10_set_4 : decode cX10_set 4 = .ok (.ifCond .ne 6, 3) := by decide +kernel
theorem dX10_set_7 : decode cX10_set 7 = .ok (.ldc 60, 2) := by decide +kernel
theorem dX10_set_9 : decode cX10_set 9 = .ok (.ireturn, 1) := by decide +kernel
theorem dX10_set_10 : decode cX10_set 10 = .ok (.aload_n 0, 1) := by decide +kernel
theorem dX10_set_11 : decode cX10_set 11 = .ok (.getfield 7, 3) := by decide +kernel
theorem dX10_set_14 : decode cX10_set 14 = .ok (.iload_n 1, 1) := by decide +kernel
theorem dX10_set_15 : decode cX10_set 15 = .ok (.iaload, 1) := by decide +kernel
theorem dX10_set_16 : decode cX10_set 16 = .ok (.ifCond .ge 9, 3) := by decide +kernel
theorem dX10_set_19 : decode cX10_set 19 = .ok (.aload_n 0, 1) := by decide +kernel
theorem dX10_set_20 : decode cX10_set 20 = .ok (.iconst 1, 1) := by decide +kernel
theorem dX10_set_21 : decode cX10_set 21 = .ok (.invokevirtual 61, 3) := by decide +kernel
theorem dX10_set_24 : decode cX10_set 24 = .ok (.ireturn, 1) := by decide +kernel
theorem dX10_set_25 : decode cX10_set 25 = .ok (.iload_n 2, 1) := by decide +kernel
theorem dX10_set_26 : decode cX10_set 26 = .ok (.i2l, 1) := by decide +kernel
theorem dX10_set_27 : decode cX10_set 27 = .ok (.lconst 0, 1) := by decide +kernel
theorem dX10_set_28 : decode cX10_set 28 = .ok (.aload_n 0, 1) := by decide +kernel
theorem dX10_set_29 : decode cX10_set 29 = .ok (.getfield 13, 3) := by decide +kernel
theorem dX10_set_32 : decode cX10_set 32 = .ok (.iload_n 1, 1) := by decide +kernel
theorem dX10_set_33 : decode cX10_set 33 = .ok (.iaload, 1) := by decide +kernel
theorem dX10_set_34 : decode cX10_set 34 = .ok (.iconst 1, 1) := by decide +kernel
theorem dX10_set_35 : decode cX10_set 35 = .ok (.isub, 1) := by decide +kernel
theorem dX10_set_36 : decode cX10_set 36 = .ok (.i2l, 1) := by decide +kernel
theorem dX10_set_37 : decode cX10_set 37 = .ok (.invokestatic 50, 3) := by decide +kernel
theorem dX10_set_40 : decode cX10_set 40 = .ok (.ifCond .ne 9, 3) := by decide +kernel
theorem dX10_set_43 : decode cX10_set 43 = .ok (.aload_n 0, 1) := by decide +kernel
theorem dX10_set_44 : decode cX10_set 44 = .ok (.iconst 2, 1) := by decide +kernel
theorem dX10_set_45 : decode cX10_set 45 = .ok (.invokevirtual 61, 3) := by decide +kernel
theorem dX10_set_48 : decode cX10_set 48 = .ok (.ireturn, 1) := by decide +kernel
theorem dX10_set_49 : decode cX10_set 49 = .ok (.aload_n 0, 1) := by decide +kernel
theorem dX10_set_50 : decode cX10_set 50 = .ok (.getfield 7, 3) := by decide +kernel
theorem dX10_set_53 : decode cX10_set 53 = .ok (.iload_n 1, 1) := by decide +kernel
theorem dX10_set_54 : decode cX10_set 54 = .ok (.iaload, 1) := by decide +kernel
theorem dX10_set_55 : decode cX10_set 55 = .ok (.istore 4, 2) := by decide +kernel
theorem dX10_set_57 : decode cX10_set 57 = .ok (.aload_n 0, 1) := by decide +kernel
theorem dX10_set_58 : decode cX10_set 58 = .ok (.getfield 16, 3) := by decide +kernel
theorem dX10_set_61 : decode cX10_set 61 = .ok (.bipush 40, 2) := by decide +kernel
theorem dX10_set_63 : decode cX10_set 63 = .ok (.iload_n 1, 1) := by decide +kernel
theorem dX10_set_64 : decode cX10_set 64 = .ok (.imul, 1) := by decide +kernel
theorem dX10_set_65 : decode cX10_set 65 = .ok (.iload_n 2, 1) := by decide +kernel
theorem dX10_set_66 : decode cX10_set 66 = .ok (.iadd, 1) := by decide +kernel
theorem dX10_set_67 : decode cX10_set 67 = .ok (.iload 4, 2) := by decide +kernel
theorem dX10_set_69 : decode cX10_set 69 = .ok (.ifCond .ne 8, 3) := by decide +kernel
theorem dX10_set_72 : decode cX10_set 72 = .ok (.iload_n 3, 1) := by decide +kernel
theorem dX10_set_73 : decode cX10_set 73 = .ok (.i2b, 1) := by decide +kernel
theorem dX10_set_74 : decode cX10_set 74 = .ok (.goto 15, 3) := by decide +kernel
theorem dX10_set_77 : decode cX10_set 77 = .ok (.iload 4, 2) := by decide +kernel
theorem dX10_set_79 : decode cX10_set 79 = .ok (.iconst 1, 1) := by decide +kernel
theorem dX10_set_80 : decode cX10_set 80 = .ok (.if_icmp .ne 8, 3) := by decide +kernel
theorem dX10_set_83 : decode cX10_set 83 = .ok (.iload_n 3, 1) := by decide +kernel
theorem dX10_set_84 : decode cX10_set 84 = .ok (.i2s, 1) := by decide +kernel
theorem dX10_set_85 : decode cX10_set 85 = .ok (.goto 4, 3) := by decide +kernel
theorem dX10_set_88 : decode cX10_set 88 = .ok (.iload_n 3, 1) := by decide +kernel
theorem dX10_set_89 : decode cX10_set 89 = .ok (.iastore, 1) := by decide +kernel
theorem dX10_set_90 : decode cX10_set 90 = .ok (.aload_n 0, 1) := by decide +kernel
theorem dX10_set_91 : decode cX10_set 91 = .ok (.aload_n 0, 1) := by decide +kernel
theorem dX10_set_92 : decode cX10_set 92 = .ok (.getfield 16, 3) := by decide +kernel
theorem dX10_set_95 : decode cX10_set 95 = .ok (.bipush 40, 2) := by decide +kernel
theorem dX10_set_97 : decode cX10_set 97 = .ok (.iload_n 1, 1) := by decide +kernel
theorem dX10_set_98 : decode cX10_set 98 = .ok (.imul, 1) := by decide +kernel
theorem dX10_set_99 : decode cX10_set 99 = .ok (.iload_n 2, 1) := by decide +kernel
theorem dX10_set_100 : decode cX10_set 100 = .ok (.iadd, 1) := by decide +kernel
theorem dX10_set_101 : decode cX10_set 101 = .ok (.iaload, 1) := by decide +kernel
theorem dX10_set_102 : decode cX10_set 102 = .ok (.invokevirtual 65, 3) := by decide +kernel
theorem dX10_set_105 : decode cX10_set 105 = .ok (.ireturn, 1) := by decide +kernel
theorem dX10_isPart_0 : decode cX10_isPart 0 = .ok (.iload_n 2, 1) := by decide +kernel
theorem dX10_isPart_1 : decode cX10_isPart 1 = .ok (.ifCond .lt 27, 3) := by decide +kernel
theorem dX10_isPart_4 : decode cX10_isPart 4 = .ok (.iload_n 3, 1) := by decide +kernel
theorem dX10_isPart_5 : decode cX10_isPart 5 = .ok (.ifCond .lt 23, 3) := by decide +kernel
theorem dX10_isPart_8 : decode cX10_isPart 8 = .ok (.iload_n 2, 1) := by decide +kernel
theorem dX10_isPart_9 : decode cX10_isPart 9 = .ok (.i2l, 1) := by decide +kernel
theorem dX10_isPart_10 : decode cX10_isPart 10 = .ok (.iload_n 3, 1) := by decide +kernel
theorem dX10_isPart_11 : decode cX10_isPart 11 = .ok (.i2l, 1) := by decide +kernel
theorem dX10_isPart_12 : decode cX10_isPart 12 = .ok (.ladd, 1) := by decide +kernel
theorem dX10_isPart_13 : decode cX10_isPart 13 = .ok (.aload_n 0, 1) := by decide +kernel
theorem dX10_isPart_14 : decode cX10_isPart 14 = .ok (.getfield 13, 3) := by decide +kernel
theorem dX10_isPart_17 : decode cX10_isPart 17 = .ok (.iload_n 1, 1) := by decide +kernel
theorem dX10_isPart_18 : decode cX10_isPart 18 = .ok (.iaload, 1) := by decide +kernel
theorem dX10_isPart_19 : decode cX10_isPart 19 = .ok (.i2l, 1) := by decide +kernel
theorem dX10_isPart_20 : decode cX10_isPart 20 = .ok (.lcmp, 1) := by decide +kernel
theorem dX10_isPart_21 : decode cX10_isPart 21 = .ok (.ifCond .gt 7, 3) := by decide +kernel
theorem dX10_isPart_24 : decode cX10_isPart 24 = .ok (.iconst 1, 1) := by decide +kernel
theorem dX10_isPart_25 : decode cX10_isPart 25 = .ok (.goto 4, 3) := by decide +kernel
theorem dX10_isPart_28 : decode cX10_isPart 28 = .ok (.iconst 0, 1) := by decide +kernel
theorem dX10_isPart_29 : decode cX10_isPart 29 = .ok (.ireturn, 1) := by decide +kernel
theorem dX10_copy_0 : decode cX10_copy 0 = .ok (.iload_n 1, 1) := by decide +kernel
theorem dX10_copy_1 : decode cX10_copy 1 = .ok (.invokestatic 54, 3) := by decide +kernel
theorem dX10_copy_4 : decode cX10_copy 4 = .ok (.ifCond .eq 10, 3) := by decide +kernel
theorem dX10_copy_7 : decode cX10_copy 7 = .ok (.iload_n 3, 1) := by decide +kernel
theorem dX10_copy_8 : decode cX10_copy 8 = .ok (.invokestatic 54, 3) := by decide +kernel
theorem dX10_copy_11 : decode cX10_copy 11 = .ok (.ifCond .ne 6, 3) := by decide +kernel
theorem dX10_copy_14 : decode cX10_copy 14 = .ok (.ldc 60, 2) := by decide +kernel
theorem dX10_copy_16 : decode cX10_copy 16 = .ok (.ireturn, 1) := by decide +kernel
theorem dX10_copy_17 : decode cX10_copy 17 = .ok (.aload_n 0, 1) := by decide +kernel
theorem dX10_copy_18 : decode cX10_copy 18 = .ok (.getfield 7, 3) := by decide +kernel
theorem dX10_copy_21 : decode cX10_copy 21 = .ok (.iload_n 1, 1) := by decide +kernel
theorem dX10_copy_22 : decode cX10_copy 22 = .ok (.iaload, 1) := by decide +kernel
theorem dX10_copy_23 : decode cX10_copy 23 = .ok (.ifCond .lt 12, 3) := by decide +kernel
theorem dX10_copy_26 : decode cX10_copy 26 = .ok (.aload_n 0, 1) := by decide +kernel
theorem dX10_copy_27 : decode cX10_copy 27 = .ok (.getfield 7, 3) := by decide +kernel
theorem dX10_copy_30 : decode cX10_copy 30 = .ok (.iload_n 3, 1) := by decide +kernel
theorem dX10_copy_31 : decode cX10_copy 31 = .ok (.iaload, 1) := by decide +kernel
theorem dX10_copy_32 : decode cX10_copy 32 = .ok (.ifCond .ge 9, 3) := by decide +kernel
theorem dX10_copy_35 : decode cX10_copy 35 = .ok (.aload_n 0, 1) := by decide +kernel
theorem dX10_copy_36 : decode cX10_copy 36 = .ok (.iconst 1, 1) := by decide +kernel
theorem dX10_copy_37 : decode cX10_copy 37 = .ok (.invokevirtual 61, 3) := by decide +kernel
theorem dX10_copy_40 : decode cX10_copy 40 = .ok (.ireturn, 1) := by decide +kernel
theorem dX10_copy_41 : decode cX10_copy 41 = .ok (.aload_n 0, 1) := by decide +kernel
theorem dX10_copy_42 : decode cX10_copy 42 = .ok (.getfield 7, 3) := by decide +kernel
theorem dX10_copy_45 : decode cX10_copy 45 = .ok (.iload_n 1, 1) := by decide +kernel
theorem dX10_copy_46 : decode cX10_copy 46 = .ok (.iaload, 1) := by decide +kernel
theorem dX10_copy_47 : decode cX10_copy 47 = .ok (.aload_n 0, 1) := by decide +kernel
theorem dX10_copy_48 : decode cX10_copy 48 = .ok (.getfield 7, 3) := by decide +kernel
theorem dX10_copy_51 : decode cX10_copy 51 = .ok (.iload_n 3, 1) := by decide +kernel
theorem dX10_copy_52 : decode cX10_copy 52 = .ok (.iaload, 1) := by decide +kernel
theorem dX10_copy_53 : decode cX10_copy 53 = .ok (.if_icmp .eq 9, 3) := by decide +kernel
theorem dX10_copy_56 : decode cX10_copy 56 = .ok (.aload_n 0, 1) := by decide +kernel
theorem dX10_copy_57 : decode cX10_copy 57 = .ok (.iconst 5, 1) := by decide +kernel
theorem dX10_copy_58 : decode cX10_copy 58 = .ok (.invokevirtual 61, 3) := by decide +kernel
theorem dX10_copy_61 : decode cX10_copy 61 = .ok (.ireturn, 1) := by decide +kernel
theorem dX10_copy_62 : decode cX10_copy 62 = .ok (.aload_n 0, 1) := by decide +kernel
theorem dX10_copy_63 : decode cX10_copy 63 = .ok (.iload_n 1, 1) := by decide +kernel
theorem dX10_copy_64 : decode cX10_copy 64 = .ok (.iload_n 2, 1) := by decide +kernel
theorem dX10_copy_65 : decode cX10_copy 65 = .ok (.iload 5, 2) := by decide +kernel
theorem dX10_copy_67 : decode cX10_copy 67 = .ok (.invokevirtual 68, 3) := by decide +kernel
theorem dX10_copy_70 : decode cX10_copy 70 = .ok (.ifCond .eq 15, 3) := by decide +kernel
theorem dX10_copy_73 : decode cX10_copy 73 = .ok (.aload_n 0, 1) := by decide +kernel
theorem dX10_copy_74 : decode cX10_copy 74 = .ok (.iload_n 3, 1) := by decide +kernel
theorem dX10_copy_75 : decode cX10_copy 75 = .ok (.iload 4, 2) := by decide +kernel
theorem dX10_copy_77 : decode cX10_copy 77 = .ok (.iload 5, 2) := by decide +kernel
theorem dX10_copy_79 : decode cX10_copy 79 = .ok (.invokevirtual 68, 3) := by decide +kernel
theorem dX10_copy_82 : decode cX10_copy 82 = .ok (.ifCond .ne 9, 3) := by decide +kernel
theorem dX10_copy_85 : decode cX10_copy 85 = .ok (.aload_n 0, 1) := by decide +kernel
theorem dX10_copy_86 : decode cX10_copy 86 = .ok (.iconst 2, 1) := by decide +kernel
theorem dX10_copy_87 : decode cX10_copy 87 = .ok (.invokevirtual 61, 3) := by decide +kernel
theorem dX10_copy_90 : decode cX10_copy 90 = .ok (.ireturn, 1) := by decide +kernel
theorem dX10_copy_91 : decode cX10_copy 91 = .ok (.iconst 0, 1) := by decide +kernel
theorem dX10_copy_92 : decode cX10_copy 92 = .ok (.istore 6, 2) := by decide +kernel
theorem dX10_copy_94 : decode cX10_copy 94 = .ok (.iload 6, 2) := by decide +kernel
theorem dX10_copy_96 : decode cX10_copy 96 = .ok (.iload 5, 2) := by decide +kernel
theorem dX10_copy_98 : decode cX10_copy 98 = .ok (.if_icmp .ge 30, 3) := by decide +kernel
theorem dX10_copy_101 : decode cX10_copy 101 = .ok (.aload_n 0, 1) := by decide +kernel
theorem dX10_copy_102 : decode cX10_copy 102 = .ok (.getfield 19, 3) := by decide +kernel
theorem dX10_copy_105 : decode cX10_copy 105 = .ok (.iload 6, 2) := by decide +kernel
theorem dX10_copy_107 : decode cX10_copy 107 = .ok (.aload_n 0, 1) := by decide +kernel
theorem dX10_copy_108 : decode cX10_copy 108 = .ok (.getfield 16, 3) := by decide +kernel
theorem dX10_copy_111 : decode cX10_copy 111 = .ok (.bipush 40, 2) := by decide +kernel
theorem dX10_copy_113 : decode cX10_copy 113 = .ok (.iload_n 1, 1) := by decide +kernel
theorem dX10_copy_114 : decode cX10_copy 114 = .ok (.imul, 1) := by decide +kernel
theorem dX10_copy_115 : decode cX10_copy 115 = .ok (.iload_n 2, 1) := by decide +kernel
theorem dX10_copy_116 : decode cX10_copy 116 = .ok (.iadd, 1) := by decide +kernel
theorem dX10_copy_117 : decode cX10_copy 117 = .ok (.iload 6, 2) := by decide +kernel
theorem dX10_copy_119 : decode cX10_copy 119 = .ok (.iadd, 1) := by decide +kernel
theorem dX10_copy_120 : decode cX10_copy 120 = .ok (.iaload, 1) := by decide +kernel
theorem dX10_copy_121 : decode cX10_copy 121 = .ok (.iastore, 1) := by decide +kernel
theorem dX10_copy_122 : decode cX10_copy 122 = .ok (.iinc 6 1, 3) := by decide +kernel
theorem dX10_copy_125 : decode cX10_copy 125 = .ok (.goto (-31), 3) := by decide +kernel
theorem dX10_copy_128 : decode cX10_copy 128 = .ok (.iconst 0, 1) := by decide +kernel
theorem dX10_copy_129 : decode cX10_copy 129 = .ok (.istore 6, 2) := by decide +kernel
theorem dX10_copy_131 : decode cX10_copy 131 = .ok (.iload 6, 2) := by decide +kernel
theorem dX10_copy_133 : decode cX10_copy 133 = .ok (.iload 5, 2) := by decide +kernel
theorem dX10_copy_135 : decode cX10_copy 135 = .ok (.if_icmp .ge 31, 3) := by decide +kernel
theorem dX10_copy_138 : decode cX10_copy 138 = .ok (.aload_n 0, 1) := by decide +kernel
theorem dX10_copy_139 : decode cX10_copy 139 = .ok (.getfield 16, 3) := by decide +kernel
theorem dX10_copy_142 : decode cX10_copy 142 = .ok (.bipush 40, 2) := by decide +kernel
theorem dX10_copy_144 : decode cX10_copy 144 = .ok (.iload_n 3, 1) := by decide +kernel
theorem dX10_copy_145 : decode cX10_copy 145 = .ok (.imul, 1) := by decide +kernel
theorem dX10_copy_146 : decode cX10_copy 146 = .ok (.iload 4, 2) := by decide +kernel
theorem dX10_copy_148 : decode cX10_copy 148 = .ok (.iadd, 1) := by decide +kernel
theorem dX10_copy_149 : decode cX10_copy 149 = .ok (.iload 6, 2) := by decide +kernel
theorem dX10_copy_151 : decode cX10_copy 151 = .ok (.iadd, 1) := by decide +kernel
theorem dX10_copy_152 : decode cX10_copy 152 = .ok (.aload_n 0, 1) := by decide +kernel
theorem dX10_copy_153 : decode cX10_copy 153 = .ok (.getfield 19, 3) := by decide +kernel
theorem dX10_copy_156 : decode cX10_copy 156 = .ok (.iload 6, 2) := by decide +kernel
theorem dX10_copy_158 : decode cX10_copy 158 = .ok (.iaload, 1) := by decide +kernel
theorem dX10_copy_159 : decode cX10_copy 159 = .ok (.iastore, 1) := by decide +kernel
theorem dX10_copy_160 : decode cX10_copy 160 = .ok (.iinc 6 1, 3) := by decide +kernel
theorem dX10_copy_163 : decode cX10_copy 163 = .ok (.goto (-32), 3) := by decide +kernel
theorem dX10_copy_166 : decode cX10_copy 166 = .ok (.aload_n 0, 1) := by decide +kernel
theorem dX10_copy_167 : decode cX10_copy 167 = .ok (.iload 5, 2) := by decide +kernel
theorem dX10_copy_169 : decode cX10_copy 169 = .ok (.invokevirtual 65, 3) := by decide +kernel
theorem dX10_copy_172 : decode cX10_copy 172 = .ok (.ireturn, 1) := by decide +kernel
theorem dX10_drop_0 : decode cX10_drop 0 = .ok (.iload_n 1, 1) := by decide +kernel
theorem dX10_drop_1 : decode cX10_drop 1 = .ok (.invokestatic 54, 3) := by decide +kernel
theorem dX10_drop_4 : decode cX10_drop 4 = .ok (.ifCond .ne 6, 3) := by decide +kernel
theorem dX10_drop_7 : decode cX10_drop 7 = .ok (.ldc 60, 2) := by decide +kernel
theorem dX10_drop_9 : decode cX10_drop 9 = .ok (.ireturn, 1) := by decide +kernel
theorem dX10_drop_10 : decode cX10_drop 10 = .ok (.aload_n 0, 1) := by decide +kernel
theorem dX10_drop_11 : decode cX10_drop 11 = .ok (.getfield 7, 3) := by decide +kernel
theorem dX10_drop_14 : decode cX10_drop 14 = .ok (.iload_n 1, 1) := by decide +kernel
theorem dX10_drop_15 : decode cX10_drop 15 = .ok (.iaload, 1) := by decide +kernel
theorem dX10_drop_16 : decode cX10_drop 16 = .ok (.ifCond .ge 9, 3) := by decide +kernel
theorem dX10_drop_19 : decode cX10_drop 19 = .ok (.aload_n 0, 1) := by decide +kernel
theorem dX10_drop_20 : decode cX10_drop 20 = .ok (.iconst 1, 1) := by decide +kernel
theorem dX10_drop_21 : decode cX10_drop 21 = .ok (.invokevirtual 61, 3) := by decide +kernel
theorem dX10_drop_24 : decode cX10_drop 24 = .ok (.ireturn, 1) := by decide +kernel
theorem dX10_drop_25 : decode cX10_drop 25 = .ok (.aload_n 0, 1) := by decide +kernel
theorem dX10_drop_26 : decode cX10_drop 26 = .ok (.getfield 7, 3) := by decide +kernel
theorem dX10_drop_29 : decode cX10_drop 29 = .ok (.iload_n 1, 1) := by decide +kernel
theorem dX10_drop_30 : decode cX10_drop 30 = .ok (.iconst (-1), 1) := by decide +kernel
theorem dX10_drop_31 : decode cX10_drop 31 = .ok (.iastore, 1) := by decide +kernel
theorem dX10_drop_32 : decode cX10_drop 32 = .ok (.aload_n 0, 1) := by decide +kernel
theorem dX10_drop_33 : decode cX10_drop 33 = .ok (.aload_n 0, 1) := by decide +kernel
theorem dX10_drop_34 : decode cX10_drop 34 = .ok (.getfield 13, 3) := by decide +kernel
theorem dX10_drop_37 : decode cX10_drop 37 = .ok (.iload_n 1, 1) := by decide +kernel
theorem dX10_drop_38 : decode cX10_drop 38 = .ok (.iaload, 1) := by decide +kernel
theorem dX10_drop_39 : decode cX10_drop 39 = .ok (.invokevirtual 65, 3) := by decide +kernel
theorem dX10_drop_42 : decode cX10_drop 42 = .ok (.ireturn, 1) := by decide +kernel
theorem dX10_partOf_0 : decode cX10_partOf 0 = .ok (.aload_n 0, 1) := by decide +kernel
theorem dX10_partOf_1 : decode cX10_partOf 1 = .ok (.getfield 7, 3) := by decide +kernel
theorem dX10_partOf_4 : decode cX10_partOf 4 = .ok (.iload_n 1, 1) := by decide +kernel
theorem dX10_partOf_5 : decode cX10_partOf 5 = .ok (.iaload, 1) := by decide +kernel
theorem dX10_partOf_6 : decode cX10_partOf 6 = .ok (.ifCond .ge 7, 3) := by decide +kernel
theorem dX10_partOf_9 : decode cX10_partOf 9 = .ok (.iconst 1, 1) := by decide +kernel
theorem dX10_partOf_10 : decode cX10_partOf 10 = .ok (.goto 18, 3) := by decide +kernel
theorem dX10_partOf_13 : decode cX10_partOf 13 = .ok (.aload_n 0, 1) := by decide +kernel
theorem dX10_partOf_14 : decode cX10_partOf 14 = .ok (.iload_n 1, 1) := by decide +kernel
theorem dX10_partOf_15 : decode cX10_partOf 15 = .ok (.iload_n 2, 1) := by decide +kernel
theorem dX10_partOf_16 : decode cX10_partOf 16 = .ok (.iload_n 3, 1) := by decide +kernel
theorem dX10_partOf_17 : decode cX10_partOf 17 = .ok (.invokevirtual 68, 3) := by decide +kernel
theorem dX10_partOf_20 : decode cX10_partOf 20 = .ok (.ifCond .eq 7, 3) := by decide +kernel
theorem dX10_partOf_23 : decode cX10_partOf 23 = .ok (.iconst 0, 1) := by decide +kernel
theorem dX10_partOf_24 : decode cX10_partOf 24 = .ok (.goto 4, 3) := by decide +kernel
theorem dX10_partOf_27 : decode cX10_partOf 27 = .ok (.iconst 2, 1) := by decide +kernel
theorem dX10_partOf_28 : decode cX10_partOf 28 = .ok (.ireturn, 1) := by decide +kernel
theorem dX10_feed_0 : decode cX10_feed 0 = .ok (.iload_n 1, 1) := by decide +kernel
theorem dX10_feed_1 : decode cX10_feed 1 = .ok (.i2l, 1) := by decide +kernel
theorem dX10_feed_2 : decode cX10_feed 2 = .ok (.lconst 0, 1) := by decide +kernel
theorem dX10_feed_3 : decode cX10_feed 3 = .ok (.ldc2_w 72, 3) := by decide +kernel
theorem dX10_feed_6 : decode cX10_feed 6 = .ok (.invokestatic 50, 3) := by decide +kernel
theorem dX10_feed_9 : decode cX10_feed 9 = .ok (.ifCond .ne 6, 3) := by decide +kernel
theorem dX10_feed_12 : decode cX10_feed 12 = .ok (.ldc 60, 2) := by decide +kernel
theorem dX10_feed_14 : decode cX10_feed 14 = .ok (.ireturn, 1) := by decide +kernel
theorem dX10_feed_15 : decode cX10_feed 15 = .ok (.aload_n 0, 1) := by decide +kernel
theorem dX10_feed_16 : decode cX10_feed 16 = .ok (.getfield 74, 3) := by decide +kernel
theorem dX10_feed_19 : decode cX10_feed 19 = .ok (.bipush 100, 2) := by decide +kernel
theorem dX10_feed_21 : decode cX10_feed 21 = .ok (.if_icmp .ne 6, 3) := by decide +kernel
theorem dX10_feed_24 : decode cX10_feed 24 = .ok (.ldc 77, 2) := by decide +kernel
theorem dX10_feed_26 : decode cX10_feed 26 = .ok (.ireturn, 1) := by decide +kernel
theorem dX10_feed_27 : decode cX10_feed 27 = .ok (.aload_n 0, 1) := by decide +kernel
theorem dX10_feed_28 : decode cX10_feed 28 = .ok (.getfield 28, 3) := by decide +kernel
theorem dX10_feed_31 : decode cX10_feed 31 = .ok (.aload_n 0, 1) := by decide +kernel
theorem dX10_feed_32 : decode cX10_feed 32 = .ok (.getfield 74, 3) := by decide +kernel
theorem dX10_feed_35 : decode cX10_feed 35 = .ok (.iload_n 1, 1) := by decide +kernel
theorem dX10_feed_36 : decode cX10_feed 36 = .ok (.iastore, 1) := by decide +kernel
theorem dX10_feed_37 : decode cX10_feed 37 = .ok (.aload_n 0, 1) := by decide +kernel
theorem dX10_feed_38 : decode cX10_feed 38 = .ok (.dup, 1) := by decide +kernel
theorem dX10_feed_39 : decode cX10_feed 39 = .ok (.getfield 74, 3) := by decide +kernel
theorem dX10_feed_42 : decode cX10_feed 42 = .ok (.iconst 1, 1) := by decide +kernel
theorem dX10_feed_43 : decode cX10_feed 43 = .ok (.iadd, 1) := by decide +kernel
theorem dX10_feed_44 : decode cX10_feed 44 = .ok (.putfield 74, 3) := by decide +kernel
theorem dX10_feed_47 : decode cX10_feed 47 = .ok (.aload_n 0, 1) := by decide +kernel
theorem dX10_feed_48 : decode cX10_feed 48 = .ok (.getfield 74, 3) := by decide +kernel
theorem dX10_feed_51 : decode cX10_feed 51 = .ok (.ireturn, 1) := by decide +kernel
theorem dX10_here_0 : decode cX10_here 0 = .ok (.aload_n 0, 1) := by decide +kernel
theorem dX10_here_1 : decode cX10_here 1 = .ok (.getfield 78, 3) := by decide +kernel
theorem dX10_here_4 : decode cX10_here 4 = .ok (.aload_n 0, 1) := by decide +kernel
theorem dX10_here_5 : decode cX10_here 5 = .ok (.getfield 74, 3) := by decide +kernel
theorem dX10_here_8 : decode cX10_here 8 = .ok (.if_icmp .ge 15, 3) := by decide +kernel
theorem dX10_here_11 : decode cX10_here 11 = .ok (.aload_n 0, 1) := by decide +kernel
theorem dX10_here_12 : decode cX10_here 12 = .ok (.getfield 28, 3) := by decide +kernel
theorem dX10_here_15 : decode cX10_here 15 = .ok (.aload_n 0, 1) := by decide +kernel
theorem dX10_here_16 : decode cX10_here 16 = .ok (.getfield 78, 3) := by decide +kernel
theorem dX10_here_19 : decode cX10_here 19 = .ok (.iaload, 1) := by decide +kernel
theorem dX10_here_20 : decode cX10_here 20 = .ok (.goto 4, 3) := by decide +kernel
theorem dX10_here_23 : decode cX10_here 23 = .ok (.iconst 0, 1) := by decide +kernel
theorem dX10_here_24 : decode cX10_here 24 = .ok (.ireturn, 1) := by decide +kernel
theorem dX10_wrong_0 : decode cX10_wrong 0 = .ok (.aload_n 0, 1) := by decide +kernel
theorem dX10_wrong_1 : decode cX10_wrong 1 = .ok (.getfield 81, 3) := by decide +kernel
theorem dX10_wrong_4 : decode cX10_wrong 4 = .ok (.ifCond .ne 13, 3) := by decide +kernel
theorem dX10_wrong_7 : decode cX10_wrong 7 = .ok (.aload_n 0, 1) := by decide +kernel
theorem dX10_wrong_8 : decode cX10_wrong 8 = .ok (.iload_n 1, 1) := by decide +kernel
theorem dX10_wrong_9 : decode cX10_wrong 9 = .ok (.putfield 81, 3) := by decide +kernel
theorem dX10_wrong_12 : decode cX10_wrong 12 = .ok (.aload_n 0, 1) := by decide +kernel
theorem dX10_wrong_13 : decode cX10_wrong 13 = .ok (.iload_n 2, 1) := by decide +kernel
theorem dX10_wrong_14 : decode cX10_wrong 14 = .ok (.putfield 84, 3) := by decide +kernel
theorem dX10_wrong_17 : decode cX10_wrong 17 = .ok (.return_, 1) := by decide +kernel
theorem dX10_must_0 : decode cX10_must 0 = .ok (.aload_n 0, 1) := by decide +kernel
theorem dX10_must_1 : decode cX10_must 1 = .ok (.getfield 81, 3) := by decide +kernel
theorem dX10_must_4 : decode cX10_must 4 = .ok (.ifCond .ne 31, 3) := by decide +kernel
theorem dX10_must_7 : decode cX10_must 7 = .ok (.aload_n 0, 1) := by decide +kernel
theorem dX10_must_8 : decode cX10_must 8 = .ok (.getfield 78, 3) := by decide +kernel
theorem dX10_must_11 : decode cX10_must 11 = .ok (.aload_n 0, 1) := by decide +kernel
theorem dX10_must_12 : decode cX10_must 12 = .ok (.getfield 74, 3) := by decide +kernel
theorem dX10_must_15 : decode cX10_must 15 = .ok (.if_icmp .eq 11, 3) := by decide +kernel
theorem dX10_must_18 : decode cX10_must 18 = .ok (.aload_n 0, 1) := by decide +kernel
theorem dX10_must_19 : decode cX10_must 19 = .ok (.invokevirtual 87, 3) := by decide +kernel
theorem dX10_must_22 : decode cX10_must 22 = .ok (.iload_n 1, 1) := by decide +kernel
theorem dX10_must_23 : decode cX10_must 23 = .ok (.if_icmp .eq 12, 3) := by decide +kernel
theorem dX10_must_26 : decode cX10_must 26 = .ok (.aload_n 0, 1) := by decide +kernel
theorem dX10_must_27 : decode cX10_must 27 = .ok (.iconst 1, 1) := by decide +kernel
theorem dX10_must_28 : decode cX10_must 28 = .ok (.aload_n 0, 1) := by decide +kernel
theorem dX10_must_29 : decode cX10_must 29 = .ok (.getfield 78, 3) := by decide +kernel
theorem dX10_must_32 : decode cX10_must 32 = .ok (.invokevirtual 91, 3) := by decide +kernel
theorem dX10_must_35 : decode cX10_must 35 = .ok (.aload_n 0, 1) := by decide +kernel
theorem dX10_must_36 : decode cX10_must 36 = .ok (.dup, 1) := by decide +kernel
theorem dX10_must_37 : decode cX10_must 37 = .ok (.getfield 78, 3) := by decide +kernel
theorem dX10_must_40 : decode cX10_must 40 = .ok (.aload_n 0, 1) := by decide +kernel
theorem dX10_must_41 : decode cX10_must 41 = .ok (.getfield 81, 3) := by decide +kernel
theorem dX10_must_44 : decode cX10_must 44 = .ok (.ifCond .ne 7, 3) := by decide +kernel
theorem dX10_must_47 : decode cX10_must 47 = .ok (.iconst 1, 1) := by decide +kernel
theorem dX10_must_48 : decode cX10_must 48 = .ok (.goto 4, 3) := by decide +kernel
theorem dX10_must_51 : decode cX10_must 51 = .ok (.iconst 0, 1) := by decide +kernel
theorem dX10_must_52 : decode cX10_must 52 = .ok (.iadd, 1) := by decide +kernel
theorem dX10_must_53 : decode cX10_must 53 = .ok (.putfield 78, 3) := by decide +kernel
theorem dX10_must_56 : decode cX10_must 56 = .ok (.return_, 1) := by decide +kernel
theorem dX10_number_0 : decode cX10_number 0 = .ok (.aload_n 0, 1) := by decide +kernel
theorem dX10_number_1 : decode cX10_number 1 = .ok (.getfield 81, 3) := by decide +kernel
theorem dX10_number_4 : decode cX10_number 4 = .ok (.ifCond .eq 5, 3) := by decide +kernel
theorem dX10_number_7 : decode cX10_number 7 = .ok (.iload_n 1, 1) := by decide +kernel
theorem dX10_number_8 : decode cX10_number 8 = .ok (.ireturn, 1) := by decide +kernel
theorem dX10_number_9 : decode cX10_number 9 = .ok (.aload_n 0, 1) := by decide +kernel
theorem dX10_number_10 : decode cX10_number 10 = .ok (.getfield 78, 3) := by decide +kernel
theorem dX10_number_13 : decode cX10_number 13 = .ok (.istore_n 3, 1) := by decide +kernel
theorem dX10_number_14 : decode cX10_number 14 = .ok (.iconst 0, 1) := by decide +kernel
theorem dX10_number_15 : decode cX10_number 15 = .ok (.istore 4, 2) := by decide +kernel
theorem dX10_number_17 : decode cX10_number 17 = .ok (.aload_n 0, 1) := by decide +kernel
theorem dX10_number_18 : decode cX10_number 18 = .ok (.getfield 78, 3) := by decide +kernel
theorem dX10_number_21 : decode cX10_number 21 = .ok (.aload_n 0, 1) := by decide +kernel
theorem dX10_number_22 : decode cX10_number 22 = .ok (.getfield 74, 3) := by decide +kernel
theorem dX10_number_25 : decode cX10_number 25 = .ok (.if_icmp .ge 63, 3) := by decide +kernel
theorem dX10_number_28 : decode cX10_number 28 = .ok (.aload_n 0, 1) := by decide +kernel
theorem dX10_number_29 : decode cX10_number 29 = .ok (.invokevirtual 87, 3) := by decide +kernel
theorem dX10_number_32 : decode cX10_number 32 = .ok (.i2l, 1) := by decide +kernel
theorem dX10_number_33 : decode cX10_number 33 = .ok (.ldc2_w 95, 3) := by decide +kernel
theorem dX10_number_36 : decode cX10_number 36 = .ok (.ldc2_w 97, 3) := by decide +kernel
theorem dX10_number_39 : decode cX10_number 39 = .ok (.invokestatic 50, 3) := by decide +kernel
theorem dX10_number_42 : decode cX10_number 42 = .ok (.ifCond .eq 46, 3) := by decide +kernel
theorem dX10_number_45 : decode cX10_number 45 = .ok (.aload_n 0, 1) := by decide +kernel
theorem dX10_number_46 : decode cX10_number 46 = .ok (.getfield 78, 3) := by decide +kernel
theorem dX10_number_49 : decode cX10_number 49 = .ok (.iload_n 3, 1) := by decide +kernel
theorem dX10_number_50 : decode cX10_number 50 = .ok (.isub, 1) := by decide +kernel
theorem dX10_number_51 : decode cX10_number 51 = .ok (.iconst 2, 1) := by decide +kernel
theorem dX10_number_52 : decode cX10_number 52 = .ok (.if_icmp .le 8, 3) := by decide +kernel
theorem dX10_number_55 : decode cX10_number 55 = .ok (.iload 4, 2) := by decide +kernel
theorem dX10_number_57 : decode cX10_number 57 = .ok (.goto 16, 3) := by decide +kernel
theorem dX10_number_60 : decode cX10_number 60 = .ok (.bipush 10, 2) := by decide +kernel
theorem dX10_number_62 : decode cX10_number 62 = .ok (.iload 4, 2) := by decide +kernel
theorem dX10_number_64 : decode cX10_number 64 = .ok (.imul, 1) := by decide +kernel
theorem dX10_number_65 : decode cX10_number 65 = .ok (.aload_n 0, 1) := by decide +kernel
theorem dX10_number_66 : decode cX10_number 66 = .ok (.invokevirtual 87, 3) := by decide +kernel
theorem dX10_number_69 : decode cX10_number 69 = .ok (.iadd, 1) := by decide +kernel
theorem dX10_number_70 : decode cX10_number 70 = .ok (.bipush 48, 2) := by decide +kernel
theorem dX10_number_72 : decode cX10_number 72 = .ok (.isub, 1) := by decide +kernel
theorem dX10_number_73 : decode cX10_number 73 = .ok (.istore 4, 2) := by decide +kernel
theorem dX10_number_75 : decode cX10_number 75 = .ok (.aload_n 0, 1) := by decide +kernel
theorem dX10_number_76 : decode cX10_number 76 = .ok (.dup, 1) := by decide +kernel
theorem dX10_number_77 : decode cX10_number 77 = .ok (.getfield 78, 3) := by decide +kernel
theorem dX10_number_80 : decode cX10_number 80 = .ok (.iconst 1, 1) := by decide +kernel
theorem dX10_number_81 : decode cX10_number 81 = .ok (.iadd, 1) := by decide +kernel
theorem dX10_number_82 : decode cX10_number 82 = .ok (.putfield 78, 3) := by decide +kernel
theorem dX10_number_85 : decode cX10_number 85 = .ok (.goto (-68), 3) := by decide +kernel
theorem dX10_number_88 : decode cX10_number 88 = .ok (.aload_n 0, 1) := by decide +kernel
theorem dX10_number_89 : decode cX10_number 89 = .ok (.getfield 78, 3) := by decide +kernel
theorem dX10_number_92 : decode cX10_number 92 = .ok (.iload_n 3, 1) := by decide +kernel
theorem dX10_number_93 : decode cX10_number 93 = .ok (.if_icmp .eq 13, 3) := by decide +kernel
theorem dX10_number_96 : decode cX10_number 96 = .ok (.aload_n 0, 1) := by decide +kernel
theorem dX10_number_97 : decode cX10_number 97 = .ok (.getfield 78, 3) := by decide +kernel
theorem dX10_number_100 : decode cX10_number 100 = .ok (.iload_n 3, 1) := by decide +kernel
theorem dX10_number_101 : decode cX10_number 101 = .ok (.isub, 1) := by decide +kernel
theorem dX10_number_102 : decode cX10_number 102 = .ok (.iconst 2, 1) := by decide +kernel
theorem dX10_number_103 : decode cX10_number 103 = .ok (.if_icmp .le 12, 3) := by decide +kernel
theorem dX10_number_106 : decode cX10_number 106 = .ok (.aload_n 0, 1) := by decide +kernel
theorem dX10_number_107 : decode cX10_number 107 = .ok (.iconst 1, 1) := by decide +kernel
theorem dX10_number_108 : decode cX10_number 108 = .ok (.iload_n 3, 1) := by decide +kernel
theorem dX10_number_109 : decode cX10_number 109 = .ok (.invokevirtual 91, 3) := by decide +kernel
theorem dX10_number_112 : decode cX10_number 112 = .ok (.goto 22, 3) := by decide +kernel
theorem dX10_number_115 : decode cX10_number 115 = .ok (.iload 4, 2) := by decide +kernel
theorem dX10_number_117 : decode cX10_number 117 = .ok (.i2l, 1) := by decide +kernel
theorem dX10_number_118 : decode cX10_number 118 = .ok (.iload_n 1, 1) := by decide +kernel
theorem dX10_number_119 : decode cX10_number 119 = .ok (.i2l, 1) := by decide +kernel
theorem dX10_number_120 : decode cX10_number 120 = .ok (.iload_n 2, 1) := by decide +kernel
theorem dX10_number_121 : decode cX10_number 121 = .ok (.i2l, 1) := by decide +kernel
theorem dX10_number_122 : decode cX10_number 122 = .ok (.invokestatic 50, 3) := by decide +kernel
theorem dX10_number_125 : decode cX10_number 125 = .ok (.ifCond .ne 9, 3) := by decide +kernel
theorem dX10_number_128 : decode cX10_number 128 = .ok (.aload_n 0, 1) := by decide +kernel
theorem dX10_number_129 : decode cX10_number 129 = .ok (.iconst 2, 1) := by decide +kernel
theorem dX10_number_130 : decode cX10_number 130 = .ok (.iload_n 3, 1) := by decide +kernel
theorem dX10_number_131 : decode cX10_number 131 = .ok (.invokevirtual 91, 3) := by decide +kernel
theorem dX10_number_134 : decode cX10_number 134 = .ok (.iload 4, 2) := by decide +kernel
theorem dX10_number_136 : decode cX10_number 136 = .ok (.ireturn, 1) := by decide +kernel
theorem dX10_kindOf_0 : decode cX10_kindOf 0 = .ok (.iload_n 0, 1) := by decide +kernel
theorem dX10_kindOf_1 : decode cX10_kindOf 1 = .ok (.bipush 99, 2) := by decide +kernel
theorem dX10_kindOf_3 : decode cX10_kindOf 3 = .ok (.if_icmp .ne 7, 3) := by decide +kernel
theorem dX10_kindOf_6 : decode cX10_kindOf 6 = .ok (.iconst 1, 1) := by decide +kernel
theorem dX10_kindOf_7 : decode cX10_kindOf 7 = .ok (.goto 44, 3) := by decide +kernel
theorem dX10_kindOf_10 : decode cX10_kindOf 10 = .ok (.iload_n 0, 1) := by decide +kernel
theorem dX10_kindOf_11 : decode cX10_kindOf 11 = .ok (.bipush 97, 2) := by decide +kernel
theorem dX10_kindOf_13 : decode cX10_kindOf 13 = .ok (.if_icmp .ne 7, 3) := by decide +kernel
theorem dX10_kindOf_16 : decode cX10_kindOf 16 = .ok (.iconst 2, 1) := by decide +kernel
theorem dX10_kindOf_17 : decode cX10_kindOf 17 = .ok (.goto 34, 3) := by decide +kernel
theorem dX10_kindOf_20 : decode cX10_kindOf 20 = .ok (.iload_n 0, 1) := by decide +kernel
theorem dX10_kindOf_21 : decode cX10_kindOf 21 = .ok (.bipush 109, 2) := by decide +kernel
theorem dX10_kindOf_23 : decode cX10_kindOf 23 = .ok (.if_icmp .ne 7, 3) := by decide +kernel
theorem dX10_kindOf_26 : decode cX10_kindOf 26 = .ok (.iconst 3, 1) := by decide +kernel
theorem dX10_kindOf_27 : decode cX10_kindOf 27 = .ok (.goto 24, 3) := by decide +kernel
theorem dX10_kindOf_30 : decode cX10_kindOf 30 = .ok (.iload_n 0, 1) := by decide +kernel
theorem dX10_kindOf_31 : decode cX10_kindOf 31 = .ok (.bipush 102, 2) := by decide +kernel
theorem dX10_kindOf_33 : decode cX10_kindOf 33 = .ok (.if_icmp .ne 7, 3) := by decide +kernel
theorem dX10_kindOf_36 : decode cX10_kindOf 36 = .ok (.iconst 4, 1) := by decide +kernel
theorem dX10_kindOf_37 : decode cX10_kindOf 37 = .ok (.goto 14, 3) := by decide +kernel
theorem dX10_kindOf_40 : decode cX10_kindOf 40 = .ok (.iload_n 0, 1) := by decide +kernel
theorem dX10_kindOf_41 : decode cX10_kindOf 41 = .ok (.bipush 98, 2) := by decide +kernel
theorem dX10_kindOf_43 : decode cX10_kindOf 43 = .ok (.if_icmp .ne 7, 3) := by decide +kernel
theorem dX10_kindOf_46 : decode cX10_kindOf 46 = .ok (.iconst 5, 1) := by decide +kernel
theorem dX10_kindOf_47 : decode cX10_kindOf 47 = .ok (.goto 4, 3) := by decide +kernel
theorem dX10_kindOf_50 : decode cX10_kindOf 50 = .ok (.iconst (-1), 1) := by decide +kernel
theorem dX10_kindOf_51 : decode cX10_kindOf 51 = .ok (.ireturn, 1) := by decide +kernel
theorem dX10_readCloud_0 : decode cX10_readCloud 0 = .ok (.aload_n 0, 1) := by decide +kernel
theorem dX10_readCloud_1 : decode cX10_readCloud 1 = .ok (.invokevirtual 87, 3) := by decide +kernel
theorem dX10_readCloud_4 : decode cX10_readCloud 4 = .ok (.invokestatic 99, 3) := by decide +kernel
theorem dX10_readCloud_7 : decode cX10_readCloud 7 = .ok (.istore_n 1, 1) := by decide +kernel
theorem dX10_readCloud_8 : decode cX10_readCloud 8 = .ok (.iload_n 1, 1) := by decide +kernel
theorem dX10_readCloud_9 : decode cX10_readCloud 9 = .ok (.ifCond .ge 15, 3) := by decide +kernel
theorem dX10_readCloud_12 : decode cX10_readCloud 12 = .ok (.aload_n 0, 1) := by decide +kernel
theorem dX10_readCloud_13 : decode cX10_readCloud 13 = .ok (.iconst 1, 1) := by decide +kernel
theorem dX10_readCloud_14 : decode cX10_readCloud 14 = .ok (.aload_n 0, 1) := by decide +kernel
theorem dX10_readCloud_15 : decode cX10_readCloud 15 = .ok (.getfield 78, 3) := by decide +kernel
theorem dX10_readCloud_18 : decode cX10_readCloud 18 = .ok (.invokevirtual 91, 3) := by decide +kernel
theorem dX10_readCloud_21 : decode cX10_readCloud 21 = .ok (.goto 22, 3) := by decide +kernel
theorem dX10_readCloud_24 : decode cX10_readCloud 24 = .ok (.aload_n 0, 1) := by decide +kernel
theorem dX10_readCloud_25 : decode cX10_readCloud 25 = .ok (.getfield 25, 3) := by decide +kernel
theorem dX10_readCloud_28 : decode cX10_readCloud 28 = .ok (.iconst 0, 1) := by decide +kernel
theorem dX10_readCloud_29 : decode cX10_readCloud 29 = .ok (.iaload, 1) := by decide +kernel
theorem dX10_readCloud_30 : decode cX10_readCloud 30 = .ok (.iconst 5, 1) := by decide +kernel
theorem dX10_readCloud_31 : decode cX10_readCloud 31 = .ok (.if_icmp .ne 12, 3) := by decide +kernel
theorem dX10_readCloud_34 : decode cX10_readCloud 34 = .ok (.aload_n 0, 1) := by decide +kernel
theorem dX10_readCloud_35 : decode cX10_readCloud 35 = .ok (.iconst 3, 1) := by decide +kernel
theorem dX10_readCloud_36 : decode cX10_readCloud 36 = .ok (.aload_n 0, 1) := by decide +kernel
theorem dX10_readCloud_37 : decode cX10_readCloud 37 = .ok (.getfield 78, 3) := by decide +kernel
theorem dX10_readCloud_40 : decode cX10_readCloud 40 = .ok (.invokevirtual 91, 3) := by decide +kernel
theorem dX10_readCloud_43 : decode cX10_readCloud 43 = .ok (.aload_n 0, 1) := by decide +kernel
theorem dX10_readCloud_44 : decode cX10_readCloud 44 = .ok (.getfield 81, 3) := by decide +kernel
theorem dX10_readCloud_47 : decode cX10_readCloud 47 = .ok (.ifCond .ne 125, 3) := by decide +kernel
theorem dX10_readCloud_50 : decode cX10_readCloud 50 = .ok (.aload_n 0, 1) := by decide +kernel
theorem dX10_readCloud_51 : decode cX10_readCloud 51 = .ok (.dup, 1) := by decide +kernel
theorem dX10_readCloud_52 : decode cX10_readCloud 52 = .ok (.getfield 78, 3) := by decide +kernel
theorem dX10_readCloud_55 : decode cX10_readCloud 55 = .ok (.iconst 1, 1) := by decide +kernel
theorem dX10_readCloud_56 : decode cX10_readCloud 56 = .ok (.iadd, 1) := by decide +kernel
theorem dX10_readCloud_57 : decode cX10_readCloud 57 = .ok (.putfield 78, 3) := by decide +kernel
theorem dX10_readCloud_60 : decode cX10_readCloud 60 = .ok (.iconst 4, 1) := by decide +kernel
theorem dX10_readCloud_61 : decode cX10_readCloud 61 = .ok (.iconst 5, 1) := by decide +kernel
theorem dX10_readCloud_62 : decode cX10_readCloud 62 = .ok (.aload_n 0, 1) := by decide +kernel
theorem dX10_readCloud_63 : decode cX10_readCloud 63 = .ok (.getfield 25, 3) := by decide +kernel
theorem dX10_readCloud_66 : decode cX10_readCloud 66 = .ok (.iconst 0, 1) := by decide +kernel
theorem dX10_readCloud_67 : decode cX10_readCloud 67 = .ok (.iaload, 1) := by decide +kernel
theorem dX10_readCloud_68 : decode cX10_readCloud 68 = .ok (.imul, 1) := by decide +kernel
theorem dX10_readCloud_69 : decode cX10_readCloud 69 = .ok (.iadd, 1) := by decide +kernel
theorem dX10_readCloud_70 : decode cX10_readCloud 70 = .ok (.istore_n 2, 1) := by decide +kernel
theorem dX10_readCloud_71 : decode cX10_readCloud 71 = .ok (.aload_n 0, 1) := by decide +kernel
theorem dX10_readCloud_72 : decode cX10_readCloud 72 = .ok (.getfield 25, 3) := by decide +kernel
theorem dX10_readCloud_75 : decode cX10_readCloud 75 = .ok (.iload_n 2, 1) := by decide +kernel
theorem dX10_readCloud_76 : decode cX10_readCloud 76 = .ok (.iload_n 1, 1) := by decide +kernel
theorem dX10_readCloud_77 : decode cX10_readCloud 77 = .ok (.iastore, 1) := by decide +kernel
theorem dX10_readCloud_78 : decode cX10_readCloud 78 = .ok (.aload_n 0, 1) := by decide +kernel
theorem dX10_readCloud_79 : decode cX10_readCloud 79 = .ok (.getfield 25, 3) := by decide +kernel
theorem dX10_readCloud_82 : decode cX10_readCloud 82 = .ok (.iload_n 2, 1) := by decide +kernel
theorem dX10_readCloud_83 : decode cX10_readCloud 83 = .ok (.iconst 1, 1) := by decide +kernel
theorem dX10_readCloud_84 : decode cX10_readCloud 84 = .ok (.iadd, 1) := by decide +kernel
theorem dX10_readCloud_85 : decode cX10_readCloud 85 = .ok (.aload_n 0, 1) := by decide +kernel
theorem dX10_readCloud_86 : decode cX10_readCloud 86 = .ok (.iconst 0, 1) := by decide +kernel
theorem dX10_readCloud_87 : decode cX10_readCloud 87 = .ok (.bipush 15, 2) := by decide +kernel
theorem dX10_readCloud_89 : decode cX10_readCloud 89 = .ok (.invokevirtual 102, 3) := by decide +kernel
theorem dX10_readCloud_92 : decode cX10_readCloud 92 = .ok (.iastore, 1) := by decide +kernel
theorem dX10_readCloud_93 : decode cX10_readCloud 93 = .ok (.aload_n 0, 1) := by decide +kernel
theorem dX10_readCloud_94 : decode cX10_readCloud 94 = .ok (.bipush 44, 2) := by decide +kernel
theorem dX10_readCloud_96 : decode cX10_readCloud 96 = .ok (.invokevirtual 106, 3) := by decide +kernel
theorem dX10_readCloud_99 : decode cX10_readCloud 99 = .ok (.aload_n 0, 1) := by decide +kernel
theorem dX10_readCloud_100 : decode cX10_readCloud 100 = .ok (.getfield 25, 3) := by decide +kernel
theorem dX10_readCloud_103 : decode cX10_readCloud 103 = .ok (.iload_n 2, 1) := by decide +kernel
theorem dX10_readCloud_104 : decode cX10_readCloud 104 = .ok (.iconst 2, 1) := by decide +kernel
theorem dX10_readCloud_105 : decode cX10_readCloud 105 = .ok (.iadd, 1) := by decide +kernel
theorem dX10_readCloud_106 : decode cX10_readCloud 106 = .ok (.aload_n 0, 1) := by decide +kernel
theorem dX10_readCloud_107 : decode cX10_readCloud 107 = .ok (.iconst 1, 1) := by decide +kernel
theorem dX10_readCloud_108 : decode cX10_readCloud 108 = .ok (.bipush 8, 2) := by decide +kernel
theorem dX10_readCloud_110 : decode cX10_readCloud 110 = .ok (.invokevirtual 102, 3) := by decide +kernel
theorem dX10_readCloud_113 : decode cX10_readCloud 113 = .ok (.iastore, 1) := by decide +kernel
theorem dX10_readCloud_114 : decode cX10_readCloud 114 = .ok (.aload_n 0, 1) := by decide +kernel
theorem dX10_readCloud_115 : decode cX10_readCloud 115 = .ok (.bipush 44, 2) := by decide +kernel
theorem dX10_readCloud_117 : decode cX10_readCloud 117 = .ok (.invokevirtual 106, 3) := by decide +kernel
theorem dX10_readCloud_120 : decode cX10_readCloud 120 = .ok (.aload_n 0, 1) := by decide +kernel
theorem dX10_readCloud_121 : decode cX10_readCloud 121 = .ok (.getfield 25, 3) := by decide +kernel
theorem dX10_readCloud_124 : decode cX10_readCloud 124 = .ok (.iload_n 2, 1) := by decide +kernel
theorem dX10_readCloud_125 : decode cX10_readCloud 125 = .ok (.iconst 3, 1) := by decide +kernel
theorem dX10_readCloud_126 : decode cX10_readCloud 126 = .ok (.iadd, 1) := by decide +kernel
theorem dX10_readCloud_127 : decode cX10_readCloud 127 = .ok (.aload_n 0, 1) := by decide +kernel
theorem dX10_readCloud_128 : decode cX10_readCloud 128 = .ok (.iconst 1, 1) := by decide +kernel
theorem dX10_readCloud_129 : decode cX10_readCloud 129 = .ok (.bipush 60, 2) := by decide +kernel
theorem dX10_readCloud_131 : decode cX10_readCloud 131 = .ok (.invokevirtual 102, 3) := by decide +kernel
theorem dX10_readCloud_134 : decode cX10_readCloud 134 = .ok (.iastore, 1) := by decide +kernel
theorem dX10_readCloud_135 : decode cX10_readCloud 135 = .ok (.aload_n 0, 1) := by decide +kernel
theorem dX10_readCloud_136 : decode cX10_readCloud 136 = .ok (.bipush 44, 2) := by decide +kernel
theorem dX10_readCloud_138 : decode cX10_readCloud 138 = .ok (.invokevirtual 106, 3) := by decide +kernel
theorem dX10_readCloud_141 : decode cX10_readCloud 141 = .ok (.aload_n 0, 1) := by decide +kernel
theorem dX10_readCloud_142 : decode cX10_readCloud 142 = .ok (.getfield 25, 3) := by decide +kernel
theorem dX10_readCloud_145 : decode cX10_readCloud 145 = .ok (.iload_n 2, 1) := by decide +kernel
theorem dX10_readCloud_146 : decode cX10_readCloud 146 = .ok (.iconst 4, 1) := by decide +kernel
theorem dX10_readCloud_147 : decode cX10_readCloud 147 = .ok (.iadd, 1) := by decide +kernel
theorem dX10_readCloud_148 : decode cX10_readCloud 148 = .ok (.aload_n 0, 1) := by decide +kernel
theorem dX10_readCloud_149 : decode cX10_readCloud 149 = .ok (.iconst 0, 1) := by decide +kernel
theorem dX10_readCloud_150 : decode cX10_readCloud 150 = .ok (.bipush 9, 2) := by decide +kernel
theorem dX10_readCloud_152 : decode cX10_readCloud 152 = .ok (.invokevirtual 102, 3) := by decide +kernel
theorem dX10_readCloud_155 : decode cX10_readCloud 155 = .ok (.iastore, 1) := by decide +kernel
theorem dX10_readCloud_156 : decode cX10_readCloud 156 = .ok (.aload_n 0, 1) := by decide +kernel
theorem dX10_readCloud_157 : decode cX10_readCloud 157 = .ok (.bipush 59, 2) := by decide +kernel
theorem dX10_readCloud_159 : decode cX10_readCloud 159 = .ok (.invokevirtual 106, 3) := by decide +kernel
theorem dX10_readCloud_162 : decode cX10_readCloud 162 = .ok (.aload_n 0, 1) := by decide +kernel
theorem dX10_readCloud_163 : decode cX10_readCloud 163 = .ok (.getfield 25, 3) := by decide +kernel
theorem dX10_readCloud_166 : decode cX10_readCloud 166 = .ok (.iconst 0, 1) := by decide +kernel
theorem dX10_readCloud_167 : decode cX10_readCloud 167 = .ok (.dup2, 1) := by decide +kernel
theorem dX10_readCloud_168 : decode cX10_readCloud 168 = .ok (.iaload, 1) := by decide +kernel
theorem dX10_readCloud_169 : decode cX10_readCloud 169 = .ok (.iconst 1, 1) := by decide +kernel
theorem dX10_readCloud_170 : decode cX10_readCloud 170 = .ok (.iadd, 1) := by decide +kernel
theorem dX10_readCloud_171 : decode cX10_readCloud 171 = .ok (.iastore, 1) := by decide +kernel
theorem dX10_readCloud_172 : decode cX10_readCloud 172 = .ok (.return_, 1) := by decide +kernel
theorem dX10_sky_0 : decode cX10_sky 0 = .ok (.aload_n 0, 1) := by decide +kernel
theorem dX10_sky_1 : decode cX10_sky 1 = .ok (.iconst 0, 1) := by decide +kernel
theorem dX10_sky_2 : decode cX10_sky 2 = .ok (.putfield 78, 3) := by decide +kernel
theorem dX10_sky_5 : decode cX10_sky 5 = .ok (.aload_n 0, 1) := by decide +kernel
theorem dX10_sky_6 : decode cX10_sky 6 = .ok (.iconst 0, 1) := by decide +kernel
theorem dX10_sky_7 : decode cX10_sky 7 = .ok (.putfield 81, 3) := by decide +kernel
theorem dX10_sky_10 : decode cX10_sky 10 = .ok (.iconst 0, 1) := by decide +kernel
theorem dX10_sky_11 : decode cX10_sky 11 = .ok (.istore_n 1, 1) := by decide +kernel
theorem dX10_sky_12 : decode cX10_sky 12 = .ok (.iload_n 1, 1) := by decide +kernel
theorem dX10_sky_13 : decode cX10_sky 13 = .ok (.bipush 45, 2) := by decide +kernel
theorem dX10_sky_15 : decode cX10_sky 15 = .ok (.if_icmp .ge 16, 3) := by decide +kernel
theorem dX10_sky_18 : decode cX10_sky 18 = .ok (.aload_n 0, 1) := by decide +kernel
theorem dX10_sky_19 : decode cX10_sky 19 = .ok (.getfield 25, 3) := by decide +kernel
theorem dX10_sky_22 : decode cX10_sky 22 = .ok (.iload_n 1, 1) := by decide +kernel
theorem dX10_sky_23 : decode cX10_sky 23 = .ok (.iconst 0, 1) := by decide +kernel
theorem dX10_sky_24 : decode cX10_sky 24 = .ok (.iastore, 1) := by decide +kernel
theorem dX10_sky_25 : decode cX10_sky 25 = .ok (.iinc 1 1, 3) := by decide +kernel
theorem dX10_sky_28 : decode cX10_sky 28 = .ok (.goto (-16), 3) := by decide +kernel
theorem dX10_sky_31 : decode cX10_sky 31 = .ok (.aload_n 0, 1) := by decide +kernel
theorem dX10_sky_32 : decode cX10_sky 32 = .ok (.bipush 119, 2) := by decide +kernel
theorem dX10_sky_34 : decode cX10_sky 34 = .ok (.invokevirtual 106, 3) := by decide +kernel
theorem dX10_sky_37 : decode cX10_sky 37 = .ok (.aload_n 0, 1) := by decide +kernel
theorem dX10_sky_38 : decode cX10_sky 38 = .ok (.getfield 25, 3) := by decide +kernel
theorem dX10_sky_41 : decode cX10_sky 41 = .ok (.iconst 1, 1) := by decide +kernel
theorem dX10_sky_42 : decode cX10_sky 42 = .ok (.aload_n 0, 1) := by decide +kernel
theorem dX10_sky_43 : decode cX10_sky 43 = .ok (.iconst 0, 1) := by decide +kernel
theorem dX10_sky_44 : decode cX10_sky 44 = .ok (.bipush 15, 2) := by decide +kernel
theorem dX10_sky_46 : decode cX10_sky 46 = .ok (.invokevirtual 102, 3) := by decide +kernel
theorem dX10_sky_49 : decode cX10_sky 49 = .ok (.iastore, 1) := by decide +kernel
theorem dX10_sky_50 : decode cX10_sky 50 = .ok (.aload_n 0, 1) := by decide +kernel
theorem dX10_sky_51 : decode cX10_sky 51 = .ok (.bipush 44, 2) := by decide +kernel
theorem dX10_sky_53 : decode cX10_sky 53 = .ok (.invokevirtual 106, 3) := by decide +kernel
theorem dX10_sky_56 : decode cX10_sky 56 = .ok (.aload_n 0, 1) := by decide +kernel
theorem dX10_sky_57 : decode cX10_sky 57 = .ok (.getfield 25, 3) := by decide +kernel
theorem dX10_sky_60 : decode cX10_sky 60 = .ok (.iconst 2, 1) := by decide +kernel
theorem dX10_sky_61 : decode cX10_sky 61 = .ok (.aload_n 0, 1) := by decide +kernel
theorem dX10_sky_62 : decode cX10_sky 62 = .ok (.iconst 1, 1) := by decide +kernel
theorem dX10_sky_63 : decode cX10_sky 63 = .ok (.bipush 20, 2) := by decide +kernel
theorem dX10_sky_65 : decode cX10_sky 65 = .ok (.invokevirtual 102, 3) := by decide +kernel
theorem dX10_sky_68 : decode cX10_sky 68 = .ok (.iastore, 1) := by decide +kernel
theorem dX10_sky_69 : decode cX10_sky 69 = .ok (.aload_n 0, 1) := by decide +kernel
theorem dX10_sky_70 : decode cX10_sky 70 = .ok (.bipush 59, 2) := by decide +kernel
theorem dX10_sky_72 : decode cX10_sky 72 = .ok (.invokevirtual 106, 3) := by decide +kernel
theorem dX10_sky_75 : decode cX10_sky 75 = .ok (.aload_n 0, 1) := by decide +kernel
theorem dX10_sky_76 : decode cX10_sky 76 = .ok (.getfield 81, 3) := by decide +kernel
theorem dX10_sky_79 : decode cX10_sky 79 = .ok (.ifCond .ne 30, 3) := by decide +kernel
theorem dX10_sky_82 : decode cX10_sky 82 = .ok (.aload_n 0, 1) := by decide +kernel
theorem dX10_sky_83 : decode cX10_sky 83 = .ok (.getfield 25, 3) := by decide +kernel
theorem dX10_sky_86 : decode cX10_sky 86 = .ok (.iconst 0, 1) := by decide +kernel
theorem dX10_sky_87 : decode cX10_sky 87 = .ok (.iaload, 1) := by decide +kernel
theorem dX10_sky_88 : decode cX10_sky 88 = .ok (.ifCond .eq 14, 3) := by decide +kernel
theorem dX10_sky_91 : decode cX10_sky 91 = .ok (.aload_n 0, 1) := by decide +kernel
theorem dX10_sky_92 : decode cX10_sky 92 = .ok (.getfield 78, 3) := by decide +kernel
theorem dX10_sky_95 : decode cX10_sky 95 = .ok (.aload_n 0, 1) := by decide +kernel
theorem dX10_sky_96 : decode cX10_sky 96 = .ok (.getfield 74, 3) := by decide +kernel
theorem dX10_sky_99 : decode cX10_sky 99 = .ok (.if_icmp .ge 10, 3) := by decide +kernel
theorem dX10_sky_102 : decode cX10_sky 102 = .ok (.aload_n 0, 1) := by decide +kernel
theorem dX10_sky_103 : decode cX10_sky 103 = .ok (.invokevirtual 110, 3) := by decide +kernel
theorem dX10_sky_106 : decode cX10_sky 106 = .ok (.goto (-31), 3) := by decide +kernel
theorem dX10_sky_109 : decode cX10_sky 109 = .ok (.aload_n 0, 1) := by decide +kernel
theorem dX10_sky_110 : decode cX10_sky 110 = .ok (.iconst 0, 1) := by decide +kernel
theorem dX10_sky_111 : decode cX10_sky 111 = .ok (.putfield 74, 3) := by decide +kernel
theorem dX10_sky_114 : decode cX10_sky 114 = .ok (.aload_n 0, 1) := by decide +kernel
theorem dX10_sky_115 : decode cX10_sky 115 = .ok (.getfield 81, 3) := by decide +kernel
theorem dX10_sky_118 : decode cX10_sky 118 = .ok (.ifCond .eq 19, 3) := by decide +kernel
theorem dX10_sky_121 : decode cX10_sky 121 = .ok (.aload_n 0, 1) := by decide +kernel
theorem dX10_sky_122 : decode cX10_sky 122 = .ok (.aload_n 0, 1) := by decide +kernel
theorem dX10_sky_123 : decode cX10_sky 123 = .ok (.getfield 81, 3) := by decide +kernel
theorem dX10_sky_126 : decode cX10_sky 126 = .ok (.putfield 113, 3) := by decide +kernel
theorem dX10_sky_129 : decode cX10_sky 129 = .ok (.ldc 116, 2) := by decide +kernel
theorem dX10_sky_131 : decode cX10_sky 131 = .ok (.aload_n 0, 1) := by decide +kernel
theorem dX10_sky_132 : decode cX10_sky 132 = .ok (.getfield 84, 3) := by decide +kernel
theorem dX10_sky_135 : decode cX10_sky 135 = .ok (.isub, 1) := by decide +kernel
theorem dX10_sky_136 : decode cX10_sky 136 = .ok (.ireturn, 1) := by decide +kernel
theorem dX10_sky_137 : decode cX10_sky 137 = .ok (.iconst 0, 1) := by decide +kernel
theorem dX10_sky_138 : decode cX10_sky 138 = .ok (.istore_n 1, 1) := by decide +kernel
theorem dX10_sky_139 : decode cX10_sky 139 = .ok (.iload_n 1, 1) := by decide +kernel
theorem dX10_sky_140 : decode cX10_sky 140 = .ok (.bipush 45, 2) := by decide +kernel
theorem dX10_sky_142 : decode cX10_sky 142 = .ok (.if_icmp .ge 21, 3) := by decide +kernel
theorem dX10_sky_145 : decode cX10_sky 145 = .ok (.aload_n 0, 1) := by decide +kernel
theorem dX10_sky_146 : decode cX10_sky 146 = .ok (.getfield 22, 3) := by decide +kernel
theorem dX10_sky_149 : decode cX10_sky 149 = .ok (.iload_n 1, 1) := by decide +kernel
theorem dX10_sky_150 : decode cX10_sky 150 = .ok (.aload_n 0, 1) := by decide +kernel
theorem dX10_sky_151 : decode cX10_sky 151 = .ok (.getfield 25, 3) := by decide +kernel
theorem dX10_sky_154 : decode cX10_sky 154 = .ok (.iload_n 1, 1) := by decide +kernel
theorem dX10_sky_155 : decode cX10_sky 155 = .ok (.iaload, 1) := by decide +kernel
theorem dX10_sky_156 : decode cX10_sky 156 = .ok (.iastore, 1) := by decide +kernel
theorem dX10_sky_157 : decode cX10_sky 157 = .ok (.iinc 1 1, 3) := by decide +kernel
theorem dX10_sky_160 : decode cX10_sky 160 = .ok (.goto (-21), 3) := by decide +kernel
theorem dX10_sky_163 : decode cX10_sky 163 = .ok (.aload_n 0, 1) := by decide +kernel
theorem dX10_sky_164 : decode cX10_sky 164 = .ok (.iconst 1, 1) := by decide +kernel
theorem dX10_sky_165 : decode cX10_sky 165 = .ok (.putfield 117, 3) := by decide +kernel
theorem dX10_sky_168 : decode cX10_sky 168 = .ok (.aload_n 0, 1) := by decide +kernel
theorem dX10_sky_169 : decode cX10_sky 169 = .ok (.iconst 0, 1) := by decide +kernel
theorem dX10_sky_170 : decode cX10_sky 170 = .ok (.putfield 121, 3) := by decide +kernel
theorem dX10_sky_173 : decode cX10_sky 173 = .ok (.aload_n 0, 1) := by decide +kernel
theorem dX10_sky_174 : decode cX10_sky 174 = .ok (.getfield 22, 3) := by decide +kernel
theorem dX10_sky_177 : decode cX10_sky 177 = .ok (.iconst 0, 1) := by decide +kernel
theorem dX10_sky_178 : decode cX10_sky 178 = .ok (.iaload, 1) := by decide +kernel
theorem dX10_sky_179 : decode cX10_sky 179 = .ok (.ireturn, 1) := by decide +kernel
theorem dX10_fault_0 : decode cX10_fault 0 = .ok (.aload_n 0, 1) := by decide +kernel
theorem dX10_fault_1 : decode cX10_fault 1 = .ok (.getfield 113, 3) := by decide +kernel
theorem dX10_fault_4 : decode cX10_fault 4 = .ok (.ireturn, 1) := by decide +kernel
theorem dX10_isCloud_0 : decode cX10_isCloud 0 = .ok (.iload_n 1, 1) := by decide +kernel
theorem dX10_isCloud_1 : decode cX10_isCloud 1 = .ok (.i2l, 1) := by decide +kernel
theorem dX10_isCloud_2 : decode cX10_isCloud 2 = .ok (.lconst 0, 1) := by decide +kernel
theorem dX10_isCloud_3 : decode cX10_isCloud 3 = .ok (.aload_n 0, 1) := by decide +kernel
theorem dX10_isCloud_4 : decode cX10_isCloud 4 = .ok (.getfield 22, 3) := by decide +kernel
theorem dX10_isCloud_7 : decode cX10_isCloud 7 = .ok (.iconst 0, 1) := by decide +kernel
theorem dX10_isCloud_8 : decode cX10_isCloud 8 = .ok (.iaload, 1) := by decide +kernel
theorem dX10_isCloud_9 : decode cX10_isCloud 9 = .ok (.iconst 1, 1) := by decide +kernel
theorem dX10_isCloud_10 : decode cX10_isCloud 10 = .ok (.isub, 1) := by decide +kernel
theorem dX10_isCloud_11 : decode cX10_isCloud 11 = .ok (.i2l, 1) := by decide +kernel
theorem dX10_isCloud_12 : decode cX10_isCloud 12 = .ok (.invokestatic 50, 3) := by decide +kernel
theorem dX10_isCloud_15 : decode cX10_isCloud 15 = .ok (.ireturn, 1) := by decide +kernel
theorem dX10_isField_0 : decode cX10_isField 0 = .ok (.iload_n 0, 1) := by decide +kernel
theorem dX10_isField_1 : decode cX10_isField 1 = .ok (.i2l, 1) := by decide +kernel
theorem dX10_isField_2 : decode cX10_isField 2 = .ok (.lconst 0, 1) := by decide +kernel
theorem dX10_isField_3 : decode cX10_isField 3 = .ok (.ldc2_w 124, 3) := by decide +kernel
theorem dX10_isField_6 : decode cX10_isField 6 = .ok (.invokestatic 50, 3) := by decide +kernel
theorem dX10_isField_9 : decode cX10_isField 9 = .ok (.ireturn, 1) := by decide +kernel
theorem dX10_of_0 : decode cX10_of 0 = .ok (.aload_n 0, 1) := by decide +kernel
theorem dX10_of_1 : decode cX10_of 1 = .ok (.getfield 22, 3) := by decide +kernel
theorem dX10_of_4 : decode cX10_of 4 = .ok (.iconst 4, 1) := by decide +kernel
theorem dX10_of_5 : decode cX10_of 5 = .ok (.iconst 5, 1) := by decide +kernel
theorem dX10_of_6 : decode cX10_of 6 = .ok (.iload_n 1, 1) := by decide +kernel
theorem dX10_of_7 : decode cX10_of 7 = .ok (.imul, 1) := by decide +kernel
theorem dX10_of_8 : decode cX10_of 8 = .ok (.iadd, 1) := by decide +kernel
theorem dX10_of_9 : decode cX10_of 9 = .ok (.iload_n 2, 1) := by decide +kernel
theorem dX10_of_10 : decode cX10_of 10 = .ok (.iadd, 1) := by decide +kernel
theorem dX10_of_11 : decode cX10_of 11 = .ok (.iaload, 1) := by decide +kernel
theorem dX10_of_12 : decode cX10_of 12 = .ok (.ireturn, 1) := by decide +kernel
theorem dX10_isGone_0 : decode cX10_isGone 0 = .ok (.aload_n 0, 1) := by decide +kernel
theorem dX10_isGone_1 : decode cX10_isGone 1 = .ok (.iload_n 1, 1) := by decide +kernel
theorem dX10_isGone_2 : decode cX10_isGone 2 = .ok (.iconst 3, 1) := by decide +kernel
theorem dX10_isGone_3 : decode cX10_isGone 3 = .ok (.invokevirtual 126, 3) := by decide +kernel
theorem dX10_isGone_6 : decode cX10_isGone 6 = .ok (.ifCond .ne 7, 3) := by decide +kernel
theorem dX10_isGone_9 : decode cX10_isGone 9 = .ok (.iconst 1, 1) := by decide +kernel
theorem dX10_isGone_10 : decode cX10_isGone 10 = .ok (.goto 4, 3) := by decide +kernel
theorem dX10_isGone_13 : decode cX10_isGone 13 = .ok (.iconst 0, 1) := by decide +kernel
theorem dX10_isGone_14 : decode cX10_isGone 14 = .ok (.ireturn, 1) := by decide +kernel
theorem dX10_rains_0 : decode cX10_rains 0 = .ok (.aload_n 0, 1) := by decide +kernel
theorem dX10_rains_1 : decode cX10_rains 1 = .ok (.iload_n 1, 1) := by decide +kernel
theorem dX10_rains_2 : decode cX10_rains 2 = .ok (.iconst 0, 1) := by decide +kernel
theorem dX10_rains_3 : decode cX10_rains 3 = .ok (.invokevirtual 126, 3) := by decide +kernel
theorem dX10_rains_6 : decode cX10_rains 6 = .ok (.istore_n 3, 1) := by decide +kernel
theorem dX10_rains_7 : decode cX10_rains 7 = .ok (.iload_n 3, 1) := by decide +kernel
theorem dX10_rains_8 : decode cX10_rains 8 = .ok (.iconst 2, 1) := by decide +kernel
theorem dX10_rains_9 : decode cX10_rains 9 = .ok (.if_icmp .ne 7, 3) := by decide +kernel
theorem dX10_rains_12 : decode cX10_rains 12 = .ok (.iconst 2, 1) := by decide +kernel
theorem dX10_rains_13 : decode cX10_rains 13 = .ok (.goto 24, 3) := by decide +kernel
theorem dX10_rains_16 : decode cX10_rains 16 = .ok (.iload_n 3, 1) := by decide +kernel
theorem dX10_rains_17 : decode cX10_rains 17 = .ok (.iconst 3, 1) := by decide +kernel
theorem dX10_rains_18 : decode cX10_rains 18 = .ok (.if_icmp .eq 14, 3) := by decide +kernel
theorem dX10_rains_21 : decode cX10_rains 21 = .ok (.iload_n 3, 1) := by decide +kernel
theorem dX10_rains_22 : decode cX10_rains 22 = .ok (.iconst 5, 1) := by decide +kernel
theorem dX10_rains_23 : decode cX10_rains 23 = .ok (.if_icmp .ne 13, 3) := by decide +kernel
theorem dX10_rains_26 : decode cX10_rains 26 = .ok (.iload_n 2, 1) := by decide +kernel
theorem dX10_rains_27 : decode cX10_rains 27 = .ok (.iconst 2, 1) := by decide +kernel
theorem dX10_rains_28 : decode cX10_rains 28 = .ok (.irem, 1) := by decide +kernel
theorem dX10_rains_29 : decode cX10_rains 29 = .ok (.ifCond .ne 7, 3) := by decide +kernel
theorem dX10_rains_32 : decode cX10_rains 32 = .ok (.iconst 0, 1) := by decide +kernel
theorem dX10_rains_33 : decode cX10_rains 33 = .ok (.goto 4, 3) := by decide +kernel
theorem dX10_rains_36 : decode cX10_rains 36 = .ok (.iconst 1, 1) := by decide +kernel
theorem dX10_rains_37 : decode cX10_rains 37 = .ok (.ireturn, 1) := by decide +kernel
theorem dX10_fields_0 : decode cX10_fields 0 = .ok (.iconst 0, 1) := by decide +kernel
theorem dX10_fields_1 : decode cX10_fields 1 = .ok (.istore_n 2, 1) := by decide +kernel
theorem dX10_fields_2 : decode cX10_fields 2 = .ok (.iconst 0, 1) := by decide +kernel
theorem dX10_fields_3 : decode cX10_fields 3 = .ok (.istore_n 3, 1) := by decide +kernel
theorem dX10_fields_4 : decode cX10_fields 4 = .ok (.iload_n 3, 1) := by decide +kernel
theorem dX10_fields_5 : decode cX10_fields 5 = .ok (.aload_n 0, 1) := by decide +kernel
theorem dX10_fields_6 : decode cX10_fields 6 = .ok (.iload_n 1, 1) := by decide +kernel
theorem dX10_fields_7 : decode cX10_fields 7 = .ok (.iconst 2, 1) := by decide +kernel
theorem dX10_fields_8 : decode cX10_fields 8 = .ok (.invokevirtual 126, 3) := by decide +kernel
theorem dX10_fields_11 : decode cX10_fields 11 = .ok (.if_icmp .ge 33, 3) := by decide +kernel
theorem dX10_fields_14 : decode cX10_fields 14 = .ok (.aload_n 0, 1) := by decide +kernel
theorem dX10_fields_15 : decode cX10_fields 15 = .ok (.iload_n 1, 1) := by decide +kernel
theorem dX10_fields_16 : decode cX10_fields 16 = .ok (.invokevirtual 129, 3) := by decide +kernel
theorem dX10_fields_19 : decode cX10_fields 19 = .ok (.ifCond .ne 25, 3) := by decide +kernel
theorem dX10_fields_22 : decode cX10_fields 22 = .ok (.iload_n 2, 1) := by decide +kernel
theorem dX10_fields_23 : decode cX10_fields 23 = .ok (.iconst 1, 1) := by decide +kernel
theorem dX10_fields_24 : decode cX10_fields 24 = .ok (.aload_n 0, 1) := by decide +kernel
theorem dX10_fields_25 : decode cX10_fields 25 = .ok (.iload_n 1, 1) := by decide +kernel
theorem dX10_fields_26 : decode cX10_fields 26 = .ok (.iconst 1, 1) := by decide +kernel
theorem dX10_fields_27 : decode cX10_fields 27 = .ok (.invokevirtual 126, 3) := by decide +kernel
theorem dX10_fields_30 : decode cX10_fields 30 = .ok (.iload_n 3, 1) := by decide +kernel
theorem dX10_fields_31 : decode cX10_fields 31 = .ok (.iadd, 1) := by decide +kernel
theorem dX10_fields_32 : decode cX10_fields 32 = .ok (.bipush 16, 2) := by decide +kernel
theorem dX10_fields_34 : decode cX10_fields 34 = .ok (.irem, 1) := by decide +kernel
theorem dX10_fields_35 : decode cX10_fields 35 = .ok (.ishl, 1) := by decide +kernel
theorem dX10_fields_36 : decode cX10_fields 36 = .ok (.ior, 1) := by decide +kernel
theorem dX10_fields_37 : decode cX10_fields 37 = .ok (.istore_n 2, 1) := by decide +kernel
theorem dX10_fields_38 : decode cX10_fields 38 = .ok (.iinc 3 1, 3) := by decide +kernel
theorem dX10_fields_41 : decode cX10_fields 41 = .ok (.goto (-37), 3) := by decide +kernel
theorem dX10_fields_44 : decode cX10_fields 44 = .ok (.iload_n 2, 1) := by decide +kernel
theorem dX10_fields_45 : decode cX10_fields 45 = .ok (.ireturn, 1) := by decide +kernel
theorem dX10_clouds_0 : decode cX10_clouds 0 = .ok (.iconst 0, 1) := by decide +kernel
theorem dX10_clouds_1 : decode cX10_clouds 1 = .ok (.istore_n 2, 1) := by decide +kernel
theorem dX10_clouds_2 : decode cX10_clouds 2 = .ok (.iconst 0, 1) := by decide +kernel
theorem dX10_clouds_3 : decode cX10_clouds 3 = .ok (.istore_n 3, 1) := by decide +kernel
theorem dX10_clouds_4 : decode cX10_clouds 4 = .ok (.iload_n 3, 1) := by decide +kernel
theorem dX10_clouds_5 : decode cX10_clouds 5 = .ok (.aload_n 0, 1) := by decide +kernel
theorem dX10_clouds_6 : decode cX10_clouds 6 = .ok (.getfield 22, 3) := by decide +kernel
theorem dX10_clouds_9 : decode cX10_clouds 9 = .ok (.iconst 0, 1) := by decide +kernel
theorem dX10_clouds_10 : decode cX10_clouds 10 = .ok (.iaload, 1) := by decide +kernel
theorem dX10_clouds_11 : decode cX10_clouds 11 = .ok (.if_icmp .ge 23, 3) := by decide +kernel
theorem dX10_clouds_14 : decode cX10_clouds 14 = .ok (.iload_n 2, 1) := by decide +kernel
theorem dX10_clouds_15 : decode cX10_clouds 15 = .ok (.aload_n 0, 1) := by decide +kernel
theorem dX10_clouds_16 : decode cX10_clouds 16 = .ok (.iload_n 3, 1) := by decide +kernel
theorem dX10_clouds_17 : decode cX10_clouds 17 = .ok (.invokevirtual 132, 3) := by decide +kernel
theorem dX10_clouds_20 : decode cX10_clouds 20 = .ok (.iload_n 1, 1) := by decide +kernel
theorem dX10_clouds_21 : decode cX10_clouds 21 = .ok (.ishr, 1) := by decide +kernel
theorem dX10_clouds_22 : decode cX10_clouds 22 = .ok (.iconst 1, 1) := by decide +kernel
theorem dX10_clouds_23 : decode cX10_clouds 23 = .ok (.iand, 1) := by decide +kernel
theorem dX10_clouds_24 : decode cX10_clouds 24 = .ok (.iload_n 3, 1) := by decide +kernel
theorem dX10_clouds_25 : decode cX10_clouds 25 = .ok (.ishl, 1) := by decide +kernel
theorem dX10_clouds_26 : decode cX10_clouds 26 = .ok (.ior, 1) := by decide +kernel
theorem dX10_clouds_27 : decode cX10_clouds 27 = .ok (.istore_n 2, 1) := by decide +kernel
theorem dX10_clouds_28 : decode cX10_clouds 28 = .ok (.iinc 3 1, 3) := by decide +kernel
theorem dX10_clouds_31 : decode cX10_clouds 31 = .ok (.goto (-27), 3) := by decide +kernel
theorem dX10_clouds_34 : decode cX10_clouds 34 = .ok (.iload_n 2, 1) := by decide +kernel
theorem dX10_clouds_35 : decode cX10_clouds 35 = .ok (.ireturn, 1) := by decide +kernel
theorem dX10_notGone_0 : decode cX10_notGone 0 = .ok (.iconst 0, 1) := by decide +kernel
theorem dX10_notGone_1 : decode cX10_notGone 1 = .ok (.istore_n 1, 1) := by decide +kernel
theorem dX10_notGone_2 : decode cX10_notGone 2 = .ok (.iconst 0, 1) := by decide +kernel
theorem dX10_notGone_3 : decode cX10_notGone 3 = .ok (.istore_n 2, 1) := by decide +kernel
theorem dX10_notGone_4 : decode cX10_notGone 4 = .ok (.iload_n 2, 1) := by decide +kernel
theorem dX10_notGone_5 : decode cX10_notGone 5 = .ok (.aload_n 0, 1) := by decide +kernel
theorem dX10_notGone_6 : decode cX10_notGone 6 = .ok (.getfield 22, 3) := by decide +kernel
theorem dX10_notGone_9 : decode cX10_notGone 9 = .ok (.iconst 0, 1) := by decide +kernel
theorem dX10_notGone_10 : decode cX10_notGone 10 = .ok (.iaload, 1) := by decide +kernel
theorem dX10_notGone_11 : decode cX10_notGone 11 = .ok (.if_icmp .ge 27, 3) := by decide +kernel
theorem dX10_notGone_14 : decode cX10_notGone 14 = .ok (.iload_n 1, 1) := by decide +kernel
theorem dX10_notGone_15 : decode cX10_notGone 15 = .ok (.aload_n 0, 1) := by decide +kernel
theorem dX10_notGone_16 : decode cX10_notGone 16 = .ok (.iload_n 2, 1) := by decide +kernel
theorem dX10_notGone_17 : decode cX10_notGone 17 = .ok (.invokevirtual 129, 3) := by decide +kernel
theorem dX10_notGone_20 : decode cX10_notGone 20 = .ok (.ifCond .eq 7, 3) := by decide +kernel
theorem dX10_notGone_23 : decode cX10_notGone 23 = .ok (.iconst 0, 1) := by decide +kernel
theorem dX10_notGone_24 : decode cX10_notGone 24 = .ok (.goto 6, 3) := by decide +kernel
theorem dX10_notGone_27 : decode cX10_notGone 27 = .ok (.iconst 1, 1) := by decide +kernel
theorem dX10_notGone_28 : decode cX10_notGone 28 = .ok (.iload_n 2, 1) := by decide +kernel
theorem dX10_notGone_29 : decode cX10_notGone 29 = .ok (.ishl, 1) := by decide +kernel
theorem dX10_notGone_30 : decode cX10_notGone 30 = .ok (.ior, 1) := by decide +kernel
theorem dX10_notGone_31 : decode cX10_notGone 31 = .ok (.istore_n 1, 1) := by decide +kernel
theorem dX10_notGone_32 : decode cX10_notGone 32 = .ok (.iinc 2 1, 3) := by decide +kernel
theorem dX10_notGone_35 : decode cX10_notGone 35 = .ok (.goto (-31), 3) := by decide +kernel
theorem dX10_notGone_38 : decode cX10_notGone 38 = .ok (.iload_n 1, 1) := by decide +kernel
theorem dX10_notGone_39 : decode cX10_notGone 39 = .ok (.ireturn, 1) := by decide +kernel
theorem dX10_fell_0 : decode cX10_fell 0 = .ok (.iconst 0, 1) := by decide +kernel
theorem dX10_fell_1 : decode cX10_fell 1 = .ok (.istore_n 1, 1) := by decide +kernel
theorem dX10_fell_2 : decode cX10_fell 2 = .ok (.iconst 0, 1) := by decide +kernel
theorem dX10_fell_3 : decode cX10_fell 3 = .ok (.istore_n 2, 1) := by decide +kernel
theorem dX10_fell_4 : decode cX10_fell 4 = .ok (.iload_n 2, 1) := by decide +kernel
theorem dX10_fell_5 : decode cX10_fell 5 = .ok (.bipush 16, 2) := by decide +kernel
theorem dX10_fell_7 : decode cX10_fell 7 = .ok (.if_icmp .ge 21, 3) := by decide +kernel
theorem dX10_fell_10 : decode cX10_fell 10 = .ok (.iload_n 1, 1) := by decide +kernel
theorem dX10_fell_11 : decode cX10_fell 11 = .ok (.aload_n 0, 1) := by decide +kernel
theorem dX10_fell_12 : decode cX10_fell 12 = .ok (.getfield 22, 3) := by decide +kernel
theorem dX10_fell_15 : decode cX10_fell 15 = .ok (.bipush 29, 2) := by decide +kernel
theorem dX10_fell_17 : decode cX10_fell 17 = .ok (.iload_n 2, 1) := by decide +kernel
theorem dX10_fell_18 : decode cX10_fell 18 = .ok (.iadd, 1) := by decide +kernel
theorem dX10_fell_19 : decode cX10_fell 19 = .ok (.iaload, 1) := by decide +kernel
theorem dX10_fell_20 : decode cX10_fell 20 = .ok (.iadd, 1) := by decide +kernel
theorem dX10_fell_21 : decode cX10_fell 21 = .ok (.istore_n 1, 1) := by decide +kernel
theorem dX10_fell_22 : decode cX10_fell 22 = .ok (.iinc 2 1, 3) := by decide +kernel
theorem dX10_fell_25 : decode cX10_fell 25 = .ok (.goto (-21), 3) := by decide +kernel
theorem dX10_fell_28 : decode cX10_fell 28 = .ok (.iload_n 1, 1) := by decide +kernel
theorem dX10_fell_29 : decode cX10_fell 29 = .ok (.ireturn, 1) := by decide +kernel
theorem dX10_goesOn_0 : decode cX10_goesOn 0 = .ok (.iconst 4, 1) := by decide +kernel
theorem dX10_goesOn_1 : decode cX10_goesOn 1 = .ok (.iconst 5, 1) := by decide +kernel
theorem dX10_goesOn_2 : decode cX10_goesOn 2 = .ok (.iload_n 1, 1) := by decide +kernel
theorem dX10_goesOn_3 : decode cX10_goesOn 3 = .ok (.imul, 1) := by decide +kernel
theorem dX10_goesOn_4 : decode cX10_goesOn 4 = .ok (.iadd, 1) := by decide +kernel
theorem dX10_goesOn_5 : decode cX10_goesOn 5 = .ok (.istore_n 2, 1) := by decide +kernel
theorem dX10_goesOn_6 : decode cX10_goesOn 6 = .ok (.aload_n 0, 1) := by decide +kernel
theorem dX10_goesOn_7 : decode cX10_goesOn 7 = .ok (.getfield 22, 3) := by decide +kernel
theorem dX10_goesOn_10 : decode cX10_goesOn 10 = .ok (.iload_n 2, 1) := by decide +kernel
theorem dX10_goesOn_11 : decode cX10_goesOn 11 = .ok (.iaload, 1) := by decide +kernel
theorem dX10_goesOn_12 : decode cX10_goesOn 12 = .ok (.istore_n 3, 1) := by decide +kernel
theorem dX10_goesOn_13 : decode cX10_goesOn 13 = .ok (.aload_n 0, 1) := by decide +kernel
theorem dX10_goesOn_14 : decode cX10_goesOn 14 = .ok (.getfield 22, 3) := by decide +kernel
theorem dX10_goesOn_17 : decode cX10_goesOn 17 = .ok (.iload_n 2, 1) := by decide +kernel
theorem dX10_goesOn_18 : decode cX10_goesOn 18 = .ok (.iconst 1, 1) := by decide +kernel
theorem dX10_goesOn_19 : decode cX10_goesOn 19 = .ok (.iadd, 1) := by decide +kernel
theorem dX10_goesOn_20 : decode cX10_goesOn 20 = .ok (.iload_n 3, 1) := by decide +kernel
theorem dX10_goesOn_21 : decode cX10_goesOn 21 = .ok (.iconst 3, 1) := by decide +kernel
theorem dX10_goesOn_22 : decode cX10_goesOn 22 = .ok (.if_icmp .le 14, 3) := by decide +kernel
theorem dX10_goesOn_25 : decode cX10_goesOn 25 = .ok (.aload_n 0, 1) := by decide +kernel
theorem dX10_goesOn_26 : decode cX10_goesOn 26 = .ok (.getfield 22, 3) := by decide +kernel
theorem dX10_goesOn_29 : decode cX10_goesOn 29 = .ok (.iload_n 2, 1) := by decide +kernel
theorem dX10_goesOn_30 : decode cX10_goesOn 30 = .ok (.iconst 1, 1) := by decide +kernel
theorem dX10_goesOn_31 : decode cX10_goesOn 31 = .ok (.iadd, 1) := by decide +kernel
theorem dX10_goesOn_32 : decode cX10_goesOn 32 = .ok (.iaload, 1) := by decide +kernel
theorem dX10_goesOn_33 : decode cX10_goesOn 33 = .ok (.goto 32, 3) := by decide +kernel
theorem dX10_goesOn_36 : decode cX10_goesOn 36 = .ok (.aload_n 0, 1) := by decide +kernel
theorem dX10_goesOn_37 : decode cX10_goesOn 37 = .ok (.getfield 22, 3) := by decide +kernel
theorem dX10_goesOn_40 : decode cX10_goesOn 40 = .ok (.iload_n 2, 1) := by decide +kernel
theorem dX10_goesOn_41 : decode cX10_goesOn 41 = .ok (.iconst 1, 1) := by decide +kernel
theorem dX10_goesOn_42 : decode cX10_goesOn 42 = .ok (.iadd, 1) := by decide +kernel
theorem dX10_goesOn_43 : decode cX10_goesOn 43 = .ok (.iaload, 1) := by decide +kernel
theorem dX10_goesOn_44 : decode cX10_goesOn 44 = .ok (.aload_n 0, 1) := by decide +kernel
theorem dX10_goesOn_45 : decode cX10_goesOn 45 = .ok (.getfield 22, 3) := by decide +kernel
theorem dX10_goesOn_48 : decode cX10_goesOn 48 = .ok (.iconst 1, 1) := by decide +kernel
theorem dX10_goesOn_49 : decode cX10_goesOn 49 = .ok (.iaload, 1) := by decide +kernel
theorem dX10_goesOn_50 : decode cX10_goesOn 50 = .ok (.iadd, 1) := by decide +kernel
theorem dX10_goesOn_51 : decode cX10_goesOn 51 = .ok (.iload_n 3, 1) := by decide +kernel
theorem dX10_goesOn_52 : decode cX10_goesOn 52 = .ok (.iconst 2, 1) := by decide +kernel
theorem dX10_goesOn_53 : decode cX10_goesOn 53 = .ok (.if_icmp .ne 7, 3) := by decide +kernel
theorem dX10_goesOn_56 : decode cX10_goesOn 56 = .ok (.iconst 1, 1) := by decide +kernel
theorem dX10_goesOn_57 : decode cX10_goesOn 57 = .ok (.goto 4, 3) := by decide +kernel
theorem dX10_goesOn_60 : decode cX10_goesOn 60 = .ok (.iconst 0, 1) := by decide +kernel
theorem dX10_goesOn_61 : decode cX10_goesOn 61 = .ok (.iadd, 1) := by decide +kernel
theorem dX10_goesOn_62 : decode cX10_goesOn 62 = .ok (.bipush 16, 2) := by decide +kernel
theorem dX10_goesOn_64 : decode cX10_goesOn 64 = .ok (.irem, 1) := by decide +kernel
theorem dX10_goesOn_65 : decode cX10_goesOn 65 = .ok (.iastore, 1) := by decide +kernel
theorem dX10_goesOn_66 : decode cX10_goesOn 66 = .ok (.aload_n 0, 1) := by decide +kernel
theorem dX10_goesOn_67 : decode cX10_goesOn 67 = .ok (.getfield 22, 3) := by decide +kernel
theorem dX10_goesOn_70 : decode cX10_goesOn 70 = .ok (.iload_n 2, 1) := by decide +kernel
theorem dX10_goesOn_71 : decode cX10_goesOn 71 = .ok (.iconst 2, 1) := by decide +kernel
theorem dX10_goesOn_72 : decode cX10_goesOn 72 = .ok (.iadd, 1) := by decide +kernel
theorem dX10_goesOn_73 : decode cX10_goesOn 73 = .ok (.dup2, 1) := by decide +kernel
theorem dX10_goesOn_74 : decode cX10_goesOn 74 = .ok (.iaload, 1) := by decide +kernel
theorem dX10_goesOn_75 : decode cX10_goesOn 75 = .ok (.iload_n 3, 1) := by decide +kernel
theorem dX10_goesOn_76 : decode cX10_goesOn 76 = .ok (.iconst 2, 1) := by decide +kernel
theorem dX10_goesOn_77 : decode cX10_goesOn 77 = .ok (.if_icmp .ne 31, 3) := by decide +kernel
theorem dX10_goesOn_80 : decode cX10_goesOn 80 = .ok (.aload_n 0, 1) := by decide +kernel
theorem dX10_goesOn_81 : decode cX10_goesOn 81 = .ok (.getfield 22, 3) := by decide +kernel
theorem dX10_goesOn_84 : decode cX10_goesOn 84 = .ok (.iconst 3, 1) := by decide +kernel
theorem dX10_goesOn_85 : decode cX10_goesOn 85 = .ok (.iaload, 1) := by decide +kernel
theorem dX10_goesOn_86 : decode cX10_goesOn 86 = .ok (.iconst 2, 1) := by decide +kernel
theorem dX10_goesOn_87 : decode cX10_goesOn 87 = .ok (.irem, 1) := by decide +kernel
theorem dX10_goesOn_88 : decode cX10_goesOn 88 = .ok (.ifCond .ne 20, 3) := by decide +kernel
theorem dX10_goesOn_91 : decode cX10_goesOn 91 = .ok (.aload_n 0, 1) := by decide +kernel
theorem dX10_goesOn_92 : decode cX10_goesOn 92 = .ok (.getfield 22, 3) := by decide +kernel
theorem dX10_goesOn_95 : decode cX10_goesOn 95 = .ok (.iload_n 2, 1) := by decide +kernel
theorem dX10_goesOn_96 : decode cX10_goesOn 96 = .ok (.iconst 2, 1) := by decide +kernel
theorem dX10_goesOn_97 : decode cX10_goesOn 97 = .ok (.iadd, 1) := by decide +kernel
theorem dX10_goesOn_98 : decode cX10_goesOn 98 = .ok (.iaload, 1) := by decide +kernel
theorem dX10_goesOn_99 : decode cX10_goesOn 99 = .ok (.bipush 8, 2) := by decide +kernel
theorem dX10_goesOn_101 : decode cX10_goesOn 101 = .ok (.if_icmp .ge 7, 3) := by decide +kernel
theorem dX10_goesOn_104 : decode cX10_goesOn 104 = .ok (.iconst 1, 1) := by decide +kernel
theorem dX10_goesOn_105 : decode cX10_goesOn 105 = .ok (.goto 4, 3) := by decide +kernel
theorem dX10_goesOn_108 : decode cX10_goesOn 108 = .ok (.iconst 0, 1) := by decide +kernel
theorem dX10_goesOn_109 : decode cX10_goesOn 109 = .ok (.iadd, 1) := by decide +kernel
theorem dX10_goesOn_110 : decode cX10_goesOn 110 = .ok (.iastore, 1) := by decide +kernel
theorem dX10_goesOn_111 : decode cX10_goesOn 111 = .ok (.return_, 1) := by decide +kernel
theorem dX10_rainsOf_0 : decode cX10_rainsOf 0 = .ok (.iconst 4, 1) := by decide +kernel
theorem dX10_rainsOf_1 : decode cX10_rainsOf 1 = .ok (.iconst 5, 1) := by decide +kernel
theorem dX10_rainsOf_2 : decode cX10_rainsOf 2 = .ok (.iload_n 1, 1) := by decide +kernel
theorem dX10_rainsOf_3 : decode cX10_rainsOf 3 = .ok (.imul, 1) := by decide +kernel
theorem dX10_rainsOf_4 : decode cX10_rainsOf 4 = .ok (.iadd, 1) := by decide +kernel
theorem dX10_rainsOf_5 : decode cX10_rainsOf 5 = .ok (.istore_n 2, 1) := by decide +kernel
theorem dX10_rainsOf_6 : decode cX10_rainsOf 6 = .ok (.aload_n 0, 1) := by decide +kernel
theorem dX10_rainsOf_7 : decode cX10_rainsOf 7 = .ok (.iload_n 1, 1) := by decide +kernel
theorem dX10_rainsOf_8 : decode cX10_rainsOf 8 = .ok (.aload_n 0, 1) := by decide +kernel
theorem dX10_rainsOf_9 : decode cX10_rainsOf 9 = .ok (.getfield 22, 3) := by decide +kernel
theorem dX10_rainsOf_12 : decode cX10_rainsOf 12 = .ok (.iconst 3, 1) := by decide +kernel
theorem dX10_rainsOf_13 : decode cX10_rainsOf 13 = .ok (.iaload, 1) := by decide +kernel
theorem dX10_rainsOf_14 : decode cX10_rainsOf 14 = .ok (.invokevirtual 135, 3) := by decide +kernel
theorem dX10_rainsOf_17 : decode cX10_rainsOf 17 = .ok (.istore_n 3, 1) := by decide +kernel
theorem dX10_rainsOf_18 : decode cX10_rainsOf 18 = .ok (.aload_n 0, 1) := by decide +kernel
theorem dX10_rainsOf_19 : decode cX10_rainsOf 19 = .ok (.getfield 22, 3) := by decide +kernel
theorem dX10_rainsOf_22 : decode cX10_rainsOf 22 = .ok (.iload_n 2, 1) := by decide +kernel
theorem dX10_rainsOf_23 : decode cX10_rainsOf 23 = .ok (.iconst 2, 1) := by decide +kernel
theorem dX10_rainsOf_24 : decode cX10_rainsOf 24 = .ok (.iadd, 1) := by decide +kernel
theorem dX10_rainsOf_25 : decode cX10_rainsOf 25 = .ok (.iaload, 1) := by decide +kernel
theorem dX10_rainsOf_26 : decode cX10_rainsOf 26 = .ok (.iload_n 3, 1) := by decide +kernel
theorem dX10_rainsOf_27 : decode cX10_rainsOf 27 = .ok (.imul, 1) := by decide +kernel
theorem dX10_rainsOf_28 : decode cX10_rainsOf 28 = .ok (.istore 4, 2) := by decide +kernel
theorem dX10_rainsOf_30 : decode cX10_rainsOf 30 = .ok (.iload 4, 2) := by decide +kernel
theorem dX10_rainsOf_32 : decode cX10_rainsOf 32 = .ok (.ifCond .eq 16, 3) := by decide +kernel
theorem dX10_rainsOf_35 : decode cX10_rainsOf 35 = .ok (.aload_n 0, 1) := by decide +kernel
theorem dX10_rainsOf_36 : decode cX10_rainsOf 36 = .ok (.getfield 22, 3) := by decide +kernel
theorem dX10_rainsOf_39 : decode cX10_rainsOf 39 = .ok (.iload_n 2, 1) := by decide +kernel
theorem dX10_rainsOf_40 : decode cX10_rainsOf 40 = .ok (.iconst 3, 1) := by decide +kernel
theorem dX10_rainsOf_41 : decode cX10_rainsOf 41 = .ok (.iadd, 1) := by decide +kernel
theorem dX10_rainsOf_42 : decode cX10_rainsOf 42 = .ok (.iaload, 1) := by decide +kernel
theorem dX10_rainsOf_43 : decode cX10_rainsOf 43 = .ok (.iload 4, 2) := by decide +kernel
theorem dX10_rainsOf_45 : decode cX10_rainsOf 45 = .ok (.if_icmp .ge 16, 3) := by decide +kernel
theorem dX10_rainsOf_48 : decode cX10_rainsOf 48 = .ok (.aload_n 0, 1) := by decide +kernel
theorem dX10_rainsOf_49 : decode cX10_rainsOf 49 = .ok (.getfield 22, 3) := by decide +kernel
theorem dX10_rainsOf_52 : decode cX10_rainsOf 52 = .ok (.iload_n 2, 1) := by decide +kernel
theorem dX10_rainsOf_53 : decode cX10_rainsOf 53 = .ok (.iconst 3, 1) := by decide +kernel
theorem dX10_rainsOf_54 : decode cX10_rainsOf 54 = .ok (.iadd, 1) := by decide +kernel
theorem dX10_rainsOf_55 : decode cX10_rainsOf 55 = .ok (.dup2, 1) := by decide +kernel
theorem dX10_rainsOf_56 : decode cX10_rainsOf 56 = .ok (.iaload, 1) := by decide +kernel
theorem dX10_rainsOf_57 : decode cX10_rainsOf 57 = .ok (.iconst 1, 1) := by decide +kernel
theorem dX10_rainsOf_58 : decode cX10_rainsOf 58 = .ok (.isub, 1) := by decide +kernel
theorem dX10_rainsOf_59 : decode cX10_rainsOf 59 = .ok (.iastore, 1) := by decide +kernel
theorem dX10_rainsOf_60 : decode cX10_rainsOf 60 = .ok (.return_, 1) := by decide +kernel
theorem dX10_rainsOf_61 : decode cX10_rainsOf 61 = .ok (.aload_n 0, 1) := by decide +kernel
theorem dX10_rainsOf_62 : decode cX10_rainsOf 62 = .ok (.iload_n 1, 1) := by decide +kernel
theorem dX10_rainsOf_63 : decode cX10_rainsOf 63 = .ok (.invokevirtual 132, 3) := by decide +kernel
theorem dX10_rainsOf_66 : decode cX10_rainsOf 66 = .ok (.istore 5, 2) := by decide +kernel
theorem dX10_rainsOf_68 : decode cX10_rainsOf 68 = .ok (.iconst 0, 1) := by decide +kernel
theorem dX10_rainsOf_69 : decode cX10_rainsOf 69 = .ok (.istore 6, 2) := by decide +kernel
theorem dX10_rainsOf_71 : decode cX10_rainsOf 71 = .ok (.iload 6, 2) := by decide +kernel
theorem dX10_rainsOf_73 : decode cX10_rainsOf 73 = .ok (.bipush 16, 2) := by decide +kernel
theorem dX10_rainsOf_75 : decode cX10_rainsOf 75 = .ok (.if_icmp .ge 31, 3) := by decide +kernel
theorem dX10_rainsOf_78 : decode cX10_rainsOf 78 = .ok (.aload_n 0, 1) := by decide +kernel
theorem dX10_rainsOf_79 : decode cX10_rainsOf 79 = .ok (.getfield 22, 3) := by decide +kernel
theorem dX10_rainsOf_82 : decode cX10_rainsOf 82 = .ok (.bipush 29, 2) := by decide +kernel
theorem dX10_rainsOf_84 : decode cX10_rainsOf 84 = .ok (.iload 6, 2) := by decide +kernel
theorem dX10_rainsOf_86 : decode cX10_rainsOf 86 = .ok (.iadd, 1) := by decide +kernel
theorem dX10_rainsOf_87 : decode cX10_rainsOf 87 = .ok (.dup2, 1) := by decide +kernel
theorem dX10_rainsOf_88 : decode cX10_rainsOf 88 = .ok (.iaload, 1) := by decide +kernel
theorem dX10_rainsOf_89 : decode cX10_rainsOf 89 = .ok (.iload 5, 2) := by decide +kernel
theorem dX10_rainsOf_91 : decode cX10_rainsOf 91 = .ok (.iload 6, 2) := by decide +kernel
theorem dX10_rainsOf_93 : decode cX10_rainsOf 93 = .ok (.ishr, 1) := by decide +kernel
theorem dX10_rainsOf_94 : decode cX10_rainsOf 94 = .ok (.iconst 1, 1) := by decide +kernel
theorem dX10_rainsOf_95 : decode cX10_rainsOf 95 = .ok (.iand, 1) := by decide +kernel
theorem dX10_rainsOf_96 : decode cX10_rainsOf 96 = .ok (.iload_n 3, 1) := by decide +kernel
theorem dX10_rainsOf_97 : decode cX10_rainsOf 97 = .ok (.imul, 1) := by decide +kernel
theorem dX10_rainsOf_98 : decode cX10_rainsOf 98 = .ok (.iadd, 1) := by decide +kernel
theorem dX10_rainsOf_99 : decode cX10_rainsOf 99 = .ok (.iastore, 1) := by decide +kernel
theorem dX10_rainsOf_100 : decode cX10_rainsOf 100 = .ok (.iinc 6 1, 3) := by decide +kernel
theorem dX10_rainsOf_103 : decode cX10_rainsOf 103 = .ok (.goto (-32), 3) := by decide +kernel
theorem dX10_rainsOf_106 : decode cX10_rainsOf 106 = .ok (.aload_n 0, 1) := by decide +kernel
theorem dX10_rainsOf_107 : decode cX10_rainsOf 107 = .ok (.getfield 22, 3) := by decide +kernel
theorem dX10_rainsOf_110 : decode cX10_rainsOf 110 = .ok (.iload_n 2, 1) := by decide +kernel
theorem dX10_rainsOf_111 : decode cX10_rainsOf 111 = .ok (.iconst 3, 1) := by decide +kernel
theorem dX10_rainsOf_112 : decode cX10_rainsOf 112 = .ok (.iadd, 1) := by decide +kernel
theorem dX10_rainsOf_113 : decode cX10_rainsOf 113 = .ok (.dup2, 1) := by decide +kernel
theorem dX10_rainsOf_114 : decode cX10_rainsOf 114 = .ok (.iaload, 1) := by decide +kernel
theorem dX10_rainsOf_115 : decode cX10_rainsOf 115 = .ok (.iload 4, 2) := by decide +kernel
theorem dX10_rainsOf_117 : decode cX10_rainsOf 117 = .ok (.isub, 1) := by decide +kernel
theorem dX10_rainsOf_118 : decode cX10_rainsOf 118 = .ok (.iastore, 1) := by decide +kernel
theorem dX10_rainsOf_119 : decode cX10_rainsOf 119 = .ok (.return_, 1) := by decide +kernel
theorem dX10_goesBy_0 : decode cX10_goesBy 0 = .ok (.iconst 0, 1) := by decide +kernel
theorem dX10_goesBy_1 : decode cX10_goesBy 1 = .ok (.istore_n 1, 1) := by decide +kernel
theorem dX10_goesBy_2 : decode cX10_goesBy 2 = .ok (.iload_n 1, 1) := by decide +kernel
theorem dX10_goesBy_3 : decode cX10_goesBy 3 = .ok (.aload_n 0, 1) := by decide +kernel
theorem dX10_goesBy_4 : decode cX10_goesBy 4 = .ok (.getfield 22, 3) := by decide +kernel
theorem dX10_goesBy_7 : decode cX10_goesBy 7 = .ok (.iconst 0, 1) := by decide +kernel
theorem dX10_goesBy_8 : decode cX10_goesBy 8 = .ok (.iaload, 1) := by decide +kernel
theorem dX10_goesBy_9 : decode cX10_goesBy 9 = .ok (.if_icmp .ge 27, 3) := by decide +kernel
theorem dX10_goesBy_12 : decode cX10_goesBy 12 = .ok (.aload_n 0, 1) := by decide +kernel
theorem dX10_goesBy_13 : decode cX10_goesBy 13 = .ok (.iload_n 1, 1) := by decide +kernel
theorem dX10_goesBy_14 : decode cX10_goesBy 14 = .ok (.invokevirtual 129, 3) := by decide +kernel
theorem dX10_goesBy_17 : decode cX10_goesBy 17 = .ok (.ifCond .ne 13, 3) := by decide +kernel
theorem dX10_goesBy_20 : decode cX10_goesBy 20 = .ok (.aload_n 0, 1) := by decide +kernel
theorem dX10_goesBy_21 : decode cX10_goesBy 21 = .ok (.iload_n 1, 1) := by decide +kernel
theorem dX10_goesBy_22 : decode cX10_goesBy 22 = .ok (.invokevirtual 138, 3) := by decide +kernel
theorem dX10_goesBy_25 : decode cX10_goesBy 25 = .ok (.aload_n 0, 1) := by decide +kernel
theorem dX10_goesBy_26 : decode cX10_goesBy 26 = .ok (.iload_n 1, 1) := by decide +kernel
theorem dX10_goesBy_27 : decode cX10_goesBy 27 = .ok (.invokevirtual 141, 3) := by decide +kernel
theorem dX10_goesBy_30 : decode cX10_goesBy 30 = .ok (.iinc 1 1, 3) := by decide +kernel
theorem dX10_goesBy_33 : decode cX10_goesBy 33 = .ok (.goto (-31), 3) := by decide +kernel
theorem dX10_goesBy_36 : decode cX10_goesBy 36 = .ok (.aload_n 0, 1) := by decide +kernel
theorem dX10_goesBy_37 : decode cX10_goesBy 37 = .ok (.getfield 22, 3) := by decide +kernel
theorem dX10_goesBy_40 : decode cX10_goesBy 40 = .ok (.iconst 3, 1) := by decide +kernel
theorem dX10_goesBy_41 : decode cX10_goesBy 41 = .ok (.dup2, 1) := by decide +kernel
theorem dX10_goesBy_42 : decode cX10_goesBy 42 = .ok (.iaload, 1) := by decide +kernel
theorem dX10_goesBy_43 : decode cX10_goesBy 43 = .ok (.iconst 1, 1) := by decide +kernel
theorem dX10_goesBy_44 : decode cX10_goesBy 44 = .ok (.iadd, 1) := by decide +kernel
theorem dX10_goesBy_45 : decode cX10_goesBy 45 = .ok (.iastore, 1) := by decide +kernel
theorem dX10_goesBy_46 : decode cX10_goesBy 46 = .ok (.return_, 1) := by decide +kernel
theorem dX10_notes_0 : decode cX10_notes 0 = .ok (.aload_n 0, 1) := by decide +kernel
theorem dX10_notes_1 : decode cX10_notes 1 = .ok (.getfield 121, 3) := by decide +kernel
theorem dX10_notes_4 : decode cX10_notes 4 = .ok (.bipush 24, 2) := by decide +kernel
theorem dX10_notes_6 : decode cX10_notes 6 = .ok (.if_icmp .ne 40, 3) := by decide +kernel
theorem dX10_notes_9 : decode cX10_notes 9 = .ok (.bipush 45, 2) := by decide +kernel
theorem dX10_notes_11 : decode cX10_notes 11 = .ok (.istore_n 1, 1) := by decide +kernel
theorem dX10_notes_12 : decode cX10_notes 12 = .ok (.iload_n 1, 1) := by decide +kernel
theorem dX10_notes_13 : decode cX10_notes 13 = .ok (.sipush 1080, 3) := by decide +kernel
theorem dX10_notes_16 : decode cX10_notes 16 = .ok (.if_icmp .ge 24, 3) := by decide +kernel
theorem dX10_notes_19 : decode cX10_notes 19 = .ok (.aload_n 0, 1) := by decide +kernel
theorem dX10_notes_20 : decode cX10_notes 20 = .ok (.getfield 31, 3) := by decide +kernel
theorem dX10_notes_23 : decode cX10_notes 23 = .ok (.iload_n 1, 1) := by decide +kernel
theorem dX10_notes_24 : decode cX10_notes 24 = .ok (.bipush 45, 2) := by decide +kernel
theorem dX10_notes_26 : decode cX10_notes 26 = .ok (.isub, 1) := by decide +kernel
theorem dX10_notes_27 : decode cX10_notes 27 = .ok (.aload_n 0, 1) := by decide +kernel
theorem dX10_notes_28 : decode cX10_notes 28 = .ok (.getfield 31, 3) := by decide +kernel
theorem dX10_notes_31 : decode cX10_notes 31 = .ok (.iload_n 1, 1) := by decide +kernel
theorem dX10_notes_32 : decode cX10_notes 32 = .ok (.iaload, 1) := by decide +kernel
theorem dX10_notes_33 : decode cX10_notes 33 = .ok (.iastore, 1) := by decide +kernel
theorem dX10_notes_34 : decode cX10_notes 34 = .ok (.iinc 1 1, 3) := by decide +kernel
theorem dX10_notes_37 : decode cX10_notes 37 = .ok (.goto (-25), 3) := by decide +kernel
theorem dX10_notes_40 : decode cX10_notes 40 = .ok (.aload_n 0, 1) := by decide +kernel
theorem dX10_notes_41 : decode cX10_notes 41 = .ok (.bipush 23, 2) := by decide +kernel
theorem dX10_notes_43 : decode cX10_notes 43 = .ok (.putfield 121, 3) := by decide +kernel
theorem dX10_notes_46 : decode cX10_notes 46 = .ok (.iconst 0, 1) := by decide +kernel
theorem dX10_notes_47 : decode cX10_notes 47 = .ok (.istore_n 1, 1) := by decide +kernel
theorem dX10_notes_48 : decode cX10_notes 48 = .ok (.iload_n 1, 1) := by decide +kernel
theorem dX10_notes_49 : decode cX10_notes 49 = .ok (.bipush 45, 2) := by decide +kernel
theorem dX10_notes_51 : decode cX10_notes 51 = .ok (.if_icmp .ge 29, 3) := by decide +kernel
theorem dX10_notes_54 : decode cX10_notes 54 = .ok (.aload_n 0, 1) := by decide +kernel
theorem dX10_notes_55 : decode cX10_notes 55 = .ok (.getfield 31, 3) := by decide +kernel
theorem dX10_notes_58 : decode cX10_notes 58 = .ok (.bipush 45, 2) := by decide +kernel
theorem dX10_notes_60 : decode cX10_notes 60 = .ok (.aload_n 0, 1) := by decide +kernel
theorem dX10_notes_61 : decode cX10_notes 61 = .ok (.getfield 121, 3) := by decide +kernel
theorem dX10_notes_64 : decode cX10_notes 64 = .ok (.imul, 1) := by decide +kernel
theorem dX10_notes_65 : decode cX10_notes 65 = .ok (.iload_n 1, 1) := by decide +kernel
theorem dX10_notes_66 : decode cX10_notes 66 = .ok (.iadd, 1) := by decide +kernel
theorem dX10_notes_67 : decode cX10_notes 67 = .ok (.aload_n 0, 1) := by decide +kernel
theorem dX10_notes_68 : decode cX10_notes 68 = .ok (.getfield 22, 3) := by decide +kernel
theorem dX10_notes_71 : decode cX10_notes 71 = .ok (.iload_n 1, 1) := by decide +kernel
theorem dX10_notes_72 : decode cX10_notes 72 = .ok (.iaload, 1) := by decide +kernel
theorem dX10_notes_73 : decode cX10_notes 73 = .ok (.iastore, 1) := by decide +kernel
theorem dX10_notes_74 : decode cX10_notes 74 = .ok (.iinc 1 1, 3) := by decide +kernel
theorem dX10_notes_77 : decode cX10_notes 77 = .ok (.goto (-29), 3) := by decide +kernel
theorem dX10_notes_80 : decode cX10_notes 80 = .ok (.aload_n 0, 1) := by decide +kernel
theorem dX10_notes_81 : decode cX10_notes 81 = .ok (.dup, 1) := by decide +kernel
theorem dX10_notes_82 : decode cX10_notes 82 = .ok (.getfield 121, 3) := by decide +kernel
theorem dX10_notes_85 : decode cX10_notes 85 = .ok (.iconst 1, 1) := by decide +kernel
theorem dX10_notes_86 : decode cX10_notes 86 = .ok (.iadd, 1) := by decide +kernel
theorem dX10_notes_87 : decode cX10_notes 87 = .ok (.putfield 121, 3) := by decide +kernel
theorem dX10_notes_90 : decode cX10_notes 90 = .ok (.return_, 1) := by decide +kernel
theorem dX10_undo_0 : decode cX10_undo 0 = .ok (.aload_n 0, 1) := by decide +kernel
theorem dX10_undo_1 : decode cX10_undo 1 = .ok (.getfield 121, 3) := by decide +kernel
theorem dX10_undo_4 : decode cX10_undo 4 = .ok (.ifCond .ne 6, 3) := by decide +kernel
theorem dX10_undo_7 : decode cX10_undo 7 = .ok (.ldc 144, 2) := by decide +kernel
theorem dX10_undo_9 : decode cX10_undo 9 = .ok (.ireturn, 1) := by decide +kernel
theorem dX10_undo_10 : decode cX10_undo 10 = .ok (.aload_n 0, 1) := by decide +kernel
theorem dX10_undo_11 : decode cX10_undo 11 = .ok (.dup, 1) := by decide +kernel
theorem dX10_undo_12 : decode cX10_undo 12 = .ok (.getfield 121, 3) := by decide +kernel
theorem dX10_undo_15 : decode cX10_undo 15 = .ok (.iconst 1, 1) := by decide +kernel
theorem dX10_undo_16 : decode cX10_undo 16 = .ok (.isub, 1) := by decide +kernel
theorem dX10_undo_17 : decode cX10_undo 17 = .ok (.putfield 121, 3) := by decide +kernel
theorem dX10_undo_20 : decode cX10_undo 20 = .ok (.iconst 0, 1) := by decide +kernel
theorem dX10_undo_21 : decode cX10_undo 21 = .ok (.istore_n 1, 1) := by decide +kernel
theorem dX10_undo_22 : decode cX10_undo 22 = .ok (.iload_n 1, 1) := by decide +kernel
theorem dX10_undo_23 : decode cX10_undo 23 = .ok (.bipush 45, 2) := by decide +kernel
theorem dX10_undo_25 : decode cX10_undo 25 = .ok (.if_icmp .ge 29, 3) := by decide +kernel
theorem dX10_undo_28 : decode cX10_undo 28 = .ok (.aload_n 0, 1) := by decide +kernel
theorem dX10_undo_29 : decode cX10_undo 29 = .ok (.getfield 22, 3) := by decide +kernel
theorem dX10_undo_32 : decode cX10_undo 32 = .ok (.iload_n 1, 1) := by decide +kernel
theorem dX10_undo_33 : decode cX10_undo 33 = .ok (.aload_n 0, 1) := by decide +kernel
theorem dX10_undo_34 : decode cX10_undo 34 = .ok (.getfield 31, 3) := by decide +kernel
theorem dX10_undo_37 : decode cX10_undo 37 = .ok (.bipush 45, 2) := by decide +kernel
theorem dX10_undo_39 : decode cX10_undo 39 = .ok (.aload_n 0, 1) := by decide +kernel
theorem dX10_undo_40 : decode cX10_undo 40 = .ok (.getfield 121, 3) := by decide +kernel
theorem dX10_undo_43 : decode cX10_undo 43 = .ok (.imul, 1) := by decide +kernel
theorem dX10_undo_44 : decode cX10_undo 44 = .ok (.iload_n 1, 1) := by decide +kernel
theorem dX10_undo_45 : decode cX10_undo 45 = .ok (.iadd, 1) := by decide +kernel
theorem dX10_undo_46 : decode cX10_undo 46 = .ok (.iaload, 1) := by decide +kernel
theorem dX10_undo_47 : decode cX10_undo 47 = .ok (.iastore, 1) := by decide +kernel
theorem dX10_undo_48 : decode cX10_undo 48 = .ok (.iinc 1 1, 3) := by decide +kernel
theorem dX10_undo_51 : decode cX10_undo 51 = .ok (.goto (-29), 3) := by decide +kernel
theorem dX10_undo_54 : decode cX10_undo 54 = .ok (.aload_n 0, 1) := by decide +kernel
theorem dX10_undo_55 : decode cX10_undo 55 = .ok (.getfield 121, 3) := by decide +kernel
theorem dX10_undo_58 : decode cX10_undo 58 = .ok (.ireturn, 1) := by decide +kernel
theorem dX10_days_0 : decode cX10_days 0 = .ok (.aload_n 0, 1) := by decide +kernel
theorem dX10_days_1 : decode cX10_days 1 = .ok (.getfield 117, 3) := by decide +kernel
theorem dX10_days_4 : decode cX10_days 4 = .ok (.ifCond .ne 6, 3) := by decide +kernel
theorem dX10_days_7 : decode cX10_days 7 = .ok (.ldc 144, 2) := by decide +kernel
theorem dX10_days_9 : decode cX10_days 9 = .ok (.ireturn, 1) := by decide +kernel
theorem dX10_days_10 : decode cX10_days 10 = .ok (.iload_n 1, 1) := by decide +kernel
theorem dX10_days_11 : decode cX10_days 11 = .ok (.i2l, 1) := by decide +kernel
theorem dX10_days_12 : decode cX10_days 12 = .ok (.lconst 1, 1) := by decide +kernel
theorem dX10_days_13 : decode cX10_days 13 = .ok (.ldc2_w 145, 3) := by decide +kernel
theorem dX10_days_16 : decode cX10_days 16 = .ok (.invokestatic 50, 3) := by decide +kernel
theorem dX10_days_19 : decode cX10_days 19 = .ok (.ifCond .ne 6, 3) := by decide +kernel
theorem dX10_days_22 : decode cX10_days 22 = .ok (.ldc 60, 2) := by decide +kernel
theorem dX10_days_24 : decode cX10_days 24 = .ok (.ireturn, 1) := by decide +kernel
theorem dX10_days_25 : decode cX10_days 25 = .ok (.aload_n 0, 1) := by decide +kernel
theorem dX10_days_26 : decode cX10_days 26 = .ok (.getfield 22, 3) := by decide +kernel
theorem dX10_days_29 : decode cX10_days 29 = .ok (.iconst 3, 1) := by decide +kernel
theorem dX10_days_30 : decode cX10_days 30 = .ok (.iaload, 1) := by decide +kernel
theorem dX10_days_31 : decode cX10_days 31 = .ok (.iload_n 1, 1) := by decide +kernel
theorem dX10_days_32 : decode cX10_days 32 = .ok (.iadd, 1) := by decide +kernel
theorem dX10_days_33 : decode cX10_days 33 = .ok (.sipush 999, 3) := by decide +kernel
theorem dX10_days_36 : decode cX10_days 36 = .ok (.if_icmp .le 6, 3) := by decide +kernel
theorem dX10_days_39 : decode cX10_days 39 = .ok (.ldc 77, 2) := by decide +kernel
theorem dX10_days_41 : decode cX10_days 41 = .ok (.ireturn, 1) := by decide +kernel
theorem dX10_days_42 : decode cX10_days 42 = .ok (.aload_n 0, 1) := by decide +kernel
theorem dX10_days_43 : decode cX10_days 43 = .ok (.invokevirtual 147, 3) := by decide +kernel
theorem dX10_days_46 : decode cX10_days 46 = .ok (.istore_n 2, 1) := by decide +kernel
theorem dX10_days_47 : decode cX10_days 47 = .ok (.iconst 0, 1) := by decide +kernel
theorem dX10_days_48 : decode cX10_days 48 = .ok (.istore_n 3, 1) := by decide +kernel
theorem dX10_days_49 : decode cX10_days 49 = .ok (.iload_n 3, 1) := by decide +kernel
theorem dX10_days_50 : decode cX10_days 50 = .ok (.iload_n 1, 1) := by decide +kernel
theorem dX10_days_51 : decode cX10_days 51 = .ok (.if_icmp .ge 17, 3) := by decide +kernel
theorem dX10_days_54 : decode cX10_days 54 = .ok (.aload_n 0, 1) := by decide +kernel
theorem dX10_days_55 : decode cX10_days 55 = .ok (.invokevirtual 150, 3) := by decide +kernel
theorem dX10_days_58 : decode cX10_days 58 = .ok (.aload_n 0, 1) := by decide +kernel
theorem dX10_days_59 : decode cX10_days 59 = .ok (.invokevirtual 153, 3) := by decide +kernel
theorem dX10_days_62 : decode cX10_days 62 = .ok (.iinc 3 1, 3) := by decide +kernel
theorem dX10_days_65 : decode cX10_days 65 = .ok (.goto (-16), 3) := by decide +kernel
theorem dX10_days_68 : decode cX10_days 68 = .ok (.aload_n 0, 1) := by decide +kernel
theorem dX10_days_69 : decode cX10_days 69 = .ok (.invokevirtual 147, 3) := by decide +kernel
theorem dX10_days_72 : decode cX10_days 72 = .ok (.iload_n 2, 1) := by decide +kernel
theorem dX10_days_73 : decode cX10_days 73 = .ok (.isub, 1) := by decide +kernel
theorem dX10_days_74 : decode cX10_days 74 = .ok (.ireturn, 1) := by decide +kernel
theorem dX10_wind_0 : decode cX10_wind 0 = .ok (.aload_n 0, 1) := by decide +kernel
theorem dX10_wind_1 : decode cX10_wind 1 = .ok (.getfield 117, 3) := by decide +kernel
theorem dX10_wind_4 : decode cX10_wind 4 = .ok (.ifCond .ne 6, 3) := by decide +kernel
theorem dX10_wind_7 : decode cX10_wind 7 = .ok (.ldc 144, 2) := by decide +kernel
theorem dX10_wind_9 : decode cX10_wind 9 = .ok (.ireturn, 1) := by decide +kernel
theorem dX10_wind_10 : decode cX10_wind 10 = .ok (.iload_n 1, 1) := by decide +kernel
theorem dX10_wind_11 : decode cX10_wind 11 = .ok (.i2l, 1) := by decide +kernel
theorem dX10_wind_12 : decode cX10_wind 12 = .ok (.lconst 0, 1) := by decide +kernel
theorem dX10_wind_13 : decode cX10_wind 13 = .ok (.ldc2_w 124, 3) := by decide +kernel
theorem dX10_wind_16 : decode cX10_wind 16 = .ok (.invokestatic 50, 3) := by decide +kernel
theorem dX10_wind_19 : decode cX10_wind 19 = .ok (.ifCond .ne 6, 3) := by decide +kernel
theorem dX10_wind_22 : decode cX10_wind 22 = .ok (.ldc 60, 2) := by decide +kernel
theorem dX10_wind_24 : decode cX10_wind 24 = .ok (.ireturn, 1) := by decide +kernel
theorem dX10_wind_25 : decode cX10_wind 25 = .ok (.aload_n 0, 1) := by decide +kernel
theorem dX10_wind_26 : decode cX10_wind 26 = .ok (.invokevirtual 150, 3) := by decide +kernel
theorem dX10_wind_29 : decode cX10_wind 29 = .ok (.aload_n 0, 1) := by decide +kernel
theorem dX10_wind_30 : decode cX10_wind 30 = .ok (.getfield 22, 3) := by decide +kernel
theorem dX10_wind_33 : decode cX10_wind 33 = .ok (.iconst 1, 1) := by decide +kernel
theorem dX10_wind_34 : decode cX10_wind 34 = .ok (.iaload, 1) := by decide +kernel
theorem dX10_wind_35 : decode cX10_wind 35 = .ok (.istore_n 2, 1) := by decide +kernel
theorem dX10_wind_36 : decode cX10_wind 36 = .ok (.aload_n 0, 1) := by decide +kernel
theorem dX10_wind_37 : decode cX10_wind 37 = .ok (.getfield 22, 3) := by decide +kernel
theorem dX10_wind_40 : decode cX10_wind 40 = .ok (.iconst 1, 1) := by decide +kernel
theorem dX10_wind_41 : decode cX10_wind 41 = .ok (.iload_n 1, 1) := by decide +kernel
theorem dX10_wind_42 : decode cX10_wind 42 = .ok (.iastore, 1) := by decide +kernel
theorem dX10_wind_43 : decode cX10_wind 43 = .ok (.iload_n 2, 1) := by decide +kernel
theorem dX10_wind_44 : decode cX10_wind 44 = .ok (.ireturn, 1) := by decide +kernel
theorem dX10_tow_0 : decode cX10_tow 0 = .ok (.aload_n 0, 1) := by decide +kernel
theorem dX10_tow_1 : decode cX10_tow 1 = .ok (.iload_n 1, 1) := by decide +kernel
theorem dX10_tow_2 : decode cX10_tow 2 = .ok (.invokevirtual 156, 3) := by decide +kernel
theorem dX10_tow_5 : decode cX10_tow 5 = .ok (.ifCond .eq 15, 3) := by decide +kernel
theorem dX10_tow_8 : decode cX10_tow 8 = .ok (.iload_n 2, 1) := by decide +kernel
theorem dX10_tow_9 : decode cX10_tow 9 = .ok (.i2l, 1) := by decide +kernel
theorem dX10_tow_10 : decode cX10_tow 10 = .ok (.lconst 1, 1) := by decide +kernel
theorem dX10_tow_11 : decode cX10_tow 11 = .ok (.ldc2_w 124, 3) := by decide +kernel
theorem dX10_tow_14 : decode cX10_tow 14 = .ok (.invokestatic 50, 3) := by decide +kernel
theorem dX10_tow_17 : decode cX10_tow 17 = .ok (.ifCond .ne 6, 3) := by decide +kernel
theorem dX10_tow_20 : decode cX10_tow 20 = .ok (.ldc 60, 2) := by decide +kernel
theorem dX10_tow_22 : decode cX10_tow 22 = .ok (.ireturn, 1) := by decide +kernel
theorem dX10_tow_23 : decode cX10_tow 23 = .ok (.aload_n 0, 1) := by decide +kernel
theorem dX10_tow_24 : decode cX10_tow 24 = .ok (.iload_n 1, 1) := by decide +kernel
theorem dX10_tow_25 : decode cX10_tow 25 = .ok (.invokevirtual 129, 3) := by decide +kernel
theorem dX10_tow_28 : decode cX10_tow 28 = .ok (.ifCond .eq 6, 3) := by decide +kernel
theorem dX10_tow_31 : decode cX10_tow 31 = .ok (.ldc 144, 2) := by decide +kernel
theorem dX10_tow_33 : decode cX10_tow 33 = .ok (.ireturn, 1) := by decide +kernel
theorem dX10_tow_34 : decode cX10_tow 34 = .ok (.aload_n 0, 1) := by decide +kernel
theorem dX10_tow_35 : decode cX10_tow 35 = .ok (.invokevirtual 150, 3) := by decide +kernel
theorem dX10_tow_38 : decode cX10_tow 38 = .ok (.iconst 4, 1) := by decide +kernel
theorem dX10_tow_39 : decode cX10_tow 39 = .ok (.iconst 5, 1) := by decide +kernel
theorem dX10_tow_40 : decode cX10_tow 40 = .ok (.iload_n 1, 1) := by decide +kernel
theorem dX10_tow_41 : decode cX10_tow 41 = .ok (.imul, 1) := by decide +kernel
theorem dX10_tow_42 : decode cX10_tow 42 = .ok (.iadd, 1) := by decide +kernel
theorem dX10_tow_43 : decode cX10_tow 43 = .ok (.iconst 1, 1) := by decide +kernel
theorem dX10_tow_44 : decode cX10_tow 44 = .ok (.iadd, 1) := by decide +kernel
theorem dX10_tow_45 : decode cX10_tow 45 = .ok (.istore_n 3, 1) := by decide +kernel
theorem dX10_tow_46 : decode cX10_tow 46 = .ok (.aload_n 0, 1) := by decide +kernel
theorem dX10_tow_47 : decode cX10_tow 47 = .ok (.getfield 22, 3) := by decide +kernel
theorem dX10_tow_50 : decode cX10_tow 50 = .ok (.iload_n 3, 1) := by decide +kernel
theorem dX10_tow_51 : decode cX10_tow 51 = .ok (.aload_n 0, 1) := by decide +kernel
theorem dX10_tow_52 : decode cX10_tow 52 = .ok (.getfield 22, 3) := by decide +kernel
theorem dX10_tow_55 : decode cX10_tow 55 = .ok (.iload_n 3, 1) := by decide +kernel
theorem dX10_tow_56 : decode cX10_tow 56 = .ok (.iaload, 1) := by decide +kernel
theorem dX10_tow_57 : decode cX10_tow 57 = .ok (.iload_n 2, 1) := by decide +kernel
theorem dX10_tow_58 : decode cX10_tow 58 = .ok (.iadd, 1) := by decide +kernel
theorem dX10_tow_59 : decode cX10_tow 59 = .ok (.bipush 16, 2) := by decide +kernel
theorem dX10_tow_61 : decode cX10_tow 61 = .ok (.irem, 1) := by decide +kernel
theorem dX10_tow_62 : decode cX10_tow 62 = .ok (.iastore, 1) := by decide +kernel
theorem dX10_tow_63 : decode cX10_tow 63 = .ok (.aload_n 0, 1) := by decide +kernel
theorem dX10_tow_64 : decode cX10_tow 64 = .ok (.getfield 22, 3) := by decide +kernel
theorem dX10_tow_67 : decode cX10_tow 67 = .ok (.iload_n 3, 1) := by decide +kernel
theorem dX10_tow_68 : decode cX10_tow 68 = .ok (.iaload, 1) := by decide +kernel
theorem dX10_tow_69 : decode cX10_tow 69 = .ok (.ireturn, 1) := by decide +kernel
theorem dX10_silk_0 : decode cX10_silk 0 = .ok (.aload_n 0, 1) := by decide +kernel
theorem dX10_silk_1 : decode cX10_silk 1 = .ok (.iload_n 1, 1) := by decide +kernel
theorem dX10_silk_2 : decode cX10_silk 2 = .ok (.invokevirtual 156, 3) := by decide +kernel
theorem dX10_silk_5 : decode cX10_silk 5 = .ok (.ifCond .ne 6, 3) := by decide +kernel
theorem dX10_silk_8 : decode cX10_silk 8 = .ok (.ldc 60, 2) := by decide +kernel
theorem dX10_silk_10 : decode cX10_silk 10 = .ok (.ireturn, 1) := by decide +kernel
theorem dX10_silk_11 : decode cX10_silk 11 = .ok (.iconst 4, 1) := by decide +kernel
theorem dX10_silk_12 : decode cX10_silk 12 = .ok (.iconst 5, 1) := by decide +kernel
theorem dX10_silk_13 : decode cX10_silk 13 = .ok (.iload_n 1, 1) := by decide +kernel
theorem dX10_silk_14 : decode cX10_silk 14 = .ok (.imul, 1) := by decide +kernel
theorem dX10_silk_15 : decode cX10_silk 15 = .ok (.iadd, 1) := by decide +kernel
theorem dX10_silk_16 : decode cX10_silk 16 = .ok (.iconst 3, 1) := by decide +kernel
theorem dX10_silk_17 : decode cX10_silk 17 = .ok (.iadd, 1) := by decide +kernel
theorem dX10_silk_18 : decode cX10_silk 18 = .ok (.istore_n 2, 1) := by decide +kernel
theorem dX10_silk_19 : decode cX10_silk 19 = .ok (.aload_n 0, 1) := by decide +kernel
theorem dX10_silk_20 : decode cX10_silk 20 = .ok (.getfield 22, 3) := by decide +kernel
theorem dX10_silk_23 : decode cX10_silk 23 = .ok (.iload_n 2, 1) := by decide +kernel
theorem dX10_silk_24 : decode cX10_silk 24 = .ok (.iaload, 1) := by decide +kernel
theorem dX10_silk_25 : decode cX10_silk 25 = .ok (.aload_n 0, 1) := by decide +kernel
theorem dX10_silk_26 : decode cX10_silk 26 = .ok (.getfield 22, 3) := by decide +kernel
theorem dX10_silk_29 : decode cX10_silk 29 = .ok (.iconst 2, 1) := by decide +kernel
theorem dX10_silk_30 : decode cX10_silk 30 = .ok (.iaload, 1) := by decide +kernel
theorem dX10_silk_31 : decode cX10_silk 31 = .ok (.iadd, 1) := by decide +kernel
theorem dX10_silk_32 : decode cX10_silk 32 = .ok (.bipush 99, 2) := by decide +kernel
theorem dX10_silk_34 : decode cX10_silk 34 = .ok (.if_icmp .le 6, 3) := by decide +kernel
theorem dX10_silk_37 : decode cX10_silk 37 = .ok (.ldc 77, 2) := by decide +kernel
theorem dX10_silk_39 : decode cX10_silk 39 = .ok (.ireturn, 1) := by decide +kernel
theorem dX10_silk_40 : decode cX10_silk 40 = .ok (.aload_n 0, 1) := by decide +kernel
theorem dX10_silk_41 : decode cX10_silk 41 = .ok (.invokevirtual 150, 3) := by decide +kernel
theorem dX10_silk_44 : decode cX10_silk 44 = .ok (.aload_n 0, 1) := by decide +kernel
theorem dX10_silk_45 : decode cX10_silk 45 = .ok (.getfield 22, 3) := by decide +kernel
theorem dX10_silk_48 : decode cX10_silk 48 = .ok (.iload_n 2, 1) := by decide +kernel
theorem dX10_silk_49 : decode cX10_silk 49 = .ok (.dup2, 1) := by decide +kernel
theorem dX10_silk_50 : decode cX10_silk 50 = .ok (.iaload, 1) := by decide +kernel
theorem dX10_silk_51 : decode cX10_silk 51 = .ok (.aload_n 0, 1) := by decide +kernel
theorem dX10_silk_52 : decode cX10_silk 52 = .ok (.getfield 22, 3) := by decide +kernel
theorem dX10_silk_55 : decode cX10_silk 55 = .ok (.iconst 2, 1) := by decide +kernel
theorem dX10_silk_56 : decode cX10_silk 56 = .ok (.iaload, 1) := by decide +kernel
theorem dX10_silk_57 : decode cX10_silk 57 = .ok (.iadd, 1) := by decide +kernel
theorem dX10_silk_58 : decode cX10_silk 58 = .ok (.iastore, 1) := by decide +kernel
theorem dX10_silk_59 : decode cX10_silk 59 = .ok (.aload_n 0, 1) := by decide +kernel
theorem dX10_silk_60 : decode cX10_silk 60 = .ok (.getfield 22, 3) := by decide +kernel
theorem dX10_silk_63 : decode cX10_silk 63 = .ok (.iload_n 2, 1) := by decide +kernel
theorem dX10_silk_64 : decode cX10_silk 64 = .ok (.iaload, 1) := by decide +kernel
theorem dX10_silk_65 : decode cX10_silk 65 = .ok (.ireturn, 1) := by decide +kernel
theorem dX10_sign_0 : decode cX10_sign 0 = .ok (.aload_n 0, 1) := by decide +kernel
theorem dX10_sign_1 : decode cX10_sign 1 = .ok (.iload_n 1, 1) := by decide +kernel
theorem dX10_sign_2 : decode cX10_sign 2 = .ok (.invokevirtual 156, 3) := by decide +kernel
theorem dX10_sign_5 : decode cX10_sign 5 = .ok (.ifCond .eq 15, 3) := by decide +kernel
theorem dX10_sign_8 : decode cX10_sign 8 = .ok (.iload_n 2, 1) := by decide +kernel
theorem dX10_sign_9 : decode cX10_sign 9 = .ok (.i2l, 1) := by decide +kernel
theorem dX10_sign_10 : decode cX10_sign 10 = .ok (.lconst 0, 1) := by decide +kernel
theorem dX10_sign_11 : decode cX10_sign 11 = .ok (.ldc2_w 159, 3) := by decide +kernel
theorem dX10_sign_14 : decode cX10_sign 14 = .ok (.invokestatic 50, 3) := by decide +kernel
theorem dX10_sign_17 : decode cX10_sign 17 = .ok (.ifCond .ne 6, 3) := by decide +kernel
theorem dX10_sign_20 : decode cX10_sign 20 = .ok (.ldc 60, 2) := by decide +kernel
theorem dX10_sign_22 : decode cX10_sign 22 = .ok (.ireturn, 1) := by decide +kernel
theorem dX10_sign_23 : decode cX10_sign 23 = .ok (.aload_n 0, 1) := by decide +kernel
theorem dX10_sign_24 : decode cX10_sign 24 = .ok (.invokevirtual 150, 3) := by decide +kernel
theorem dX10_sign_27 : decode cX10_sign 27 = .ok (.iconst 4, 1) := by decide +kernel
theorem dX10_sign_28 : decode cX10_sign 28 = .ok (.iconst 5, 1) := by decide +kernel
theorem dX10_sign_29 : decode cX10_sign 29 = .ok (.iload_n 1, 1) := by decide +kernel
theorem dX10_sign_30 : decode cX10_sign 30 = .ok (.imul, 1) := by decide +kernel
theorem dX10_sign_31 : decode cX10_sign 31 = .ok (.iadd, 1) := by decide +kernel
theorem dX10_sign_32 : decode cX10_sign 32 = .ok (.iconst 4, 1) := by decide +kernel
theorem dX10_sign_33 : decode cX10_sign 33 = .ok (.iadd, 1) := by decide +kernel
theorem dX10_sign_34 : decode cX10_sign 34 = .ok (.istore_n 3, 1) := by decide +kernel
theorem dX10_sign_35 : decode cX10_sign 35 = .ok (.aload_n 0, 1) := by decide +kernel
theorem dX10_sign_36 : decode cX10_sign 36 = .ok (.getfield 22, 3) := by decide +kernel
theorem dX10_sign_39 : decode cX10_sign 39 = .ok (.iload_n 3, 1) := by decide +kernel
theorem dX10_sign_40 : decode cX10_sign 40 = .ok (.iaload, 1) := by decide +kernel
theorem dX10_sign_41 : decode cX10_sign 41 = .ok (.istore 4, 2) := by decide +kernel
theorem dX10_sign_43 : decode cX10_sign 43 = .ok (.aload_n 0, 1) := by decide +kernel
theorem dX10_sign_44 : decode cX10_sign 44 = .ok (.getfield 22, 3) := by decide +kernel
theorem dX10_sign_47 : decode cX10_sign 47 = .ok (.iload_n 3, 1) := by decide +kernel
theorem dX10_sign_48 : decode cX10_sign 48 = .ok (.iload_n 2, 1) := by decide +kernel
theorem dX10_sign_49 : decode cX10_sign 49 = .ok (.iastore, 1) := by decide +kernel
theorem dX10_sign_50 : decode cX10_sign 50 = .ok (.iload 4, 2) := by decide +kernel
theorem dX10_sign_52 : decode cX10_sign 52 = .ok (.ireturn, 1) := by decide +kernel
theorem dX10_cloud_0 : decode cX10_cloud 0 = .ok (.aload_n 0, 1) := by decide +kernel
theorem dX10_cloud_1 : decode cX10_cloud 1 = .ok (.iload_n 1, 1) := by decide +kernel
theorem dX10_cloud_2 : decode cX10_cloud 2 = .ok (.invokevirtual 156, 3) := by decide +kernel
theorem dX10_cloud_5 : decode cX10_cloud 5 = .ok (.ifCond .eq 15, 3) := by decide +kernel
theorem dX10_cloud_8 : decode cX10_cloud 8 = .ok (.iload_n 2, 1) := by decide +kernel
theorem dX10_cloud_9 : decode cX10_cloud 9 = .ok (.i2l, 1) := by decide +kernel
theorem dX10_cloud_10 : decode cX10_cloud 10 = .ok (.lconst 0, 1) := by decide +kernel
theorem dX10_cloud_11 : decode cX10_cloud 11 = .ok (.ldc2_w 161, 3) := by decide +kernel
theorem dX10_cloud_14 : decode cX10_cloud 14 = .ok (.invokestatic 50, 3) := by decide +kernel
theorem dX10_cloud_17 : decode cX10_cloud 17 = .ok (.ifCond .ne 6, 3) := by decide +kernel
theorem dX10_cloud_20 : decode cX10_cloud 20 = .ok (.ldc 60, 2) := by decide +kernel
theorem dX10_cloud_22 : decode cX10_cloud 22 = .ok (.ireturn, 1) := by decide +kernel
theorem dX10_cloud_23 : decode cX10_cloud 23 = .ok (.iload_n 2, 1) := by decide +kernel
theorem dX10_cloud_24 : decode cX10_cloud 24 = .ok (.iconst 4, 1) := by decide +kernel
theorem dX10_cloud_25 : decode cX10_cloud 25 = .ok (.if_icmp .ge 14, 3) := by decide +kernel
theorem dX10_cloud_28 : decode cX10_cloud 28 = .ok (.aload_n 0, 1) := by decide +kernel
theorem dX10_cloud_29 : decode cX10_cloud 29 = .ok (.iload_n 1, 1) := by decide +kernel
theorem dX10_cloud_30 : decode cX10_cloud 30 = .ok (.iload_n 2, 1) := by decide +kernel
theorem dX10_cloud_31 : decode cX10_cloud 31 = .ok (.iconst 1, 1) := by decide +kernel
theorem dX10_cloud_32 : decode cX10_cloud 32 = .ok (.iadd, 1) := by decide +kernel
theorem dX10_cloud_33 : decode cX10_cloud 33 = .ok (.invokevirtual 126, 3) := by decide +kernel
theorem dX10_cloud_36 : decode cX10_cloud 36 = .ok (.goto 34, 3) := by decide +kernel
theorem dX10_cloud_39 : decode cX10_cloud 39 = .ok (.iload_n 2, 1) := by decide +kernel
theorem dX10_cloud_40 : decode cX10_cloud 40 = .ok (.iconst 4, 1) := by decide +kernel
theorem dX10_cloud_41 : decode cX10_cloud 41 = .ok (.if_icmp .ne 11, 3) := by decide +kernel
theorem dX10_cloud_44 : decode cX10_cloud 44 = .ok (.aload_n 0, 1) := by decide +kernel
theorem dX10_cloud_45 : decode cX10_cloud 45 = .ok (.iload_n 1, 1) := by decide +kernel
theorem dX10_cloud_46 : decode cX10_cloud 46 = .ok (.invokevirtual 132, 3) := by decide +kernel
theorem dX10_cloud_49 : decode cX10_cloud 49 = .ok (.goto 21, 3) := by decide +kernel
theorem dX10_cloud_52 : decode cX10_cloud 52 = .ok (.aload_n 0, 1) := by decide +kernel
theorem dX10_cloud_53 : decode cX10_cloud 53 = .ok (.iload_n 1, 1) := by decide +kernel
theorem dX10_cloud_54 : decode cX10_cloud 54 = .ok (.iconst 2, 1) := by decide +kernel
theorem dX10_cloud_55 : decode cX10_cloud 55 = .ok (.invokevirtual 126, 3) := by decide +kernel
theorem dX10_cloud_58 : decode cX10_cloud 58 = .ok (.aload_n 0, 1) := by decide +kernel
theorem dX10_cloud_59 : decode cX10_cloud 59 = .ok (.iload_n 1, 1) := by decide +kernel
theorem dX10_cloud_60 : decode cX10_cloud 60 = .ok (.aload_n 0, 1) := by decide +kernel
theorem dX10_cloud_61 : decode cX10_cloud 61 = .ok (.getfield 22, 3) := by decide +kernel
theorem dX10_cloud_64 : decode cX10_cloud 64 = .ok (.iconst 3, 1) := by decide +kernel
theorem dX10_cloud_65 : decode cX10_cloud 65 = .ok (.iaload, 1) := by decide +kernel
theorem dX10_cloud_66 : decode cX10_cloud 66 = .ok (.invokevirtual 135, 3) := by decide +kernel
theorem dX10_cloud_69 : decode cX10_cloud 69 = .ok (.imul, 1) := by decide +kernel
theorem dX10_cloud_70 : decode cX10_cloud 70 = .ok (.ireturn, 1) := by decide +kernel
theorem dX10_field_0 : decode cX10_field 0 = .ok (.aload_n 0, 1) := by decide +kernel
theorem dX10_field_1 : decode cX10_field 1 = .ok (.getfield 117, 3) := by decide +kernel
theorem dX10_field_4 : decode cX10_field 4 = .ok (.ifCond .ne 6, 3) := by decide +kernel
theorem dX10_field_7 : decode cX10_field 7 = .ok (.ldc 144, 2) := by decide +kernel
theorem dX10_field_9 : decode cX10_field 9 = .ok (.ireturn, 1) := by decide +kernel
theorem dX10_field_10 : decode cX10_field 10 = .ok (.iload_n 1, 1) := by decide +kernel
theorem dX10_field_11 : decode cX10_field 11 = .ok (.invokestatic 163, 3) := by decide +kernel
theorem dX10_field_14 : decode cX10_field 14 = .ok (.ifCond .eq 13, 3) := by decide +kernel
theorem dX10_field_17 : decode cX10_field 17 = .ok (.iload_n 2, 1) := by decide +kernel
theorem dX10_field_18 : decode cX10_field 18 = .ok (.i2l, 1) := by decide +kernel
theorem dX10_field_19 : decode cX10_field 19 = .ok (.lconst 0, 1) := by decide +kernel
theorem dX10_field_20 : decode cX10_field 20 = .ok (.lconst 1, 1) := by decide +kernel
theorem dX10_field_21 : decode cX10_field 21 = .ok (.invokestatic 50, 3) := by decide +kernel
theorem dX10_field_24 : decode cX10_field 24 = .ok (.ifCond .ne 6, 3) := by decide +kernel
theorem dX10_field_27 : decode cX10_field 27 = .ok (.ldc 60, 2) := by decide +kernel
theorem dX10_field_29 : decode cX10_field 29 = .ok (.ireturn, 1) := by decide +kernel
theorem dX10_field_30 : decode cX10_field 30 = .ok (.iload_n 2, 1) := by decide +kernel
theorem dX10_field_31 : decode cX10_field 31 = .ok (.ifCond .ne 15, 3) := by decide +kernel
theorem dX10_field_34 : decode cX10_field 34 = .ok (.aload_n 0, 1) := by decide +kernel
theorem dX10_field_35 : decode cX10_field 35 = .ok (.getfield 22, 3) := by decide +kernel
theorem dX10_field_38 : decode cX10_field 38 = .ok (.bipush 29, 2) := by decide +kernel
theorem dX10_field_40 : decode cX10_field 40 = .ok (.iload_n 1, 1) := by decide +kernel
theorem dX10_field_41 : decode cX10_field 41 = .ok (.iadd, 1) := by decide +kernel
theorem dX10_field_42 : decode cX10_field 42 = .ok (.iaload, 1) := by decide +kernel
theorem dX10_field_43 : decode cX10_field 43 = .ok (.goto 8, 3) := by decide +kernel
theorem dX10_field_46 : decode cX10_field 46 = .ok (.aload_n 0, 1) := by decide +kernel
theorem dX10_field_47 : decode cX10_field 47 = .ok (.iload_n 1, 1) := by decide +kernel
theorem dX10_field_48 : decode cX10_field 48 = .ok (.invokevirtual 166, 3) := by decide +kernel
theorem dX10_field_51 : decode cX10_field 51 = .ok (.ireturn, 1) := by decide +kernel
theorem dX10_asides_0 : decode cX10_asides 0 = .ok (.iconst 0, 1) := by decide +kernel
theorem dX10_asides_1 : decode cX10_asides 1 = .ok (.istore_n 1, 1) := by decide +kernel
theorem dX10_asides_2 : decode cX10_asides 2 = .ok (.iload_n 1, 1) := by decide +kernel
theorem dX10_asides_3 : decode cX10_asides 3 = .ok (.bipush 45, 2) := by decide +kernel
theorem dX10_asides_5 : decode cX10_asides 5 = .ok (.if_icmp .ge 21, 3) := by decide +kernel
theorem dX10_asides_8 : decode cX10_asides 8 = .ok (.aload_n 0, 1) := by decide +kernel
theorem dX10_asides_9 : decode cX10_asides 9 = .ok (.getfield 34, 3) := by decide +kernel
theorem dX10_asides_12 : decode cX10_asides 12 = .ok (.iload_n 1, 1) := by decide +kernel
theorem dX10_asides_13 : decode cX10_asides 13 = .ok (.aload_n 0, 1) := by decide +kernel
theorem dX10_asides_14 : decode cX10_asides 14 = .ok (.getfield 22, 3) := by decide +kernel
theorem dX10_asides_17 : decode cX10_asides 17 = .ok (.iload_n 1, 1) := by decide +kernel
theorem dX10_asides_18 : decode cX10_asides 18 = .ok (.iaload, 1) := by decide +kernel
theorem dX10_asides_19 : decode cX10_asides 19 = .ok (.iastore, 1) := by decide +kernel
theorem dX10_asides_20 : decode cX10_asides 20 = .ok (.iinc 1 1, 3) := by decide +kernel
theorem dX10_asides_23 : decode cX10_asides 23 = .ok (.goto (-21), 3) := by decide +kernel
theorem dX10_asides_26 : decode cX10_asides 26 = .ok (.return_, 1) := by decide +kernel
theorem dX10_backs_0 : decode cX10_backs 0 = .ok (.iconst 0, 1) := by decide +kernel
theorem dX10_backs_1 : decode cX10_backs 1 = .ok (.istore_n 1, 1) := by decide +kernel
theorem dX10_backs_2 : decode cX10_backs 2 = .ok (.iload_n 1, 1) := by decide +kernel
theorem dX10_backs_3 : decode cX10_backs 3 = .ok (.bipush 45, 2) := by decide +kernel
theorem dX10_backs_5 : decode cX10_backs 5 = .ok (.if_icmp .ge 21, 3) := by decide +kernel
theorem dX10_backs_8 : decode cX10_backs 8 = .ok (.aload_n 0, 1) := by decide +kernel
theorem dX10_backs_9 : decode cX10_backs 9 = .ok (.getfield 22, 3) := by decide +kernel
theorem dX10_backs_12 : decode cX10_backs 12 = .ok (.iload_n 1, 1) := by decide +kernel
theorem dX10_backs_13 : decode cX10_backs 13 = .ok (.aload_n 0, 1) := by decide +kernel
theorem dX10_backs_14 : decode cX10_backs 14 = .ok (.getfield 34, 3) := by decide +kernel
theorem dX10_backs_17 : decode cX10_backs 17 = .ok (.iload_n 1, 1) := by decide +kernel
theorem dX10_backs_18 : decode cX10_backs 18 = .ok (.iaload, 1) := by decide +kernel
theorem dX10_backs_19 : decode cX10_backs 19 = .ok (.iastore, 1) := by decide +kernel
theorem dX10_backs_20 : decode cX10_backs 20 = .ok (.iinc 1 1, 3) := by decide +kernel
theorem dX10_backs_23 : decode cX10_backs 23 = .ok (.goto (-21), 3) := by decide +kernel
theorem dX10_backs_26 : decode cX10_backs 26 = .ok (.return_, 1) := by decide +kernel
theorem dX10_goes_0 : decode cX10_goes 0 = .ok (.iconst 0, 1) := by decide +kernel
theorem dX10_goes_1 : decode cX10_goes 1 = .ok (.istore_n 2, 1) := by decide +kernel
theorem dX10_goes_2 : decode cX10_goes 2 = .ok (.iload_n 2, 1) := by decide +kernel
theorem dX10_goes_3 : decode cX10_goes 3 = .ok (.iload_n 1, 1) := by decide +kernel
theorem dX10_goes_4 : decode cX10_goes 4 = .ok (.if_icmp .ge 13, 3) := by decide +kernel
theorem dX10_goes_7 : decode cX10_goes 7 = .ok (.aload_n 0, 1) := by decide +kernel
theorem dX10_goes_8 : decode cX10_goes 8 = .ok (.invokevirtual 153, 3) := by decide +kernel
theorem dX10_goes_11 : decode cX10_goes 11 = .ok (.iinc 2 1, 3) := by decide +kernel
theorem dX10_goes_14 : decode cX10_goes 14 = .ok (.goto (-12), 3) := by decide +kernel
theorem dX10_goes_17 : decode cX10_goes 17 = .ok (.return_, 1) := by decide +kernel
theorem dX10_ahead_0 : decode cX10_ahead 0 = .ok (.aload_n 0, 1) := by decide +kernel
theorem dX10_ahead_1 : decode cX10_ahead 1 = .ok (.iload_n 1, 1) := by decide +kernel
theorem dX10_ahead_2 : decode cX10_ahead 2 = .ok (.invokevirtual 156, 3) := by decide +kernel
theorem dX10_ahead_5 : decode cX10_ahead 5 = .ok (.ifCond .eq 25, 3) := by decide +kernel
theorem dX10_ahead_8 : decode cX10_ahead 8 = .ok (.iload_n 2, 1) := by decide +kernel
theorem dX10_ahead_9 : decode cX10_ahead 9 = .ok (.i2l, 1) := by decide +kernel
theorem dX10_ahead_10 : decode cX10_ahead 10 = .ok (.lconst 0, 1) := by decide +kernel
theorem dX10_ahead_11 : decode cX10_ahead 11 = .ok (.ldc2_w 169, 3) := by decide +kernel
theorem dX10_ahead_14 : decode cX10_ahead 14 = .ok (.invokestatic 50, 3) := by decide +kernel
theorem dX10_ahead_17 : decode cX10_ahead 17 = .ok (.ifCond .eq 13, 3) := by decide +kernel
theorem dX10_ahead_20 : decode cX10_ahead 20 = .ok (.iload_n 3, 1) := by decide +kernel
theorem dX10_ahead_21 : decode cX10_ahead 21 = .ok (.i2l, 1) := by decide +kernel
theorem dX10_ahead_22 : decode cX10_ahead 22 = .ok (.lconst 0, 1) := by decide +kernel
theorem dX10_ahead_23 : decode cX10_ahead 23 = .ok (.lconst 1, 1) := by decide +kernel
theorem dX10_ahead_24 : decode cX10_ahead 24 = .ok (.invokestatic 50, 3) := by decide +kernel
theorem dX10_ahead_27 : decode cX10_ahead 27 = .ok (.ifCond .ne 6, 3) := by decide +kernel
theorem dX10_ahead_30 : decode cX10_ahead 30 = .ok (.ldc 60, 2) := by decide +kernel
theorem dX10_ahead_32 : decode cX10_ahead 32 = .ok (.ireturn, 1) := by decide +kernel
theorem dX10_ahead_33 : decode cX10_ahead 33 = .ok (.aload_n 0, 1) := by decide +kernel
theorem dX10_ahead_34 : decode cX10_ahead 34 = .ok (.invokevirtual 171, 3) := by decide +kernel
theorem dX10_ahead_37 : decode cX10_ahead 37 = .ok (.aload_n 0, 1) := by decide +kernel
theorem dX10_ahead_38 : decode cX10_ahead 38 = .ok (.iload_n 2, 1) := by decide +kernel
theorem dX10_ahead_39 : decode cX10_ahead 39 = .ok (.invokevirtual 174, 3) := by decide +kernel
theorem dX10_ahead_42 : decode cX10_ahead 42 = .ok (.aload_n 0, 1) := by decide +kernel
theorem dX10_ahead_43 : decode cX10_ahead 43 = .ok (.iload_n 1, 1) := by decide +kernel
theorem dX10_ahead_44 : decode cX10_ahead 44 = .ok (.invokevirtual 129, 3) := by decide +kernel
theorem dX10_ahead_47 : decode cX10_ahead 47 = .ok (.ifCond .eq 8, 3) := by decide +kernel
theorem dX10_ahead_50 : decode cX10_ahead 50 = .ok (.ldc 177, 2) := by decide +kernel
theorem dX10_ahead_52 : decode cX10_ahead 52 = .ok (.goto 11, 3) := by decide +kernel
theorem dX10_ahead_55 : decode cX10_ahead 55 = .ok (.aload_n 0, 1) := by decide +kernel
theorem dX10_ahead_56 : decode cX10_ahead 56 = .ok (.iload_n 1, 1) := by decide +kernel
theorem dX10_ahead_57 : decode cX10_ahead 57 = .ok (.iload_n 3, 1) := by decide +kernel
theorem dX10_ahead_58 : decode cX10_ahead 58 = .ok (.iconst 1, 1) := by decide +kernel
theorem dX10_ahead_59 : decode cX10_ahead 59 = .ok (.iadd, 1) := by decide +kernel
theorem dX10_ahead_60 : decode cX10_ahead 60 = .ok (.invokevirtual 126, 3) := by decide +kernel
theorem dX10_ahead_63 : decode cX10_ahead 63 = .ok (.istore 4, 2) := by decide +kernel
theorem dX10_ahead_65 : decode cX10_ahead 65 = .ok (.aload_n 0, 1) := by decide +kernel
theorem dX10_ahead_66 : decode cX10_ahead 66 = .ok (.invokevirtual 178, 3) := by decide +kernel
theorem dX10_ahead_69 : decode cX10_ahead 69 = .ok (.iload 4, 2) := by decide +kernel
theorem dX10_ahead_71 : decode cX10_ahead 71 = .ok (.ireturn, 1) := by decide +kernel
theorem dX10_over_0 : decode cX10_over 0 = .ok (.aload_n 0, 1) := by decide +kernel
theorem dX10_over_1 : decode cX10_over 1 = .ok (.getfield 117, 3) := by decide +kernel
theorem dX10_over_4 : decode cX10_over 4 = .ok (.ifCond .ne 6, 3) := by decide +kernel
theorem dX10_over_7 : decode cX10_over 7 = .ok (.ldc 144, 2) := by decide +kernel
theorem dX10_over_9 : decode cX10_over 9 = .ok (.ireturn, 1) := by decide +kernel
theorem dX10_over_10 : decode cX10_over 10 = .ok (.iload_n 1, 1) := by decide +kernel
theorem dX10_over_11 : decode cX10_over 11 = .ok (.invokestatic 163, 3) := by decide +kernel
theorem dX10_over_14 : decode cX10_over 14 = .ok (.ifCond .eq 15, 3) := by decide +kernel
theorem dX10_over_17 : decode cX10_over 17 = .ok (.iload_n 2, 1) := by decide +kernel
theorem dX10_over_18 : decode cX10_over 18 = .ok (.i2l, 1) := by decide +kernel
theorem dX10_over_19 : decode cX10_over 19 = .ok (.lconst 0, 1) := by decide +kernel
theorem dX10_over_20 : decode cX10_over 20 = .ok (.ldc2_w 169, 3) := by decide +kernel
theorem dX10_over_23 : decode cX10_over 23 = .ok (.invokestatic 50, 3) := by decide +kernel
theorem dX10_over_26 : decode cX10_over 26 = .ok (.ifCond .ne 6, 3) := by decide +kernel
theorem dX10_over_29 : decode cX10_over 29 = .ok (.ldc 60, 2) := by decide +kernel
theorem dX10_over_31 : decode cX10_over 31 = .ok (.ireturn, 1) := by decide +kernel
theorem dX10_over_32 : decode cX10_over 32 = .ok (.aload_n 0, 1) := by decide +kernel
theorem dX10_over_33 : decode cX10_over 33 = .ok (.invokevirtual 171, 3) := by decide +kernel
theorem dX10_over_36 : decode cX10_over 36 = .ok (.aload_n 0, 1) := by decide +kernel
theorem dX10_over_37 : decode cX10_over 37 = .ok (.iload_n 2, 1) := by decide +kernel
theorem dX10_over_38 : decode cX10_over 38 = .ok (.invokevirtual 174, 3) := by decide +kernel
theorem dX10_over_41 : decode cX10_over 41 = .ok (.aload_n 0, 1) := by decide +kernel
theorem dX10_over_42 : decode cX10_over 42 = .ok (.iload_n 1, 1) := by decide +kernel
theorem dX10_over_43 : decode cX10_over 43 = .ok (.invokevirtual 166, 3) := by decide +kernel
theorem dX10_over_46 : decode cX10_over 46 = .ok (.istore_n 3, 1) := by decide +kernel
theorem dX10_over_47 : decode cX10_over 47 = .ok (.aload_n 0, 1) := by decide +kernel
theorem dX10_over_48 : decode cX10_over 48 = .ok (.invokevirtual 178, 3) := by decide +kernel
theorem dX10_over_51 : decode cX10_over 51 = .ok (.iload_n 3, 1) := by decide +kernel
theorem dX10_over_52 : decode cX10_over 52 = .ok (.ireturn, 1) := by decide +kernel
theorem dX10_falls_0 : decode cX10_falls 0 = .ok (.aload_n 0, 1) := by decide +kernel
theorem dX10_falls_1 : decode cX10_falls 1 = .ok (.getfield 117, 3) := by decide +kernel
theorem dX10_falls_4 : decode cX10_falls 4 = .ok (.ifCond .ne 6, 3) := by decide +kernel
theorem dX10_falls_7 : decode cX10_falls 7 = .ok (.ldc 144, 2) := by decide +kernel
theorem dX10_falls_9 : decode cX10_falls 9 = .ok (.ireturn, 1) := by decide +kernel
theorem dX10_falls_10 : decode cX10_falls 10 = .ok (.iload_n 1, 1) := by decide +kernel
theorem dX10_falls_11 : decode cX10_falls 11 = .ok (.invokestatic 163, 3) := by decide +kernel
theorem dX10_falls_14 : decode cX10_falls 14 = .ok (.ifCond .eq 15, 3) := by decide +kernel
theorem dX10_falls_17 : decode cX10_falls 17 = .ok (.iload_n 2, 1) := by decide +kernel
theorem dX10_falls_18 : decode cX10_falls 18 = .ok (.i2l, 1) := by decide +kernel
theorem dX10_falls_19 : decode cX10_falls 19 = .ok (.lconst 0, 1) := by decide +kernel
theorem dX10_falls_20 : decode cX10_falls 20 = .ok (.ldc2_w 169, 3) := by decide +kernel
theorem dX10_falls_23 : decode cX10_falls 23 = .ok (.invokestatic 50, 3) := by decide +kernel
theorem dX10_falls_26 : decode cX10_falls 26 = .ok (.ifCond .ne 6, 3) := by decide +kernel
theorem dX10_falls_29 : decode cX10_falls 29 = .ok (.ldc 60, 2) := by decide +kernel
theorem dX10_falls_31 : decode cX10_falls 31 = .ok (.ireturn, 1) := by decide +kernel
theorem dX10_falls_32 : decode cX10_falls 32 = .ok (.aload_n 0, 1) := by decide +kernel
theorem dX10_falls_33 : decode cX10_falls 33 = .ok (.invokevirtual 171, 3) := by decide +kernel
theorem dX10_falls_36 : decode cX10_falls 36 = .ok (.aload_n 0, 1) := by decide +kernel
theorem dX10_falls_37 : decode cX10_falls 37 = .ok (.iload_n 2, 1) := by decide +kernel
theorem dX10_falls_38 : decode cX10_falls 38 = .ok (.invokevirtual 174, 3) := by decide +kernel
theorem dX10_falls_41 : decode cX10_falls 41 = .ok (.aload_n 0, 1) := by decide +kernel
theorem dX10_falls_42 : decode cX10_falls 42 = .ok (.getfield 22, 3) := by decide +kernel
theorem dX10_falls_45 : decode cX10_falls 45 = .ok (.bipush 29, 2) := by decide +kernel
theorem dX10_falls_47 : decode cX10_falls 47 = .ok (.iload_n 1, 1) := by decide +kernel
theorem dX10_falls_48 : decode cX10_falls 48 = .ok (.iadd, 1) := by decide +kernel
theorem dX10_falls_49 : decode cX10_falls 49 = .ok (.iaload, 1) := by decide +kernel
theorem dX10_falls_50 : decode cX10_falls 50 = .ok (.aload_n 0, 1) := by decide +kernel
theorem dX10_falls_51 : decode cX10_falls 51 = .ok (.getfield 34, 3) := by decide +kernel
theorem dX10_falls_54 : decode cX10_falls 54 = .ok (.bipush 29, 2) := by decide +kernel
theorem dX10_falls_56 : decode cX10_falls 56 = .ok (.iload_n 1, 1) := by decide +kernel
theorem dX10_falls_57 : decode cX10_falls 57 = .ok (.iadd, 1) := by decide +kernel
theorem dX10_falls_58 : decode cX10_falls 58 = .ok (.iaload, 1) := by decide +kernel
theorem dX10_falls_59 : decode cX10_falls 59 = .ok (.isub, 1) := by decide +kernel
theorem dX10_falls_60 : decode cX10_falls 60 = .ok (.istore_n 3, 1) := by decide +kernel
theorem dX10_falls_61 : decode cX10_falls 61 = .ok (.aload_n 0, 1) := by decide +kernel
theorem dX10_falls_62 : decode cX10_falls 62 = .ok (.invokevirtual 178, 3) := by decide +kernel
theorem dX10_falls_65 : decode cX10_falls 65 = .ok (.iload_n 3, 1) := by decide +kernel
end
section
theorem dX10_falls_66 : decode cX10_falls 66 = .ok (.ireturn, 1) := by decide +kernel
theorem dX10_dryOnes_0 : decode cX10_dryOnes 0 = .ok (.iconst 0, 1) := by decide +kernel
theorem dX10_dryOnes_1 : decode cX10_dryOnes 1 = .ok (.istore_n 1, 1) := by decide +kernel
theorem dX10_dryOnes_2 : decode cX10_dryOnes 2 = .ok (.iconst 0, 1) := by decide +kernel
theorem dX10_dryOnes_3 : decode cX10_dryOnes 3 = .ok (.istore_n 2, 1) := by decide +kernel
theorem dX10_dryOnes_4 : decode cX10_dryOnes 4 = .ok (.iload_n 2, 1) := by decide +kernel
theorem dX10_dryOnes_5 : decode cX10_dryOnes 5 = .ok (.bipush 16, 2) := by decide +kernel
theorem dX10_dryOnes_7 : decode cX10_dryOnes 7 = .ok (.if_icmp .ge 40, 3) := by decide +kernel
theorem dX10_dryOnes_10 : decode cX10_dryOnes 10 = .ok (.iload_n 1, 1) := by decide +kernel
theorem dX10_dryOnes_11 : decode cX10_dryOnes 11 = .ok (.aload_n 0, 1) := by decide +kernel
theorem dX10_dryOnes_12 : decode cX10_dryOnes 12 = .ok (.getfield 22, 3) := by decide +kernel
theorem dX10_dryOnes_15 : decode cX10_dryOnes 15 = .ok (.bipush 29, 2) := by decide +kernel
theorem dX10_dryOnes_17 : decode cX10_dryOnes 17 = .ok (.iload_n 2, 1) := by decide +kernel
theorem dX10_dryOnes_18 : decode cX10_dryOnes 18 = .ok (.iadd, 1) := by decide +kernel
theorem dX10_dryOnes_19 : decode cX10_dryOnes 19 = .ok (.iaload, 1) := by decide +kernel
theorem dX10_dryOnes_20 : decode cX10_dryOnes 20 = .ok (.aload_n 0, 1) := by decide +kernel
theorem dX10_dryOnes_21 : decode cX10_dryOnes 21 = .ok (.getfield 34, 3) := by decide +kernel
theorem dX10_dryOnes_24 : decode cX10_dryOnes 24 = .ok (.bipush 29, 2) := by decide +kernel
theorem dX10_dryOnes_26 : decode cX10_dryOnes 26 = .ok (.iload_n 2, 1) := by decide +kernel
theorem dX10_dryOnes_27 : decode cX10_dryOnes 27 = .ok (.iadd, 1) := by decide +kernel
theorem dX10_dryOnes_28 : decode cX10_dryOnes 28 = .ok (.iaload, 1) := by decide +kernel
theorem dX10_dryOnes_29 : decode cX10_dryOnes 29 = .ok (.if_icmp .ne 9, 3) := by decide +kernel
theorem dX10_dryOnes_32 : decode cX10_dryOnes 32 = .ok (.iconst 1, 1) := by decide +kernel
theorem dX10_dryOnes_33 : decode cX10_dryOnes 33 = .ok (.iload_n 2, 1) := by decide +kernel
theorem dX10_dryOnes_34 : decode cX10_dryOnes 34 = .ok (.ishl, 1) := by decide +kernel
theorem dX10_dryOnes_35 : decode cX10_dryOnes 35 = .ok (.goto 4, 3) := by decide +kernel
theorem dX10_dryOnes_38 : decode cX10_dryOnes 38 = .ok (.iconst 0, 1) := by decide +kernel
theorem dX10_dryOnes_39 : decode cX10_dryOnes 39 = .ok (.ior, 1) := by decide +kernel
theorem dX10_dryOnes_40 : decode cX10_dryOnes 40 = .ok (.istore_n 1, 1) := by decide +kernel
theorem dX10_dryOnes_41 : decode cX10_dryOnes 41 = .ok (.iinc 2 1, 3) := by decide +kernel
theorem dX10_dryOnes_44 : decode cX10_dryOnes 44 = .ok (.goto (-40), 3) := by decide +kernel
theorem dX10_dryOnes_47 : decode cX10_dryOnes 47 = .ok (.iload_n 1, 1) := by decide +kernel
theorem dX10_dryOnes_48 : decode cX10_dryOnes 48 = .ok (.ireturn, 1) := by decide +kernel
theorem dX10_dry_0 : decode cX10_dry 0 = .ok (.aload_n 0, 1) := by decide +kernel
theorem dX10_dry_1 : decode cX10_dry 1 = .ok (.getfield 117, 3) := by decide +kernel
theorem dX10_dry_4 : decode cX10_dry 4 = .ok (.ifCond .ne 6, 3) := by decide +kernel
theorem dX10_dry_7 : decode cX10_dry 7 = .ok (.ldc 144, 2) := by decide +kernel
theorem dX10_dry_9 : decode cX10_dry 9 = .ok (.ireturn, 1) := by decide +kernel
theorem dX10_dry_10 : decode cX10_dry 10 = .ok (.iload_n 1, 1) := by decide +kernel
theorem dX10_dry_11 : decode cX10_dry 11 = .ok (.i2l, 1) := by decide +kernel
theorem dX10_dry_12 : decode cX10_dry 12 = .ok (.lconst 0, 1) := by decide +kernel
theorem dX10_dry_13 : decode cX10_dry 13 = .ok (.ldc2_w 169, 3) := by decide +kernel
theorem dX10_dry_16 : decode cX10_dry 16 = .ok (.invokestatic 50, 3) := by decide +kernel
theorem dX10_dry_19 : decode cX10_dry 19 = .ok (.ifCond .ne 6, 3) := by decide +kernel
theorem dX10_dry_22 : decode cX10_dry 22 = .ok (.ldc 60, 2) := by decide +kernel
theorem dX10_dry_24 : decode cX10_dry 24 = .ok (.ireturn, 1) := by decide +kernel
theorem dX10_dry_25 : decode cX10_dry 25 = .ok (.aload_n 0, 1) := by decide +kernel
theorem dX10_dry_26 : decode cX10_dry 26 = .ok (.invokevirtual 171, 3) := by decide +kernel
theorem dX10_dry_29 : decode cX10_dry 29 = .ok (.aload_n 0, 1) := by decide +kernel
theorem dX10_dry_30 : decode cX10_dry 30 = .ok (.iload_n 1, 1) := by decide +kernel
theorem dX10_dry_31 : decode cX10_dry 31 = .ok (.invokevirtual 174, 3) := by decide +kernel
theorem dX10_dry_34 : decode cX10_dry 34 = .ok (.aload_n 0, 1) := by decide +kernel
theorem dX10_dry_35 : decode cX10_dry 35 = .ok (.invokevirtual 181, 3) := by decide +kernel
theorem dX10_dry_38 : decode cX10_dry 38 = .ok (.istore_n 2, 1) := by decide +kernel
theorem dX10_dry_39 : decode cX10_dry 39 = .ok (.aload_n 0, 1) := by decide +kernel
theorem dX10_dry_40 : decode cX10_dry 40 = .ok (.invokevirtual 178, 3) := by decide +kernel
theorem dX10_dry_43 : decode cX10_dry 43 = .ok (.iload_n 2, 1) := by decide +kernel
theorem dX10_dry_44 : decode cX10_dry 44 = .ok (.ireturn, 1) := by decide +kernel
theorem dX10_first_0 : decode cX10_first 0 = .ok (.aload_n 0, 1) := by decide +kernel
theorem dX10_first_1 : decode cX10_first 1 = .ok (.getfield 117, 3) := by decide +kernel
theorem dX10_first_4 : decode cX10_first 4 = .ok (.ifCond .ne 6, 3) := by decide +kernel
theorem dX10_first_7 : decode cX10_first 7 = .ok (.ldc 144, 2) := by decide +kernel
theorem dX10_first_9 : decode cX10_first 9 = .ok (.ireturn, 1) := by decide +kernel
theorem dX10_first_10 : decode cX10_first 10 = .ok (.iload_n 1, 1) := by decide +kernel
theorem dX10_first_11 : decode cX10_first 11 = .ok (.invokestatic 163, 3) := by decide +kernel
theorem dX10_first_14 : decode cX10_first 14 = .ok (.ifCond .ne 6, 3) := by decide +kernel
theorem dX10_first_17 : decode cX10_first 17 = .ok (.ldc 60, 2) := by decide +kernel
theorem dX10_first_19 : decode cX10_first 19 = .ok (.ireturn, 1) := by decide +kernel
theorem dX10_first_20 : decode cX10_first 20 = .ok (.aload_n 0, 1) := by decide +kernel
theorem dX10_first_21 : decode cX10_first 21 = .ok (.invokevirtual 171, 3) := by decide +kernel
theorem dX10_first_24 : decode cX10_first 24 = .ok (.iconst 0, 1) := by decide +kernel
theorem dX10_first_25 : decode cX10_first 25 = .ok (.istore_n 2, 1) := by decide +kernel
theorem dX10_first_26 : decode cX10_first 26 = .ok (.iload_n 2, 1) := by decide +kernel
theorem dX10_first_27 : decode cX10_first 27 = .ok (.bipush 61, 2) := by decide +kernel
theorem dX10_first_29 : decode cX10_first 29 = .ok (.if_icmp .ge 34, 3) := by decide +kernel
theorem dX10_first_32 : decode cX10_first 32 = .ok (.aload_n 0, 1) := by decide +kernel
theorem dX10_first_33 : decode cX10_first 33 = .ok (.getfield 22, 3) := by decide +kernel
theorem dX10_first_36 : decode cX10_first 36 = .ok (.bipush 29, 2) := by decide +kernel
theorem dX10_first_38 : decode cX10_first 38 = .ok (.iload_n 1, 1) := by decide +kernel
theorem dX10_first_39 : decode cX10_first 39 = .ok (.iadd, 1) := by decide +kernel
theorem dX10_first_40 : decode cX10_first 40 = .ok (.iaload, 1) := by decide +kernel
theorem dX10_first_41 : decode cX10_first 41 = .ok (.aload_n 0, 1) := by decide +kernel
theorem dX10_first_42 : decode cX10_first 42 = .ok (.getfield 34, 3) := by decide +kernel
theorem dX10_first_45 : decode cX10_first 45 = .ok (.bipush 29, 2) := by decide +kernel
theorem dX10_first_47 : decode cX10_first 47 = .ok (.iload_n 1, 1) := by decide +kernel
theorem dX10_first_48 : decode cX10_first 48 = .ok (.iadd, 1) := by decide +kernel
theorem dX10_first_49 : decode cX10_first 49 = .ok (.iaload, 1) := by decide +kernel
theorem dX10_first_50 : decode cX10_first 50 = .ok (.if_icmp .ne 13, 3) := by decide +kernel
theorem dX10_first_53 : decode cX10_first 53 = .ok (.aload_n 0, 1) := by decide +kernel
theorem dX10_first_54 : decode cX10_first 54 = .ok (.invokevirtual 153, 3) := by decide +kernel
theorem dX10_first_57 : decode cX10_first 57 = .ok (.iinc 2 1, 3) := by decide +kernel
theorem dX10_first_60 : decode cX10_first 60 = .ok (.goto (-34), 3) := by decide +kernel
theorem dX10_first_63 : decode cX10_first 63 = .ok (.aload_n 0, 1) := by decide +kernel
theorem dX10_first_64 : decode cX10_first 64 = .ok (.invokevirtual 178, 3) := by decide +kernel
theorem dX10_first_67 : decode cX10_first 67 = .ok (.iload_n 2, 1) := by decide +kernel
theorem dX10_first_68 : decode cX10_first 68 = .ok (.bipush 60, 2) := by decide +kernel
theorem dX10_first_70 : decode cX10_first 70 = .ok (.if_icmp .le 8, 3) := by decide +kernel
theorem dX10_first_73 : decode cX10_first 73 = .ok (.ldc 177, 2) := by decide +kernel
theorem dX10_first_75 : decode cX10_first 75 = .ok (.goto 4, 3) := by decide +kernel
theorem dX10_first_78 : decode cX10_first 78 = .ok (.iload_n 2, 1) := by decide +kernel
theorem dX10_first_79 : decode cX10_first 79 = .ok (.ireturn, 1) := by decide +kernel
theorem dX10_gone_0 : decode cX10_gone 0 = .ok (.aload_n 0, 1) := by decide +kernel
theorem dX10_gone_1 : decode cX10_gone 1 = .ok (.iload_n 1, 1) := by decide +kernel
theorem dX10_gone_2 : decode cX10_gone 2 = .ok (.invokevirtual 156, 3) := by decide +kernel
theorem dX10_gone_5 : decode cX10_gone 5 = .ok (.ifCond .ne 6, 3) := by decide +kernel
theorem dX10_gone_8 : decode cX10_gone 8 = .ok (.ldc 60, 2) := by decide +kernel
theorem dX10_gone_10 : decode cX10_gone 10 = .ok (.ireturn, 1) := by decide +kernel
theorem dX10_gone_11 : decode cX10_gone 11 = .ok (.aload_n 0, 1) := by decide +kernel
theorem dX10_gone_12 : decode cX10_gone 12 = .ok (.invokevirtual 171, 3) := by decide +kernel
theorem dX10_gone_15 : decode cX10_gone 15 = .ok (.iconst 0, 1) := by decide +kernel
theorem dX10_gone_16 : decode cX10_gone 16 = .ok (.istore_n 2, 1) := by decide +kernel
theorem dX10_gone_17 : decode cX10_gone 17 = .ok (.iload_n 2, 1) := by decide +kernel
theorem dX10_gone_18 : decode cX10_gone 18 = .ok (.bipush 61, 2) := by decide +kernel
theorem dX10_gone_20 : decode cX10_gone 20 = .ok (.if_icmp .ge 21, 3) := by decide +kernel
theorem dX10_gone_23 : decode cX10_gone 23 = .ok (.aload_n 0, 1) := by decide +kernel
theorem dX10_gone_24 : decode cX10_gone 24 = .ok (.iload_n 1, 1) := by decide +kernel
theorem dX10_gone_25 : decode cX10_gone 25 = .ok (.invokevirtual 129, 3) := by decide +kernel
theorem dX10_gone_28 : decode cX10_gone 28 = .ok (.ifCond .ne 13, 3) := by decide +kernel
theorem dX10_gone_31 : decode cX10_gone 31 = .ok (.aload_n 0, 1) := by decide +kernel
theorem dX10_gone_32 : decode cX10_gone 32 = .ok (.invokevirtual 153, 3) := by decide +kernel
theorem dX10_gone_35 : decode cX10_gone 35 = .ok (.iinc 2 1, 3) := by decide +kernel
theorem dX10_gone_38 : decode cX10_gone 38 = .ok (.goto (-21), 3) := by decide +kernel
theorem dX10_gone_41 : decode cX10_gone 41 = .ok (.aload_n 0, 1) := by decide +kernel
theorem dX10_gone_42 : decode cX10_gone 42 = .ok (.invokevirtual 178, 3) := by decide +kernel
theorem dX10_gone_45 : decode cX10_gone 45 = .ok (.iload_n 2, 1) := by decide +kernel
theorem dX10_gone_46 : decode cX10_gone 46 = .ok (.bipush 60, 2) := by decide +kernel
theorem dX10_gone_48 : decode cX10_gone 48 = .ok (.if_icmp .le 8, 3) := by decide +kernel
theorem dX10_gone_51 : decode cX10_gone 51 = .ok (.ldc 177, 2) := by decide +kernel
theorem dX10_gone_53 : decode cX10_gone 53 = .ok (.goto 4, 3) := by decide +kernel
theorem dX10_gone_56 : decode cX10_gone 56 = .ok (.iload_n 2, 1) := by decide +kernel
theorem dX10_gone_57 : decode cX10_gone 57 = .ok (.ireturn, 1) := by decide +kernel
theorem dX10_storm_0 : decode cX10_storm 0 = .ok (.aload_n 0, 1) := by decide +kernel
theorem dX10_storm_1 : decode cX10_storm 1 = .ok (.iload_n 1, 1) := by decide +kernel
theorem dX10_storm_2 : decode cX10_storm 2 = .ok (.invokevirtual 156, 3) := by decide +kernel
theorem dX10_storm_5 : decode cX10_storm 5 = .ok (.ifCond .eq 16, 3) := by decide +kernel
theorem dX10_storm_8 : decode cX10_storm 8 = .ok (.aload_n 0, 1) := by decide +kernel
theorem dX10_storm_9 : decode cX10_storm 9 = .ok (.iload_n 2, 1) := by decide +kernel
theorem dX10_storm_10 : decode cX10_storm 10 = .ok (.invokevirtual 156, 3) := by decide +kernel
theorem dX10_storm_13 : decode cX10_storm 13 = .ok (.ifCond .eq 8, 3) := by decide +kernel
theorem dX10_storm_16 : decode cX10_storm 16 = .ok (.iload_n 1, 1) := by decide +kernel
theorem dX10_storm_17 : decode cX10_storm 17 = .ok (.iload_n 2, 1) := by decide +kernel
theorem dX10_storm_18 : decode cX10_storm 18 = .ok (.if_icmp .ne 6, 3) := by decide +kernel
theorem dX10_storm_21 : decode cX10_storm 21 = .ok (.ldc 60, 2) := by decide +kernel
theorem dX10_storm_23 : decode cX10_storm 23 = .ok (.ireturn, 1) := by decide +kernel
theorem dX10_storm_24 : decode cX10_storm 24 = .ok (.aload_n 0, 1) := by decide +kernel
theorem dX10_storm_25 : decode cX10_storm 25 = .ok (.iload_n 1, 1) := by decide +kernel
theorem dX10_storm_26 : decode cX10_storm 26 = .ok (.iconst 4, 1) := by decide +kernel
theorem dX10_storm_27 : decode cX10_storm 27 = .ok (.invokevirtual 126, 3) := by decide +kernel
theorem dX10_storm_30 : decode cX10_storm 30 = .ok (.aload_n 0, 1) := by decide +kernel
theorem dX10_storm_31 : decode cX10_storm 31 = .ok (.iload_n 2, 1) := by decide +kernel
theorem dX10_storm_32 : decode cX10_storm 32 = .ok (.iconst 4, 1) := by decide +kernel
theorem dX10_storm_33 : decode cX10_storm 33 = .ok (.invokevirtual 126, 3) := by decide +kernel
theorem dX10_storm_36 : decode cX10_storm 36 = .ok (.if_icmp .ne 6, 3) := by decide +kernel
theorem dX10_storm_39 : decode cX10_storm 39 = .ok (.ldc 177, 2) := by decide +kernel
theorem dX10_storm_41 : decode cX10_storm 41 = .ok (.ireturn, 1) := by decide +kernel
theorem dX10_storm_42 : decode cX10_storm 42 = .ok (.aload_n 0, 1) := by decide +kernel
theorem dX10_storm_43 : decode cX10_storm 43 = .ok (.invokevirtual 171, 3) := by decide +kernel
theorem dX10_storm_46 : decode cX10_storm 46 = .ok (.iconst 0, 1) := by decide +kernel
theorem dX10_storm_47 : decode cX10_storm 47 = .ok (.istore_n 3, 1) := by decide +kernel
theorem dX10_storm_48 : decode cX10_storm 48 = .ok (.iload_n 3, 1) := by decide +kernel
theorem dX10_storm_49 : decode cX10_storm 49 = .ok (.bipush 61, 2) := by decide +kernel
theorem dX10_storm_51 : decode cX10_storm 51 = .ok (.if_icmp .ge 27, 3) := by decide +kernel
theorem dX10_storm_54 : decode cX10_storm 54 = .ok (.aload_n 0, 1) := by decide +kernel
theorem dX10_storm_55 : decode cX10_storm 55 = .ok (.iload_n 1, 1) := by decide +kernel
theorem dX10_storm_56 : decode cX10_storm 56 = .ok (.invokevirtual 132, 3) := by decide +kernel
theorem dX10_storm_59 : decode cX10_storm 59 = .ok (.aload_n 0, 1) := by decide +kernel
theorem dX10_storm_60 : decode cX10_storm 60 = .ok (.iload_n 2, 1) := by decide +kernel
theorem dX10_storm_61 : decode cX10_storm 61 = .ok (.invokevirtual 132, 3) := by decide +kernel
theorem dX10_storm_64 : decode cX10_storm 64 = .ok (.iand, 1) := by decide +kernel
theorem dX10_storm_65 : decode cX10_storm 65 = .ok (.ifCond .ne 13, 3) := by decide +kernel
theorem dX10_storm_68 : decode cX10_storm 68 = .ok (.aload_n 0, 1) := by decide +kernel
theorem dX10_storm_69 : decode cX10_storm 69 = .ok (.invokevirtual 153, 3) := by decide +kernel
theorem dX10_storm_72 : decode cX10_storm 72 = .ok (.iinc 3 1, 3) := by decide +kernel
theorem dX10_storm_75 : decode cX10_storm 75 = .ok (.goto (-27), 3) := by decide +kernel
theorem dX10_storm_78 : decode cX10_storm 78 = .ok (.aload_n 0, 1) := by decide +kernel
theorem dX10_storm_79 : decode cX10_storm 79 = .ok (.invokevirtual 178, 3) := by decide +kernel
theorem dX10_storm_82 : decode cX10_storm 82 = .ok (.iload_n 3, 1) := by decide +kernel
theorem dX10_storm_83 : decode cX10_storm 83 = .ok (.bipush 60, 2) := by decide +kernel
theorem dX10_storm_85 : decode cX10_storm 85 = .ok (.if_icmp .le 8, 3) := by decide +kernel
theorem dX10_storm_88 : decode cX10_storm 88 = .ok (.ldc 177, 2) := by decide +kernel
theorem dX10_storm_90 : decode cX10_storm 90 = .ok (.goto 4, 3) := by decide +kernel
theorem dX10_storm_93 : decode cX10_storm 93 = .ok (.iload_n 3, 1) := by decide +kernel
theorem dX10_storm_94 : decode cX10_storm 94 = .ok (.ireturn, 1) := by decide +kernel
theorem dX10_blue_0 : decode cX10_blue 0 = .ok (.aload_n 0, 1) := by decide +kernel
theorem dX10_blue_1 : decode cX10_blue 1 = .ok (.getfield 117, 3) := by decide +kernel
theorem dX10_blue_4 : decode cX10_blue 4 = .ok (.ifCond .ne 6, 3) := by decide +kernel
theorem dX10_blue_7 : decode cX10_blue 7 = .ok (.ldc 144, 2) := by decide +kernel
theorem dX10_blue_9 : decode cX10_blue 9 = .ok (.ireturn, 1) := by decide +kernel
theorem dX10_blue_10 : decode cX10_blue 10 = .ok (.iload_n 1, 1) := by decide +kernel
theorem dX10_blue_11 : decode cX10_blue 11 = .ok (.i2l, 1) := by decide +kernel
theorem dX10_blue_12 : decode cX10_blue 12 = .ok (.lconst 0, 1) := by decide +kernel
theorem dX10_blue_13 : decode cX10_blue 13 = .ok (.lconst 1, 1) := by decide +kernel
theorem dX10_blue_14 : decode cX10_blue 14 = .ok (.invokestatic 50, 3) := by decide +kernel
theorem dX10_blue_17 : decode cX10_blue 17 = .ok (.ifCond .ne 6, 3) := by decide +kernel
theorem dX10_blue_20 : decode cX10_blue 20 = .ok (.ldc 60, 2) := by decide +kernel
theorem dX10_blue_22 : decode cX10_blue 22 = .ok (.ireturn, 1) := by decide +kernel
theorem dX10_blue_23 : decode cX10_blue 23 = .ok (.iconst 0, 1) := by decide +kernel
theorem dX10_blue_24 : decode cX10_blue 24 = .ok (.istore_n 2, 1) := by decide +kernel
theorem dX10_blue_25 : decode cX10_blue 25 = .ok (.ldc 177, 2) := by decide +kernel
theorem dX10_blue_27 : decode cX10_blue 27 = .ok (.istore_n 3, 1) := by decide +kernel
theorem dX10_blue_28 : decode cX10_blue 28 = .ok (.iconst 0, 1) := by decide +kernel
theorem dX10_blue_29 : decode cX10_blue 29 = .ok (.istore 4, 2) := by decide +kernel
theorem dX10_blue_31 : decode cX10_blue 31 = .ok (.iload 4, 2) := by decide +kernel
theorem dX10_blue_33 : decode cX10_blue 33 = .ok (.bipush 16, 2) := by decide +kernel
theorem dX10_blue_35 : decode cX10_blue 35 = .ok (.if_icmp .ge 66, 3) := by decide +kernel
theorem dX10_blue_38 : decode cX10_blue 38 = .ok (.iconst 0, 1) := by decide +kernel
theorem dX10_blue_39 : decode cX10_blue 39 = .ok (.istore 5, 2) := by decide +kernel
theorem dX10_blue_41 : decode cX10_blue 41 = .ok (.iload 5, 2) := by decide +kernel
theorem dX10_blue_43 : decode cX10_blue 43 = .ok (.bipush 16, 2) := by decide +kernel
theorem dX10_blue_45 : decode cX10_blue 45 = .ok (.if_icmp .ge 24, 3) := by decide +kernel
theorem dX10_blue_48 : decode cX10_blue 48 = .ok (.aload_n 0, 1) := by decide +kernel
theorem dX10_blue_49 : decode cX10_blue 49 = .ok (.iload 4, 2) := by decide +kernel
theorem dX10_blue_51 : decode cX10_blue 51 = .ok (.iload 5, 2) := by decide +kernel
theorem dX10_blue_53 : decode cX10_blue 53 = .ok (.iadd, 1) := by decide +kernel
theorem dX10_blue_54 : decode cX10_blue 54 = .ok (.bipush 16, 2) := by decide +kernel
theorem dX10_blue_56 : decode cX10_blue 56 = .ok (.irem, 1) := by decide +kernel
theorem dX10_blue_57 : decode cX10_blue 57 = .ok (.invokevirtual 166, 3) := by decide +kernel
theorem dX10_blue_60 : decode cX10_blue 60 = .ok (.ifCond .ne 9, 3) := by decide +kernel
theorem dX10_blue_63 : decode cX10_blue 63 = .ok (.iinc 5 1, 3) := by decide +kernel
theorem dX10_blue_66 : decode cX10_blue 66 = .ok (.goto (-25), 3) := by decide +kernel
theorem dX10_blue_69 : decode cX10_blue 69 = .ok (.iload 5, 2) := by decide +kernel
theorem dX10_blue_71 : decode cX10_blue 71 = .ok (.iload_n 2, 1) := by decide +kernel
theorem dX10_blue_72 : decode cX10_blue 72 = .ok (.if_icmp .le 8, 3) := by decide +kernel
theorem dX10_blue_75 : decode cX10_blue 75 = .ok (.iload 4, 2) := by decide +kernel
theorem dX10_blue_77 : decode cX10_blue 77 = .ok (.goto 4, 3) := by decide +kernel
theorem dX10_blue_80 : decode cX10_blue 80 = .ok (.iload_n 3, 1) := by decide +kernel
theorem dX10_blue_81 : decode cX10_blue 81 = .ok (.istore_n 3, 1) := by decide +kernel
theorem dX10_blue_82 : decode cX10_blue 82 = .ok (.iload 5, 2) := by decide +kernel
theorem dX10_blue_84 : decode cX10_blue 84 = .ok (.iload_n 2, 1) := by decide +kernel
theorem dX10_blue_85 : decode cX10_blue 85 = .ok (.if_icmp .le 8, 3) := by decide +kernel
theorem dX10_blue_88 : decode cX10_blue 88 = .ok (.iload 5, 2) := by decide +kernel
theorem dX10_blue_90 : decode cX10_blue 90 = .ok (.goto 4, 3) := by decide +kernel
theorem dX10_blue_93 : decode cX10_blue 93 = .ok (.iload_n 2, 1) := by decide +kernel
theorem dX10_blue_94 : decode cX10_blue 94 = .ok (.istore_n 2, 1) := by decide +kernel
theorem dX10_blue_95 : decode cX10_blue 95 = .ok (.iinc 4 1, 3) := by decide +kernel
theorem dX10_blue_98 : decode cX10_blue 98 = .ok (.goto (-67), 3) := by decide +kernel
theorem dX10_blue_101 : decode cX10_blue 101 = .ok (.iload_n 1, 1) := by decide +kernel
theorem dX10_blue_102 : decode cX10_blue 102 = .ok (.ifCond .ne 7, 3) := by decide +kernel
theorem dX10_blue_105 : decode cX10_blue 105 = .ok (.iload_n 2, 1) := by decide +kernel
theorem dX10_blue_106 : decode cX10_blue 106 = .ok (.goto 4, 3) := by decide +kernel
theorem dX10_blue_109 : decode cX10_blue 109 = .ok (.iload_n 3, 1) := by decide +kernel
theorem dX10_blue_110 : decode cX10_blue 110 = .ok (.ireturn, 1) := by decide +kernel
theorem dX10_leastTow_0 : decode cX10_leastTow 0 = .ok (.aload_n 0, 1) := by decide +kernel
theorem dX10_leastTow_1 : decode cX10_leastTow 1 = .ok (.getfield 117, 3) := by decide +kernel
theorem dX10_leastTow_4 : decode cX10_leastTow 4 = .ok (.ifCond .ne 6, 3) := by decide +kernel
theorem dX10_leastTow_7 : decode cX10_leastTow 7 = .ok (.ldc 144, 2) := by decide +kernel
theorem dX10_leastTow_9 : decode cX10_leastTow 9 = .ok (.ireturn, 1) := by decide +kernel
theorem dX10_leastTow_10 : decode cX10_leastTow 10 = .ok (.iload_n 1, 1) := by decide +kernel
theorem dX10_leastTow_11 : decode cX10_leastTow 11 = .ok (.i2l, 1) := by decide +kernel
theorem dX10_leastTow_12 : decode cX10_leastTow 12 = .ok (.lconst 0, 1) := by decide +kernel
theorem dX10_leastTow_13 : decode cX10_leastTow 13 = .ok (.ldc2_w 184, 3) := by decide +kernel
theorem dX10_leastTow_16 : decode cX10_leastTow 16 = .ok (.invokestatic 50, 3) := by decide +kernel
theorem dX10_leastTow_19 : decode cX10_leastTow 19 = .ok (.ifCond .eq 28, 3) := by decide +kernel
theorem dX10_leastTow_22 : decode cX10_leastTow 22 = .ok (.iload_n 2, 1) := by decide +kernel
theorem dX10_leastTow_23 : decode cX10_leastTow 23 = .ok (.i2l, 1) := by decide +kernel
theorem dX10_leastTow_24 : decode cX10_leastTow 24 = .ok (.lconst 1, 1) := by decide +kernel
theorem dX10_leastTow_25 : decode cX10_leastTow 25 = .ok (.ldc2_w 145, 3) := by decide +kernel
theorem dX10_leastTow_28 : decode cX10_leastTow 28 = .ok (.invokestatic 50, 3) := by decide +kernel
theorem dX10_leastTow_31 : decode cX10_leastTow 31 = .ok (.ifCond .eq 16, 3) := by decide +kernel
theorem dX10_leastTow_34 : decode cX10_leastTow 34 = .ok (.iload_n 3, 1) := by decide +kernel
theorem dX10_leastTow_35 : decode cX10_leastTow 35 = .ok (.iconst (-1), 1) := by decide +kernel
theorem dX10_leastTow_36 : decode cX10_leastTow 36 = .ok (.if_icmp .eq 14, 3) := by decide +kernel
theorem dX10_leastTow_39 : decode cX10_leastTow 39 = .ok (.aload_n 0, 1) := by decide +kernel
theorem dX10_leastTow_40 : decode cX10_leastTow 40 = .ok (.iload_n 3, 1) := by decide +kernel
theorem dX10_leastTow_41 : decode cX10_leastTow 41 = .ok (.invokevirtual 156, 3) := by decide +kernel
theorem dX10_leastTow_44 : decode cX10_leastTow 44 = .ok (.ifCond .ne 6, 3) := by decide +kernel
theorem dX10_leastTow_47 : decode cX10_leastTow 47 = .ok (.ldc 60, 2) := by decide +kernel
theorem dX10_leastTow_49 : decode cX10_leastTow 49 = .ok (.ireturn, 1) := by decide +kernel
theorem dX10_leastTow_50 : decode cX10_leastTow 50 = .ok (.aload_n 0, 1) := by decide +kernel
theorem dX10_leastTow_51 : decode cX10_leastTow 51 = .ok (.invokevirtual 171, 3) := by decide +kernel
theorem dX10_leastTow_54 : decode cX10_leastTow 54 = .ok (.ldc 177, 2) := by decide +kernel
theorem dX10_leastTow_56 : decode cX10_leastTow 56 = .ok (.istore 4, 2) := by decide +kernel
theorem dX10_leastTow_58 : decode cX10_leastTow 58 = .ok (.ldc 177, 2) := by decide +kernel
theorem dX10_leastTow_60 : decode cX10_leastTow 60 = .ok (.istore 5, 2) := by decide +kernel
theorem dX10_leastTow_62 : decode cX10_leastTow 62 = .ok (.iconst 0, 1) := by decide +kernel
theorem dX10_leastTow_63 : decode cX10_leastTow 63 = .ok (.istore 6, 2) := by decide +kernel
theorem dX10_leastTow_65 : decode cX10_leastTow 65 = .ok (.iload 6, 2) := by decide +kernel
theorem dX10_leastTow_67 : decode cX10_leastTow 67 = .ok (.iconst 1, 1) := by decide +kernel
theorem dX10_leastTow_68 : decode cX10_leastTow 68 = .ok (.iconst 2, 1) := by decide +kernel
theorem dX10_leastTow_69 : decode cX10_leastTow 69 = .ok (.aload_n 0, 1) := by decide +kernel
theorem dX10_leastTow_70 : decode cX10_leastTow 70 = .ok (.getfield 34, 3) := by decide +kernel
theorem dX10_leastTow_73 : decode cX10_leastTow 73 = .ok (.iconst 0, 1) := by decide +kernel
theorem dX10_leastTow_74 : decode cX10_leastTow 74 = .ok (.iaload, 1) := by decide +kernel
theorem dX10_leastTow_75 : decode cX10_leastTow 75 = .ok (.imul, 1) := by decide +kernel
theorem dX10_leastTow_76 : decode cX10_leastTow 76 = .ok (.ishl, 1) := by decide +kernel
theorem dX10_leastTow_77 : decode cX10_leastTow 77 = .ok (.if_icmp .ge 192, 3) := by decide +kernel
theorem dX10_leastTow_80 : decode cX10_leastTow 80 = .ok (.iconst 0, 1) := by decide +kernel
theorem dX10_leastTow_81 : decode cX10_leastTow 81 = .ok (.istore 7, 2) := by decide +kernel
theorem dX10_leastTow_83 : decode cX10_leastTow 83 = .ok (.iconst 1, 1) := by decide +kernel
theorem dX10_leastTow_84 : decode cX10_leastTow 84 = .ok (.istore 8, 2) := by decide +kernel
theorem dX10_leastTow_86 : decode cX10_leastTow 86 = .ok (.iconst 0, 1) := by decide +kernel
theorem dX10_leastTow_87 : decode cX10_leastTow 87 = .ok (.istore 9, 2) := by decide +kernel
theorem dX10_leastTow_89 : decode cX10_leastTow 89 = .ok (.iload 9, 2) := by decide +kernel
theorem dX10_leastTow_91 : decode cX10_leastTow 91 = .ok (.aload_n 0, 1) := by decide +kernel
theorem dX10_leastTow_92 : decode cX10_leastTow 92 = .ok (.getfield 22, 3) := by decide +kernel
theorem dX10_leastTow_95 : decode cX10_leastTow 95 = .ok (.iconst 0, 1) := by decide +kernel
theorem dX10_leastTow_96 : decode cX10_leastTow 96 = .ok (.iaload, 1) := by decide +kernel
theorem dX10_leastTow_97 : decode cX10_leastTow 97 = .ok (.if_icmp .ge 94, 3) := by decide +kernel
theorem dX10_leastTow_100 : decode cX10_leastTow 100 = .ok (.iload 6, 2) := by decide +kernel
theorem dX10_leastTow_102 : decode cX10_leastTow 102 = .ok (.iconst 2, 1) := by decide +kernel
theorem dX10_leastTow_103 : decode cX10_leastTow 103 = .ok (.aload_n 0, 1) := by decide +kernel
theorem dX10_leastTow_104 : decode cX10_leastTow 104 = .ok (.getfield 22, 3) := by decide +kernel
theorem dX10_leastTow_107 : decode cX10_leastTow 107 = .ok (.iconst 0, 1) := by decide +kernel
theorem dX10_leastTow_108 : decode cX10_leastTow 108 = .ok (.iaload, 1) := by decide +kernel
theorem dX10_leastTow_109 : decode cX10_leastTow 109 = .ok (.iconst 1, 1) := by decide +kernel
theorem dX10_leastTow_110 : decode cX10_leastTow 110 = .ok (.isub, 1) := by decide +kernel
theorem dX10_leastTow_111 : decode cX10_leastTow 111 = .ok (.iload 9, 2) := by decide +kernel
theorem dX10_leastTow_113 : decode cX10_leastTow 113 = .ok (.isub, 1) := by decide +kernel
theorem dX10_leastTow_114 : decode cX10_leastTow 114 = .ok (.imul, 1) := by decide +kernel
theorem dX10_leastTow_115 : decode cX10_leastTow 115 = .ok (.ishr, 1) := by decide +kernel
theorem dX10_leastTow_116 : decode cX10_leastTow 116 = .ok (.iconst 3, 1) := by decide +kernel
theorem dX10_leastTow_117 : decode cX10_leastTow 117 = .ok (.iand, 1) := by decide +kernel
theorem dX10_leastTow_118 : decode cX10_leastTow 118 = .ok (.istore 10, 2) := by decide +kernel
theorem dX10_leastTow_120 : decode cX10_leastTow 120 = .ok (.iload 8, 2) := by decide +kernel
theorem dX10_leastTow_122 : decode cX10_leastTow 122 = .ok (.ifCond .eq 21, 3) := by decide +kernel
theorem dX10_leastTow_125 : decode cX10_leastTow 125 = .ok (.iload 10, 2) := by decide +kernel
theorem dX10_leastTow_127 : decode cX10_leastTow 127 = .ok (.ifCond .eq 12, 3) := by decide +kernel
theorem dX10_leastTow_130 : decode cX10_leastTow 130 = .ok (.aload_n 0, 1) := by decide +kernel
theorem dX10_leastTow_131 : decode cX10_leastTow 131 = .ok (.iload 9, 2) := by decide +kernel
theorem dX10_leastTow_133 : decode cX10_leastTow 133 = .ok (.invokevirtual 129, 3) := by decide +kernel
theorem dX10_leastTow_136 : decode cX10_leastTow 136 = .ok (.ifCond .ne 7, 3) := by decide +kernel
theorem dX10_leastTow_139 : decode cX10_leastTow 139 = .ok (.iconst 1, 1) := by decide +kernel
theorem dX10_leastTow_140 : decode cX10_leastTow 140 = .ok (.goto 4, 3) := by decide +kernel
theorem dX10_leastTow_143 : decode cX10_leastTow 143 = .ok (.iconst 0, 1) := by decide +kernel
theorem dX10_leastTow_144 : decode cX10_leastTow 144 = .ok (.istore 8, 2) := by decide +kernel
theorem dX10_leastTow_146 : decode cX10_leastTow 146 = .ok (.iload 7, 2) := by decide +kernel
theorem dX10_leastTow_148 : decode cX10_leastTow 148 = .ok (.iload 10, 2) := by decide +kernel
theorem dX10_leastTow_150 : decode cX10_leastTow 150 = .ok (.iadd, 1) := by decide +kernel
theorem dX10_leastTow_151 : decode cX10_leastTow 151 = .ok (.istore 7, 2) := by decide +kernel
theorem dX10_leastTow_153 : decode cX10_leastTow 153 = .ok (.aload_n 0, 1) := by decide +kernel
theorem dX10_leastTow_154 : decode cX10_leastTow 154 = .ok (.getfield 22, 3) := by decide +kernel
theorem dX10_leastTow_157 : decode cX10_leastTow 157 = .ok (.iconst 4, 1) := by decide +kernel
theorem dX10_leastTow_158 : decode cX10_leastTow 158 = .ok (.iconst 5, 1) := by decide +kernel
theorem dX10_leastTow_159 : decode cX10_leastTow 159 = .ok (.iload 9, 2) := by decide +kernel
theorem dX10_leastTow_161 : decode cX10_leastTow 161 = .ok (.imul, 1) := by decide +kernel
theorem dX10_leastTow_162 : decode cX10_leastTow 162 = .ok (.iadd, 1) := by decide +kernel
theorem dX10_leastTow_163 : decode cX10_leastTow 163 = .ok (.iconst 1, 1) := by decide +kernel
theorem dX10_leastTow_164 : decode cX10_leastTow 164 = .ok (.iadd, 1) := by decide +kernel
theorem dX10_leastTow_165 : decode cX10_leastTow 165 = .ok (.aload_n 0, 1) := by decide +kernel
theorem dX10_leastTow_166 : decode cX10_leastTow 166 = .ok (.getfield 22, 3) := by decide +kernel
theorem dX10_leastTow_169 : decode cX10_leastTow 169 = .ok (.iconst 4, 1) := by decide +kernel
theorem dX10_leastTow_170 : decode cX10_leastTow 170 = .ok (.iconst 5, 1) := by decide +kernel
theorem dX10_leastTow_171 : decode cX10_leastTow 171 = .ok (.iload 9, 2) := by decide +kernel
theorem dX10_leastTow_173 : decode cX10_leastTow 173 = .ok (.imul, 1) := by decide +kernel
theorem dX10_leastTow_174 : decode cX10_leastTow 174 = .ok (.iadd, 1) := by decide +kernel
theorem dX10_leastTow_175 : decode cX10_leastTow 175 = .ok (.iconst 1, 1) := by decide +kernel
theorem dX10_leastTow_176 : decode cX10_leastTow 176 = .ok (.iadd, 1) := by decide +kernel
theorem dX10_leastTow_177 : decode cX10_leastTow 177 = .ok (.iaload, 1) := by decide +kernel
theorem dX10_leastTow_178 : decode cX10_leastTow 178 = .ok (.iload 10, 2) := by decide +kernel
theorem dX10_leastTow_180 : decode cX10_leastTow 180 = .ok (.iadd, 1) := by decide +kernel
theorem dX10_leastTow_181 : decode cX10_leastTow 181 = .ok (.bipush 16, 2) := by decide +kernel
theorem dX10_leastTow_183 : decode cX10_leastTow 183 = .ok (.irem, 1) := by decide +kernel
theorem dX10_leastTow_184 : decode cX10_leastTow 184 = .ok (.iastore, 1) := by decide +kernel
theorem dX10_leastTow_185 : decode cX10_leastTow 185 = .ok (.iinc 9 1, 3) := by decide +kernel
theorem dX10_leastTow_188 : decode cX10_leastTow 188 = .ok (.goto (-99), 3) := by decide +kernel
theorem dX10_leastTow_191 : decode cX10_leastTow 191 = .ok (.iload 8, 2) := by decide +kernel
theorem dX10_leastTow_193 : decode cX10_leastTow 193 = .ok (.ifCond .eq 66, 3) := by decide +kernel
theorem dX10_leastTow_196 : decode cX10_leastTow 196 = .ok (.iload 5, 2) := by decide +kernel
theorem dX10_leastTow_198 : decode cX10_leastTow 198 = .ok (.ldc 177, 2) := by decide +kernel
theorem dX10_leastTow_200 : decode cX10_leastTow 200 = .ok (.if_icmp .eq 10, 3) := by decide +kernel
theorem dX10_leastTow_203 : decode cX10_leastTow 203 = .ok (.iload 7, 2) := by decide +kernel
theorem dX10_leastTow_205 : decode cX10_leastTow 205 = .ok (.iload 5, 2) := by decide +kernel
theorem dX10_leastTow_207 : decode cX10_leastTow 207 = .ok (.if_icmp .ge 52, 3) := by decide +kernel
theorem dX10_leastTow_210 : decode cX10_leastTow 210 = .ok (.aload_n 0, 1) := by decide +kernel
theorem dX10_leastTow_211 : decode cX10_leastTow 211 = .ok (.iload_n 2, 1) := by decide +kernel
theorem dX10_leastTow_212 : decode cX10_leastTow 212 = .ok (.invokevirtual 174, 3) := by decide +kernel
theorem dX10_leastTow_215 : decode cX10_leastTow 215 = .ok (.aload_n 0, 1) := by decide +kernel
theorem dX10_leastTow_216 : decode cX10_leastTow 216 = .ok (.invokevirtual 181, 3) := by decide +kernel
theorem dX10_leastTow_219 : decode cX10_leastTow 219 = .ok (.iload_n 1, 1) := by decide +kernel
theorem dX10_leastTow_220 : decode cX10_leastTow 220 = .ok (.iand, 1) := by decide +kernel
theorem dX10_leastTow_221 : decode cX10_leastTow 221 = .ok (.ifCond .ne 7, 3) := by decide +kernel
theorem dX10_leastTow_224 : decode cX10_leastTow 224 = .ok (.iconst 1, 1) := by decide +kernel
theorem dX10_leastTow_225 : decode cX10_leastTow 225 = .ok (.goto 4, 3) := by decide +kernel
theorem dX10_leastTow_228 : decode cX10_leastTow 228 = .ok (.iconst 0, 1) := by decide +kernel
theorem dX10_leastTow_229 : decode cX10_leastTow 229 = .ok (.istore 9, 2) := by decide +kernel
theorem dX10_leastTow_231 : decode cX10_leastTow 231 = .ok (.iload 9, 2) := by decide +kernel
theorem dX10_leastTow_233 : decode cX10_leastTow 233 = .ok (.ifCond .eq 8, 3) := by decide +kernel
theorem dX10_leastTow_236 : decode cX10_leastTow 236 = .ok (.iload 6, 2) := by decide +kernel
theorem dX10_leastTow_238 : decode cX10_leastTow 238 = .ok (.goto 5, 3) := by decide +kernel
theorem dX10_leastTow_241 : decode cX10_leastTow 241 = .ok (.iload 4, 2) := by decide +kernel
theorem dX10_leastTow_243 : decode cX10_leastTow 243 = .ok (.istore 4, 2) := by decide +kernel
theorem dX10_leastTow_245 : decode cX10_leastTow 245 = .ok (.iload 9, 2) := by decide +kernel
theorem dX10_leastTow_247 : decode cX10_leastTow 247 = .ok (.ifCond .eq 8, 3) := by decide +kernel
theorem dX10_leastTow_250 : decode cX10_leastTow 250 = .ok (.iload 7, 2) := by decide +kernel
theorem dX10_leastTow_252 : decode cX10_leastTow 252 = .ok (.goto 5, 3) := by decide +kernel
theorem dX10_leastTow_255 : decode cX10_leastTow 255 = .ok (.iload 5, 2) := by decide +kernel
theorem dX10_leastTow_257 : decode cX10_leastTow 257 = .ok (.istore 5, 2) := by decide +kernel
theorem dX10_leastTow_259 : decode cX10_leastTow 259 = .ok (.aload_n 0, 1) := by decide +kernel
theorem dX10_leastTow_260 : decode cX10_leastTow 260 = .ok (.invokevirtual 178, 3) := by decide +kernel
theorem dX10_leastTow_263 : decode cX10_leastTow 263 = .ok (.iinc 6 1, 3) := by decide +kernel
theorem dX10_leastTow_266 : decode cX10_leastTow 266 = .ok (.goto (-201), 3) := by decide +kernel
theorem dX10_leastTow_269 : decode cX10_leastTow 269 = .ok (.iload_n 3, 1) := by decide +kernel
theorem dX10_leastTow_270 : decode cX10_leastTow 270 = .ok (.ifCond .lt 10, 3) := by decide +kernel
theorem dX10_leastTow_273 : decode cX10_leastTow 273 = .ok (.iload 5, 2) := by decide +kernel
theorem dX10_leastTow_275 : decode cX10_leastTow 275 = .ok (.ldc 177, 2) := by decide +kernel
theorem dX10_leastTow_277 : decode cX10_leastTow 277 = .ok (.if_icmp .ne 8, 3) := by decide +kernel
theorem dX10_leastTow_280 : decode cX10_leastTow 280 = .ok (.iload 5, 2) := by decide +kernel
theorem dX10_leastTow_282 : decode cX10_leastTow 282 = .ok (.goto 20, 3) := by decide +kernel
theorem dX10_leastTow_285 : decode cX10_leastTow 285 = .ok (.iload 4, 2) := by decide +kernel
theorem dX10_leastTow_287 : decode cX10_leastTow 287 = .ok (.iconst 2, 1) := by decide +kernel
theorem dX10_leastTow_288 : decode cX10_leastTow 288 = .ok (.aload_n 0, 1) := by decide +kernel
theorem dX10_leastTow_289 : decode cX10_leastTow 289 = .ok (.getfield 22, 3) := by decide +kernel
theorem dX10_leastTow_292 : decode cX10_leastTow 292 = .ok (.iconst 0, 1) := by decide +kernel
theorem dX10_leastTow_293 : decode cX10_leastTow 293 = .ok (.iaload, 1) := by decide +kernel
theorem dX10_leastTow_294 : decode cX10_leastTow 294 = .ok (.iconst 1, 1) := by decide +kernel
theorem dX10_leastTow_295 : decode cX10_leastTow 295 = .ok (.isub, 1) := by decide +kernel
theorem dX10_leastTow_296 : decode cX10_leastTow 296 = .ok (.iload_n 3, 1) := by decide +kernel
theorem dX10_leastTow_297 : decode cX10_leastTow 297 = .ok (.isub, 1) := by decide +kernel
theorem dX10_leastTow_298 : decode cX10_leastTow 298 = .ok (.imul, 1) := by decide +kernel
theorem dX10_leastTow_299 : decode cX10_leastTow 299 = .ok (.ishr, 1) := by decide +kernel
theorem dX10_leastTow_300 : decode cX10_leastTow 300 = .ok (.iconst 3, 1) := by decide +kernel
theorem dX10_leastTow_301 : decode cX10_leastTow 301 = .ok (.iand, 1) := by decide +kernel
theorem dX10_leastTow_302 : decode cX10_leastTow 302 = .ok (.ireturn, 1) := by decide +kernel
theorem dX10_harvest_0 : decode cX10_harvest 0 = .ok (.aload_n 0, 1) := by decide +kernel
theorem dX10_harvest_1 : decode cX10_harvest 1 = .ok (.getfield 117, 3) := by decide +kernel
theorem dX10_harvest_4 : decode cX10_harvest 4 = .ok (.ifCond .ne 6, 3) := by decide +kernel
theorem dX10_harvest_7 : decode cX10_harvest 7 = .ok (.ldc 144, 2) := by decide +kernel
theorem dX10_harvest_9 : decode cX10_harvest 9 = .ok (.ireturn, 1) := by decide +kernel
theorem dX10_harvest_10 : decode cX10_harvest 10 = .ok (.iload_n 1, 1) := by decide +kernel
theorem dX10_harvest_11 : decode cX10_harvest 11 = .ok (.invokestatic 163, 3) := by decide +kernel
theorem dX10_harvest_14 : decode cX10_harvest 14 = .ok (.ifCond .eq 15, 3) := by decide +kernel
theorem dX10_harvest_17 : decode cX10_harvest 17 = .ok (.iload_n 2, 1) := by decide +kernel
theorem dX10_harvest_18 : decode cX10_harvest 18 = .ok (.i2l, 1) := by decide +kernel
theorem dX10_harvest_19 : decode cX10_harvest 19 = .ok (.lconst 1, 1) := by decide +kernel
theorem dX10_harvest_20 : decode cX10_harvest 20 = .ok (.ldc2_w 159, 3) := by decide +kernel
theorem dX10_harvest_23 : decode cX10_harvest 23 = .ok (.invokestatic 50, 3) := by decide +kernel
theorem dX10_harvest_26 : decode cX10_harvest 26 = .ok (.ifCond .ne 6, 3) := by decide +kernel
theorem dX10_harvest_29 : decode cX10_harvest 29 = .ok (.ldc 60, 2) := by decide +kernel
theorem dX10_harvest_31 : decode cX10_harvest 31 = .ok (.ireturn, 1) := by decide +kernel
theorem dX10_harvest_32 : decode cX10_harvest 32 = .ok (.aload_n 0, 1) := by decide +kernel
theorem dX10_harvest_33 : decode cX10_harvest 33 = .ok (.invokevirtual 171, 3) := by decide +kernel
theorem dX10_harvest_36 : decode cX10_harvest 36 = .ok (.ldc 177, 2) := by decide +kernel
theorem dX10_harvest_38 : decode cX10_harvest 38 = .ok (.istore_n 3, 1) := by decide +kernel
theorem dX10_harvest_39 : decode cX10_harvest 39 = .ok (.iconst 0, 1) := by decide +kernel
theorem dX10_harvest_40 : decode cX10_harvest 40 = .ok (.istore 4, 2) := by decide +kernel
theorem dX10_harvest_42 : decode cX10_harvest 42 = .ok (.iconst 1, 1) := by decide +kernel
theorem dX10_harvest_43 : decode cX10_harvest 43 = .ok (.istore 5, 2) := by decide +kernel
theorem dX10_harvest_45 : decode cX10_harvest 45 = .ok (.iload 5, 2) := by decide +kernel
theorem dX10_harvest_47 : decode cX10_harvest 47 = .ok (.bipush 40, 2) := by decide +kernel
theorem dX10_harvest_49 : decode cX10_harvest 49 = .ok (.if_icmp .ge 78, 3) := by decide +kernel
theorem dX10_harvest_52 : decode cX10_harvest 52 = .ok (.iload_n 3, 1) := by decide +kernel
theorem dX10_harvest_53 : decode cX10_harvest 53 = .ok (.ldc 177, 2) := by decide +kernel
theorem dX10_harvest_55 : decode cX10_harvest 55 = .ok (.if_icmp .ne 72, 3) := by decide +kernel
theorem dX10_harvest_58 : decode cX10_harvest 58 = .ok (.aload_n 0, 1) := by decide +kernel
theorem dX10_harvest_59 : decode cX10_harvest 59 = .ok (.getfield 22, 3) := by decide +kernel
theorem dX10_harvest_62 : decode cX10_harvest 62 = .ok (.bipush 29, 2) := by decide +kernel
theorem dX10_harvest_64 : decode cX10_harvest 64 = .ok (.iload_n 1, 1) := by decide +kernel
theorem dX10_harvest_65 : decode cX10_harvest 65 = .ok (.iadd, 1) := by decide +kernel
theorem dX10_harvest_66 : decode cX10_harvest 66 = .ok (.iaload, 1) := by decide +kernel
theorem dX10_harvest_67 : decode cX10_harvest 67 = .ok (.istore 6, 2) := by decide +kernel
theorem dX10_harvest_69 : decode cX10_harvest 69 = .ok (.aload_n 0, 1) := by decide +kernel
theorem dX10_harvest_70 : decode cX10_harvest 70 = .ok (.invokevirtual 153, 3) := by decide +kernel
theorem dX10_harvest_73 : decode cX10_harvest 73 = .ok (.aload_n 0, 1) := by decide +kernel
theorem dX10_harvest_74 : decode cX10_harvest 74 = .ok (.getfield 22, 3) := by decide +kernel
theorem dX10_harvest_77 : decode cX10_harvest 77 = .ok (.bipush 29, 2) := by decide +kernel
theorem dX10_harvest_79 : decode cX10_harvest 79 = .ok (.iload_n 1, 1) := by decide +kernel
theorem dX10_harvest_80 : decode cX10_harvest 80 = .ok (.iadd, 1) := by decide +kernel
theorem dX10_harvest_81 : decode cX10_harvest 81 = .ok (.iaload, 1) := by decide +kernel
theorem dX10_harvest_82 : decode cX10_harvest 82 = .ok (.iload 6, 2) := by decide +kernel
theorem dX10_harvest_84 : decode cX10_harvest 84 = .ok (.if_icmp .ne 10, 3) := by decide +kernel
theorem dX10_harvest_87 : decode cX10_harvest 87 = .ok (.iload 4, 2) := by decide +kernel
theorem dX10_harvest_89 : decode cX10_harvest 89 = .ok (.iconst 1, 1) := by decide +kernel
theorem dX10_harvest_90 : decode cX10_harvest 90 = .ok (.iadd, 1) := by decide +kernel
theorem dX10_harvest_91 : decode cX10_harvest 91 = .ok (.goto 4, 3) := by decide +kernel
theorem dX10_harvest_94 : decode cX10_harvest 94 = .ok (.iconst 0, 1) := by decide +kernel
theorem dX10_harvest_95 : decode cX10_harvest 95 = .ok (.istore 4, 2) := by decide +kernel
theorem dX10_harvest_97 : decode cX10_harvest 97 = .ok (.iload 4, 2) := by decide +kernel
theorem dX10_harvest_99 : decode cX10_harvest 99 = .ok (.iload_n 2, 1) := by decide +kernel
theorem dX10_harvest_100 : decode cX10_harvest 100 = .ok (.if_icmp .lt 19, 3) := by decide +kernel
theorem dX10_harvest_103 : decode cX10_harvest 103 = .ok (.iload 5, 2) := by decide +kernel
theorem dX10_harvest_105 : decode cX10_harvest 105 = .ok (.iload_n 2, 1) := by decide +kernel
theorem dX10_harvest_106 : decode cX10_harvest 106 = .ok (.isub, 1) := by decide +kernel
theorem dX10_harvest_107 : decode cX10_harvest 107 = .ok (.bipush 31, 2) := by decide +kernel
theorem dX10_harvest_109 : decode cX10_harvest 109 = .ok (.if_icmp .ge 10, 3) := by decide +kernel
theorem dX10_harvest_112 : decode cX10_harvest 112 = .ok (.iload 5, 2) := by decide +kernel
theorem dX10_harvest_114 : decode cX10_harvest 114 = .ok (.iload_n 2, 1) := by decide +kernel
theorem dX10_harvest_115 : decode cX10_harvest 115 = .ok (.isub, 1) := by decide +kernel
theorem dX10_harvest_116 : decode cX10_harvest 116 = .ok (.goto 4, 3) := by decide +kernel
theorem dX10_harvest_119 : decode cX10_harvest 119 = .ok (.iload_n 3, 1) := by decide +kernel
theorem dX10_harvest_120 : decode cX10_harvest 120 = .ok (.istore_n 3, 1) := by decide +kernel
theorem dX10_harvest_121 : decode cX10_harvest 121 = .ok (.iinc 5 1, 3) := by decide +kernel
theorem dX10_harvest_124 : decode cX10_harvest 124 = .ok (.goto (-79), 3) := by decide +kernel
theorem dX10_harvest_127 : decode cX10_harvest 127 = .ok (.aload_n 0, 1) := by decide +kernel
theorem dX10_harvest_128 : decode cX10_harvest 128 = .ok (.invokevirtual 178, 3) := by decide +kernel
theorem dX10_harvest_131 : decode cX10_harvest 131 = .ok (.iload_n 3, 1) := by decide +kernel
theorem dX10_harvest_132 : decode cX10_harvest 132 = .ok (.ireturn, 1) := by decide +kernel
theorem dX10_isSo_0 : decode cX10_isSo 0 = .ok (.iconst 1, 1) := by decide +kernel
theorem dX10_isSo_1 : decode cX10_isSo 1 = .ok (.istore 4, 2) := by decide +kernel
theorem dX10_isSo_3 : decode cX10_isSo 3 = .ok (.iconst 0, 1) := by decide +kernel
theorem dX10_isSo_4 : decode cX10_isSo 4 = .ok (.istore 5, 2) := by decide +kernel
theorem dX10_isSo_6 : decode cX10_isSo 6 = .ok (.iload 5, 2) := by decide +kernel
theorem dX10_isSo_8 : decode cX10_isSo 8 = .ok (.iload_n 3, 1) := by decide +kernel
theorem dX10_isSo_9 : decode cX10_isSo 9 = .ok (.if_icmp .ge 60, 3) := by decide +kernel
theorem dX10_isSo_12 : decode cX10_isSo 12 = .ok (.aload_n 0, 1) := by decide +kernel
theorem dX10_isSo_13 : decode cX10_isSo 13 = .ok (.getfield 22, 3) := by decide +kernel
theorem dX10_isSo_16 : decode cX10_isSo 16 = .ok (.bipush 29, 2) := by decide +kernel
theorem dX10_isSo_18 : decode cX10_isSo 18 = .ok (.iload_n 1, 1) := by decide +kernel
theorem dX10_isSo_19 : decode cX10_isSo 19 = .ok (.iadd, 1) := by decide +kernel
theorem dX10_isSo_20 : decode cX10_isSo 20 = .ok (.iaload, 1) := by decide +kernel
theorem dX10_isSo_21 : decode cX10_isSo 21 = .ok (.istore 6, 2) := by decide +kernel
theorem dX10_isSo_23 : decode cX10_isSo 23 = .ok (.aload_n 0, 1) := by decide +kernel
theorem dX10_isSo_24 : decode cX10_isSo 24 = .ok (.invokevirtual 153, 3) := by decide +kernel
theorem dX10_isSo_27 : decode cX10_isSo 27 = .ok (.iload 4, 2) := by decide +kernel
theorem dX10_isSo_29 : decode cX10_isSo 29 = .ok (.ifCond .eq 31, 3) := by decide +kernel
theorem dX10_isSo_32 : decode cX10_isSo 32 = .ok (.aload_n 0, 1) := by decide +kernel
theorem dX10_isSo_33 : decode cX10_isSo 33 = .ok (.getfield 22, 3) := by decide +kernel
theorem dX10_isSo_36 : decode cX10_isSo 36 = .ok (.bipush 29, 2) := by decide +kernel
theorem dX10_isSo_38 : decode cX10_isSo 38 = .ok (.iload_n 1, 1) := by decide +kernel
theorem dX10_isSo_39 : decode cX10_isSo 39 = .ok (.iadd, 1) := by decide +kernel
theorem dX10_isSo_40 : decode cX10_isSo 40 = .ok (.iaload, 1) := by decide +kernel
theorem dX10_isSo_41 : decode cX10_isSo 41 = .ok (.iload 6, 2) := by decide +kernel
theorem dX10_isSo_43 : decode cX10_isSo 43 = .ok (.isub, 1) := by decide +kernel
theorem dX10_isSo_44 : decode cX10_isSo 44 = .ok (.aload_n 0, 1) := by decide +kernel
theorem dX10_isSo_45 : decode cX10_isSo 45 = .ok (.getfield 16, 3) := by decide +kernel
theorem dX10_isSo_48 : decode cX10_isSo 48 = .ok (.iload_n 2, 1) := by decide +kernel
theorem dX10_isSo_49 : decode cX10_isSo 49 = .ok (.iload 5, 2) := by decide +kernel
theorem dX10_isSo_51 : decode cX10_isSo 51 = .ok (.iadd, 1) := by decide +kernel
theorem dX10_isSo_52 : decode cX10_isSo 52 = .ok (.iaload, 1) := by decide +kernel
theorem dX10_isSo_53 : decode cX10_isSo 53 = .ok (.if_icmp .ne 7, 3) := by decide +kernel
theorem dX10_isSo_56 : decode cX10_isSo 56 = .ok (.iconst 1, 1) := by decide +kernel
theorem dX10_isSo_57 : decode cX10_isSo 57 = .ok (.goto 4, 3) := by decide +kernel
theorem dX10_isSo_60 : decode cX10_isSo 60 = .ok (.iconst 0, 1) := by decide +kernel
theorem dX10_isSo_61 : decode cX10_isSo 61 = .ok (.istore 4, 2) := by decide +kernel
theorem dX10_isSo_63 : decode cX10_isSo 63 = .ok (.iinc 5 1, 3) := by decide +kernel
theorem dX10_isSo_66 : decode cX10_isSo 66 = .ok (.goto (-60), 3) := by decide +kernel
theorem dX10_isSo_69 : decode cX10_isSo 69 = .ok (.aload_n 0, 1) := by decide +kernel
theorem dX10_isSo_70 : decode cX10_isSo 70 = .ok (.invokevirtual 178, 3) := by decide +kernel
theorem dX10_isSo_73 : decode cX10_isSo 73 = .ok (.iload 4, 2) := by decide +kernel
theorem dX10_isSo_75 : decode cX10_isSo 75 = .ok (.ireturn, 1) := by decide +kernel
theorem dX10_canSee_0 : decode cX10_canSee 0 = .ok (.aload_n 0, 1) := by decide +kernel
theorem dX10_canSee_1 : decode cX10_canSee 1 = .ok (.iload_n 1, 1) := by decide +kernel
theorem dX10_canSee_2 : decode cX10_canSee 2 = .ok (.invokevirtual 156, 3) := by decide +kernel
theorem dX10_canSee_5 : decode cX10_canSee 5 = .ok (.ifCond .eq 34, 3) := by decide +kernel
theorem dX10_canSee_8 : decode cX10_canSee 8 = .ok (.iload_n 2, 1) := by decide +kernel
theorem dX10_canSee_9 : decode cX10_canSee 9 = .ok (.invokestatic 163, 3) := by decide +kernel
theorem dX10_canSee_12 : decode cX10_canSee 12 = .ok (.ifCond .eq 27, 3) := by decide +kernel
theorem dX10_canSee_15 : decode cX10_canSee 15 = .ok (.iload_n 3, 1) := by decide +kernel
theorem dX10_canSee_16 : decode cX10_canSee 16 = .ok (.invokestatic 54, 3) := by decide +kernel
theorem dX10_canSee_19 : decode cX10_canSee 19 = .ok (.ifCond .eq 20, 3) := by decide +kernel
theorem dX10_canSee_22 : decode cX10_canSee 22 = .ok (.iload 4, 2) := by decide +kernel
theorem dX10_canSee_24 : decode cX10_canSee 24 = .ok (.i2l, 1) := by decide +kernel
theorem dX10_canSee_25 : decode cX10_canSee 25 = .ok (.lconst 1, 1) := by decide +kernel
theorem dX10_canSee_26 : decode cX10_canSee 26 = .ok (.ldc2_w 186, 3) := by decide +kernel
theorem dX10_canSee_29 : decode cX10_canSee 29 = .ok (.invokestatic 50, 3) := by decide +kernel
theorem dX10_canSee_32 : decode cX10_canSee 32 = .ok (.ifCond .eq 7, 3) := by decide +kernel
theorem dX10_canSee_35 : decode cX10_canSee 35 = .ok (.iconst 1, 1) := by decide +kernel
theorem dX10_canSee_36 : decode cX10_canSee 36 = .ok (.goto 4, 3) := by decide +kernel
theorem dX10_canSee_39 : decode cX10_canSee 39 = .ok (.iconst 0, 1) := by decide +kernel
theorem dX10_canSee_40 : decode cX10_canSee 40 = .ok (.ireturn, 1) := by decide +kernel
theorem dX10_who_0 : decode cX10_who 0 = .ok (.aload_n 0, 1) := by decide +kernel
theorem dX10_who_1 : decode cX10_who 1 = .ok (.iload_n 1, 1) := by decide +kernel
theorem dX10_who_2 : decode cX10_who 2 = .ok (.iload_n 2, 1) := by decide +kernel
theorem dX10_who_3 : decode cX10_who 3 = .ok (.iload_n 3, 1) := by decide +kernel
theorem dX10_who_4 : decode cX10_who 4 = .ok (.iload 5, 2) := by decide +kernel
theorem dX10_who_6 : decode cX10_who 6 = .ok (.invokevirtual 188, 3) := by decide +kernel
theorem dX10_who_9 : decode cX10_who 9 = .ok (.ifCond .ne 6, 3) := by decide +kernel
theorem dX10_who_12 : decode cX10_who 12 = .ok (.ldc 60, 2) := by decide +kernel
theorem dX10_who_14 : decode cX10_who 14 = .ok (.ireturn, 1) := by decide +kernel
theorem dX10_who_15 : decode cX10_who 15 = .ok (.aload_n 0, 1) := by decide +kernel
theorem dX10_who_16 : decode cX10_who 16 = .ok (.iload_n 3, 1) := by decide +kernel
theorem dX10_who_17 : decode cX10_who 17 = .ok (.iload 4, 2) := by decide +kernel
theorem dX10_who_19 : decode cX10_who 19 = .ok (.iload 5, 2) := by decide +kernel
theorem dX10_who_21 : decode cX10_who 21 = .ok (.invokevirtual 192, 3) := by decide +kernel
theorem dX10_who_24 : decode cX10_who 24 = .ok (.istore 6, 2) := by decide +kernel
theorem dX10_who_26 : decode cX10_who 26 = .ok (.iload 6, 2) := by decide +kernel
theorem dX10_who_28 : decode cX10_who 28 = .ok (.ifCond .le 10, 3) := by decide +kernel
theorem dX10_who_31 : decode cX10_who 31 = .ok (.aload_n 0, 1) := by decide +kernel
theorem dX10_who_32 : decode cX10_who 32 = .ok (.iload 6, 2) := by decide +kernel
theorem dX10_who_34 : decode cX10_who 34 = .ok (.invokevirtual 61, 3) := by decide +kernel
theorem dX10_who_37 : decode cX10_who 37 = .ok (.ireturn, 1) := by decide +kernel
theorem dX10_who_38 : decode cX10_who 38 = .ok (.aload_n 0, 1) := by decide +kernel
theorem dX10_who_39 : decode cX10_who 39 = .ok (.invokevirtual 171, 3) := by decide +kernel
theorem dX10_who_42 : decode cX10_who 42 = .ok (.iconst 0, 1) := by decide +kernel
theorem dX10_who_43 : decode cX10_who 43 = .ok (.istore 7, 2) := by decide +kernel
theorem dX10_who_45 : decode cX10_who 45 = .ok (.iconst 1, 1) := by decide +kernel
theorem dX10_who_46 : decode cX10_who 46 = .ok (.istore 8, 2) := by decide +kernel
theorem dX10_who_48 : decode cX10_who 48 = .ok (.iload 8, 2) := by decide +kernel
theorem dX10_who_50 : decode cX10_who 50 = .ok (.bipush 6, 2) := by decide +kernel
theorem dX10_who_52 : decode cX10_who 52 = .ok (.if_icmp .ge 51, 3) := by decide +kernel
theorem dX10_who_55 : decode cX10_who 55 = .ok (.aload_n 0, 1) := by decide +kernel
theorem dX10_who_56 : decode cX10_who 56 = .ok (.getfield 22, 3) := by decide +kernel
theorem dX10_who_59 : decode cX10_who 59 = .ok (.iconst 4, 1) := by decide +kernel
theorem dX10_who_60 : decode cX10_who 60 = .ok (.iconst 5, 1) := by decide +kernel
theorem dX10_who_61 : decode cX10_who 61 = .ok (.iload_n 1, 1) := by decide +kernel
theorem dX10_who_62 : decode cX10_who 62 = .ok (.imul, 1) := by decide +kernel
theorem dX10_who_63 : decode cX10_who 63 = .ok (.iadd, 1) := by decide +kernel
theorem dX10_who_64 : decode cX10_who 64 = .ok (.iload 8, 2) := by decide +kernel
theorem dX10_who_66 : decode cX10_who 66 = .ok (.iastore, 1) := by decide +kernel
theorem dX10_who_67 : decode cX10_who 67 = .ok (.iload 7, 2) := by decide +kernel
theorem dX10_who_69 : decode cX10_who 69 = .ok (.aload_n 0, 1) := by decide +kernel
theorem dX10_who_70 : decode cX10_who 70 = .ok (.iload_n 2, 1) := by decide +kernel
theorem dX10_who_71 : decode cX10_who 71 = .ok (.bipush 40, 2) := by decide +kernel
theorem dX10_who_73 : decode cX10_who 73 = .ok (.iload_n 3, 1) := by decide +kernel
theorem dX10_who_74 : decode cX10_who 74 = .ok (.imul, 1) := by decide +kernel
theorem dX10_who_75 : decode cX10_who 75 = .ok (.iload 4, 2) := by decide +kernel
theorem dX10_who_77 : decode cX10_who 77 = .ok (.iadd, 1) := by decide +kernel
theorem dX10_who_78 : decode cX10_who 78 = .ok (.iload 5, 2) := by decide +kernel
theorem dX10_who_80 : decode cX10_who 80 = .ok (.invokevirtual 196, 3) := by decide +kernel
theorem dX10_who_83 : decode cX10_who 83 = .ok (.ifCond .eq 10, 3) := by decide +kernel
theorem dX10_who_86 : decode cX10_who 86 = .ok (.iconst 1, 1) := by decide +kernel
theorem dX10_who_87 : decode cX10_who 87 = .ok (.iload 8, 2) := by decide +kernel
theorem dX10_who_89 : decode cX10_who 89 = .ok (.ishl, 1) := by decide +kernel
theorem dX10_who_90 : decode cX10_who 90 = .ok (.goto 4, 3) := by decide +kernel
theorem dX10_who_93 : decode cX10_who 93 = .ok (.iconst 0, 1) := by decide +kernel
theorem dX10_who_94 : decode cX10_who 94 = .ok (.ior, 1) := by decide +kernel
theorem dX10_who_95 : decode cX10_who 95 = .ok (.istore 7, 2) := by decide +kernel
theorem dX10_who_97 : decode cX10_who 97 = .ok (.iinc 8 1, 3) := by decide +kernel
theorem dX10_who_100 : decode cX10_who 100 = .ok (.goto (-52), 3) := by decide +kernel
theorem dX10_who_103 : decode cX10_who 103 = .ok (.aload_n 0, 1) := by decide +kernel
theorem dX10_who_104 : decode cX10_who 104 = .ok (.iload 7, 2) := by decide +kernel
theorem dX10_who_106 : decode cX10_who 106 = .ok (.invokevirtual 65, 3) := by decide +kernel
theorem dX10_who_109 : decode cX10_who 109 = .ok (.ireturn, 1) := by decide +kernel
theorem dX10_places_0 : decode cX10_places 0 = .ok (.aload_n 0, 1) := by decide +kernel
theorem dX10_places_1 : decode cX10_places 1 = .ok (.iload_n 1, 1) := by decide +kernel
theorem dX10_places_2 : decode cX10_places 2 = .ok (.iload_n 2, 1) := by decide +kernel
theorem dX10_places_3 : decode cX10_places 3 = .ok (.iload_n 3, 1) := by decide +kernel
theorem dX10_places_4 : decode cX10_places 4 = .ok (.iload 5, 2) := by decide +kernel
theorem dX10_places_6 : decode cX10_places 6 = .ok (.invokevirtual 188, 3) := by decide +kernel
theorem dX10_places_9 : decode cX10_places 9 = .ok (.ifCond .ne 6, 3) := by decide +kernel
theorem dX10_places_12 : decode cX10_places 12 = .ok (.ldc 60, 2) := by decide +kernel
theorem dX10_places_14 : decode cX10_places 14 = .ok (.ireturn, 1) := by decide +kernel
theorem dX10_places_15 : decode cX10_places 15 = .ok (.aload_n 0, 1) := by decide +kernel
theorem dX10_places_16 : decode cX10_places 16 = .ok (.iload_n 3, 1) := by decide +kernel
theorem dX10_places_17 : decode cX10_places 17 = .ok (.iload 4, 2) := by decide +kernel
theorem dX10_places_19 : decode cX10_places 19 = .ok (.iload 5, 2) := by decide +kernel
theorem dX10_places_21 : decode cX10_places 21 = .ok (.invokevirtual 192, 3) := by decide +kernel
theorem dX10_places_24 : decode cX10_places 24 = .ok (.istore 6, 2) := by decide +kernel
theorem dX10_places_26 : decode cX10_places 26 = .ok (.iload 6, 2) := by decide +kernel
theorem dX10_places_28 : decode cX10_places 28 = .ok (.ifCond .le 10, 3) := by decide +kernel
theorem dX10_places_31 : decode cX10_places 31 = .ok (.aload_n 0, 1) := by decide +kernel
theorem dX10_places_32 : decode cX10_places 32 = .ok (.iload 6, 2) := by decide +kernel
theorem dX10_places_34 : decode cX10_places 34 = .ok (.invokevirtual 61, 3) := by decide +kernel
theorem dX10_places_37 : decode cX10_places 37 = .ok (.ireturn, 1) := by decide +kernel
theorem dX10_places_38 : decode cX10_places 38 = .ok (.aload_n 0, 1) := by decide +kernel
theorem dX10_places_39 : decode cX10_places 39 = .ok (.iload_n 1, 1) := by decide +kernel
theorem dX10_places_40 : decode cX10_places 40 = .ok (.invokevirtual 129, 3) := by decide +kernel
theorem dX10_places_43 : decode cX10_places 43 = .ok (.ifCond .eq 6, 3) := by decide +kernel
theorem dX10_places_46 : decode cX10_places 46 = .ok (.ldc 144, 2) := by decide +kernel
theorem dX10_places_48 : decode cX10_places 48 = .ok (.ireturn, 1) := by decide +kernel
theorem dX10_places_49 : decode cX10_places 49 = .ok (.aload_n 0, 1) := by decide +kernel
theorem dX10_places_50 : decode cX10_places 50 = .ok (.invokevirtual 171, 3) := by decide +kernel
theorem dX10_places_53 : decode cX10_places 53 = .ok (.iconst 0, 1) := by decide +kernel
theorem dX10_places_54 : decode cX10_places 54 = .ok (.istore 7, 2) := by decide +kernel
theorem dX10_places_56 : decode cX10_places 56 = .ok (.iconst 0, 1) := by decide +kernel
theorem dX10_places_57 : decode cX10_places 57 = .ok (.istore 8, 2) := by decide +kernel
theorem dX10_places_59 : decode cX10_places 59 = .ok (.iload 8, 2) := by decide +kernel
theorem dX10_places_61 : decode cX10_places 61 = .ok (.bipush 16, 2) := by decide +kernel
theorem dX10_places_63 : decode cX10_places 63 = .ok (.if_icmp .ge 53, 3) := by decide +kernel
theorem dX10_places_66 : decode cX10_places 66 = .ok (.aload_n 0, 1) := by decide +kernel
theorem dX10_places_67 : decode cX10_places 67 = .ok (.getfield 22, 3) := by decide +kernel
theorem dX10_places_70 : decode cX10_places 70 = .ok (.iconst 4, 1) := by decide +kernel
theorem dX10_places_71 : decode cX10_places 71 = .ok (.iconst 5, 1) := by decide +kernel
theorem dX10_places_72 : decode cX10_places 72 = .ok (.iload_n 1, 1) := by decide +kernel
theorem dX10_places_73 : decode cX10_places 73 = .ok (.imul, 1) := by decide +kernel
theorem dX10_places_74 : decode cX10_places 74 = .ok (.iadd, 1) := by decide +kernel
theorem dX10_places_75 : decode cX10_places 75 = .ok (.iconst 1, 1) := by decide +kernel
theorem dX10_places_76 : decode cX10_places 76 = .ok (.iadd, 1) := by decide +kernel
theorem dX10_places_77 : decode cX10_places 77 = .ok (.iload 8, 2) := by decide +kernel
theorem dX10_places_79 : decode cX10_places 79 = .ok (.iastore, 1) := by decide +kernel
theorem dX10_places_80 : decode cX10_places 80 = .ok (.iload 7, 2) := by decide +kernel
theorem dX10_places_82 : decode cX10_places 82 = .ok (.aload_n 0, 1) := by decide +kernel
theorem dX10_places_83 : decode cX10_places 83 = .ok (.iload_n 2, 1) := by decide +kernel
theorem dX10_places_84 : decode cX10_places 84 = .ok (.bipush 40, 2) := by decide +kernel
theorem dX10_places_86 : decode cX10_places 86 = .ok (.iload_n 3, 1) := by decide +kernel
theorem dX10_places_87 : decode cX10_places 87 = .ok (.imul, 1) := by decide +kernel
theorem dX10_places_88 : decode cX10_places 88 = .ok (.iload 4, 2) := by decide +kernel
theorem dX10_places_90 : decode cX10_places 90 = .ok (.iadd, 1) := by decide +kernel
theorem dX10_places_91 : decode cX10_places 91 = .ok (.iload 5, 2) := by decide +kernel
theorem dX10_places_93 : decode cX10_places 93 = .ok (.invokevirtual 196, 3) := by decide +kernel
theorem dX10_places_96 : decode cX10_places 96 = .ok (.ifCond .eq 10, 3) := by decide +kernel
theorem dX10_places_99 : decode cX10_places 99 = .ok (.iconst 1, 1) := by decide +kernel
theorem dX10_places_100 : decode cX10_places 100 = .ok (.iload 8, 2) := by decide +kernel
theorem dX10_places_102 : decode cX10_places 102 = .ok (.ishl, 1) := by decide +kernel
theorem dX10_places_103 : decode cX10_places 103 = .ok (.goto 4, 3) := by decide +kernel
theorem dX10_places_106 : decode cX10_places 106 = .ok (.iconst 0, 1) := by decide +kernel
theorem dX10_places_107 : decode cX10_places 107 = .ok (.ior, 1) := by decide +kernel
theorem dX10_places_108 : decode cX10_places 108 = .ok (.istore 7, 2) := by decide +kernel
theorem dX10_places_110 : decode cX10_places 110 = .ok (.iinc 8 1, 3) := by decide +kernel
theorem dX10_places_113 : decode cX10_places 113 = .ok (.goto (-54), 3) := by decide +kernel
theorem dX10_places_116 : decode cX10_places 116 = .ok (.aload_n 0, 1) := by decide +kernel
theorem dX10_places_117 : decode cX10_places 117 = .ok (.iload 7, 2) := by decide +kernel
theorem dX10_places_119 : decode cX10_places 119 = .ok (.invokevirtual 65, 3) := by decide +kernel
theorem dX10_places_122 : decode cX10_places 122 = .ok (.ireturn, 1) := by decide +kernel
theorem dX10_from_0 : decode cX10_from 0 = .ok (.aload_n 0, 1) := by decide +kernel
theorem dX10_from_1 : decode cX10_from 1 = .ok (.iload_n 1, 1) := by decide +kernel
theorem dX10_from_2 : decode cX10_from 2 = .ok (.invokevirtual 156, 3) := by decide +kernel
theorem dX10_from_5 : decode cX10_from 5 = .ok (.ifCond .eq 15, 3) := by decide +kernel
theorem dX10_from_8 : decode cX10_from 8 = .ok (.iload_n 2, 1) := by decide +kernel
theorem dX10_from_9 : decode cX10_from 9 = .ok (.i2l, 1) := by decide +kernel
theorem dX10_from_10 : decode cX10_from 10 = .ok (.lconst 0, 1) := by decide +kernel
theorem dX10_from_11 : decode cX10_from 11 = .ok (.ldc2_w 169, 3) := by decide +kernel
theorem dX10_from_14 : decode cX10_from 14 = .ok (.invokestatic 50, 3) := by decide +kernel
theorem dX10_from_17 : decode cX10_from 17 = .ok (.ifCond .ne 6, 3) := by decide +kernel
theorem dX10_from_20 : decode cX10_from 20 = .ok (.ldc 60, 2) := by decide +kernel
theorem dX10_from_22 : decode cX10_from 22 = .ok (.ireturn, 1) := by decide +kernel
theorem dX10_from_23 : decode cX10_from 23 = .ok (.aload_n 0, 1) := by decide +kernel
theorem dX10_from_24 : decode cX10_from 24 = .ok (.iload_n 1, 1) := by decide +kernel
theorem dX10_from_25 : decode cX10_from 25 = .ok (.invokevirtual 129, 3) := by decide +kernel
theorem dX10_from_28 : decode cX10_from 28 = .ok (.ifCond .eq 6, 3) := by decide +kernel
theorem dX10_from_31 : decode cX10_from 31 = .ok (.ldc 144, 2) := by decide +kernel
theorem dX10_from_33 : decode cX10_from 33 = .ok (.ireturn, 1) := by decide +kernel
theorem dX10_from_34 : decode cX10_from 34 = .ok (.aload_n 0, 1) := by decide +kernel
theorem dX10_from_35 : decode cX10_from 35 = .ok (.iload_n 1, 1) := by decide +kernel
theorem dX10_from_36 : decode cX10_from 36 = .ok (.iconst 0, 1) := by decide +kernel
theorem dX10_from_37 : decode cX10_from 37 = .ok (.invokevirtual 126, 3) := by decide +kernel
theorem dX10_from_40 : decode cX10_from 40 = .ok (.iconst 3, 1) := by decide +kernel
theorem dX10_from_41 : decode cX10_from 41 = .ok (.if_icmp .le 7, 3) := by decide +kernel
theorem dX10_from_44 : decode cX10_from 44 = .ok (.iconst 0, 1) := by decide +kernel
theorem dX10_from_45 : decode cX10_from 45 = .ok (.goto 25, 3) := by decide +kernel
theorem dX10_from_48 : decode cX10_from 48 = .ok (.aload_n 0, 1) := by decide +kernel
theorem dX10_from_49 : decode cX10_from 49 = .ok (.getfield 22, 3) := by decide +kernel
theorem dX10_from_52 : decode cX10_from 52 = .ok (.iconst 1, 1) := by decide +kernel
theorem dX10_from_53 : decode cX10_from 53 = .ok (.iaload, 1) := by decide +kernel
theorem dX10_from_54 : decode cX10_from 54 = .ok (.aload_n 0, 1) := by decide +kernel
theorem dX10_from_55 : decode cX10_from 55 = .ok (.iload_n 1, 1) := by decide +kernel
theorem dX10_from_56 : decode cX10_from 56 = .ok (.iconst 0, 1) := by decide +kernel
theorem dX10_from_57 : decode cX10_from 57 = .ok (.invokevirtual 126, 3) := by decide +kernel
theorem dX10_from_60 : decode cX10_from 60 = .ok (.iconst 2, 1) := by decide +kernel
theorem dX10_from_61 : decode cX10_from 61 = .ok (.if_icmp .ne 7, 3) := by decide +kernel
theorem dX10_from_64 : decode cX10_from 64 = .ok (.iconst 1, 1) := by decide +kernel
theorem dX10_from_65 : decode cX10_from 65 = .ok (.goto 4, 3) := by decide +kernel
theorem dX10_from_68 : decode cX10_from 68 = .ok (.iconst 0, 1) := by decide +kernel
theorem dX10_from_69 : decode cX10_from 69 = .ok (.iadd, 1) := by decide +kernel
theorem dX10_from_70 : decode cX10_from 70 = .ok (.istore_n 3, 1) := by decide +kernel
theorem dX10_from_71 : decode cX10_from 71 = .ok (.aload_n 0, 1) := by decide +kernel
theorem dX10_from_72 : decode cX10_from 72 = .ok (.iload_n 1, 1) := by decide +kernel
theorem dX10_from_73 : decode cX10_from 73 = .ok (.iconst 1, 1) := by decide +kernel
theorem dX10_from_74 : decode cX10_from 74 = .ok (.invokevirtual 126, 3) := by decide +kernel
theorem dX10_from_77 : decode cX10_from 77 = .ok (.iload_n 2, 1) := by decide +kernel
theorem dX10_from_78 : decode cX10_from 78 = .ok (.bipush 16, 2) := by decide +kernel
theorem dX10_from_80 : decode cX10_from 80 = .ok (.iload_n 3, 1) := by decide +kernel
theorem dX10_from_81 : decode cX10_from 81 = .ok (.isub, 1) := by decide +kernel
theorem dX10_from_82 : decode cX10_from 82 = .ok (.imul, 1) := by decide +kernel
theorem dX10_from_83 : decode cX10_from 83 = .ok (.iadd, 1) := by decide +kernel
theorem dX10_from_84 : decode cX10_from 84 = .ok (.bipush 16, 2) := by decide +kernel
theorem dX10_from_86 : decode cX10_from 86 = .ok (.irem, 1) := by decide +kernel
theorem dX10_from_87 : decode cX10_from 87 = .ok (.ireturn, 1) := by decide +kernel
theorem dX10_alike_0 : decode cX10_alike 0 = .ok (.aload_n 0, 1) := by decide +kernel
theorem dX10_alike_1 : decode cX10_alike 1 = .ok (.getfield 117, 3) := by decide +kernel
theorem dX10_alike_4 : decode cX10_alike 4 = .ok (.ifCond .ne 6, 3) := by decide +kernel
theorem dX10_alike_7 : decode cX10_alike 7 = .ok (.ldc 144, 2) := by decide +kernel
theorem dX10_alike_9 : decode cX10_alike 9 = .ok (.ireturn, 1) := by decide +kernel
theorem dX10_alike_10 : decode cX10_alike 10 = .ok (.iload_n 1, 1) := by decide +kernel
theorem dX10_alike_11 : decode cX10_alike 11 = .ok (.i2l, 1) := by decide +kernel
theorem dX10_alike_12 : decode cX10_alike 12 = .ok (.lconst 0, 1) := by decide +kernel
theorem dX10_alike_13 : decode cX10_alike 13 = .ok (.lconst 1, 1) := by decide +kernel
theorem dX10_alike_14 : decode cX10_alike 14 = .ok (.invokestatic 50, 3) := by decide +kernel
theorem dX10_alike_17 : decode cX10_alike 17 = .ok (.ifCond .ne 6, 3) := by decide +kernel
theorem dX10_alike_20 : decode cX10_alike 20 = .ok (.ldc 60, 2) := by decide +kernel
theorem dX10_alike_22 : decode cX10_alike 22 = .ok (.ireturn, 1) := by decide +kernel
theorem dX10_alike_23 : decode cX10_alike 23 = .ok (.iconst 0, 1) := by decide +kernel
theorem dX10_alike_24 : decode cX10_alike 24 = .ok (.istore_n 2, 1) := by decide +kernel
theorem dX10_alike_25 : decode cX10_alike 25 = .ok (.ldc 177, 2) := by decide +kernel
theorem dX10_alike_27 : decode cX10_alike 27 = .ok (.istore_n 3, 1) := by decide +kernel
theorem dX10_alike_28 : decode cX10_alike 28 = .ok (.iconst 0, 1) := by decide +kernel
theorem dX10_alike_29 : decode cX10_alike 29 = .ok (.istore 4, 2) := by decide +kernel
theorem dX10_alike_31 : decode cX10_alike 31 = .ok (.iload 4, 2) := by decide +kernel
theorem dX10_alike_33 : decode cX10_alike 33 = .ok (.aload_n 0, 1) := by decide +kernel
theorem dX10_alike_34 : decode cX10_alike 34 = .ok (.getfield 22, 3) := by decide +kernel
theorem dX10_alike_37 : decode cX10_alike 37 = .ok (.iconst 0, 1) := by decide +kernel
theorem dX10_alike_38 : decode cX10_alike 38 = .ok (.iaload, 1) := by decide +kernel
theorem dX10_alike_39 : decode cX10_alike 39 = .ok (.if_icmp .ge 143, 3) := by decide +kernel
theorem dX10_alike_42 : decode cX10_alike 42 = .ok (.iload 4, 2) := by decide +kernel
theorem dX10_alike_44 : decode cX10_alike 44 = .ok (.iconst 1, 1) := by decide +kernel
theorem dX10_alike_45 : decode cX10_alike 45 = .ok (.iadd, 1) := by decide +kernel
theorem dX10_alike_46 : decode cX10_alike 46 = .ok (.istore 5, 2) := by decide +kernel
theorem dX10_alike_48 : decode cX10_alike 48 = .ok (.iload 5, 2) := by decide +kernel
theorem dX10_alike_50 : decode cX10_alike 50 = .ok (.aload_n 0, 1) := by decide +kernel
theorem dX10_alike_51 : decode cX10_alike 51 = .ok (.getfield 22, 3) := by decide +kernel
theorem dX10_alike_54 : decode cX10_alike 54 = .ok (.iconst 0, 1) := by decide +kernel
theorem dX10_alike_55 : decode cX10_alike 55 = .ok (.iaload, 1) := by decide +kernel
theorem dX10_alike_56 : decode cX10_alike 56 = .ok (.if_icmp .ge 120, 3) := by decide +kernel
theorem dX10_alike_59 : decode cX10_alike 59 = .ok (.aload_n 0, 1) := by decide +kernel
theorem dX10_alike_60 : decode cX10_alike 60 = .ok (.iload 4, 2) := by decide +kernel
theorem dX10_alike_62 : decode cX10_alike 62 = .ok (.invokevirtual 129, 3) := by decide +kernel
theorem dX10_alike_65 : decode cX10_alike 65 = .ok (.ifCond .ne 67, 3) := by decide +kernel
theorem dX10_alike_68 : decode cX10_alike 68 = .ok (.aload_n 0, 1) := by decide +kernel
theorem dX10_alike_69 : decode cX10_alike 69 = .ok (.iload 5, 2) := by decide +kernel
theorem dX10_alike_71 : decode cX10_alike 71 = .ok (.invokevirtual 129, 3) := by decide +kernel
theorem dX10_alike_74 : decode cX10_alike 74 = .ok (.ifCond .ne 58, 3) := by decide +kernel
theorem dX10_alike_77 : decode cX10_alike 77 = .ok (.aload_n 0, 1) := by decide +kernel
theorem dX10_alike_78 : decode cX10_alike 78 = .ok (.iload 4, 2) := by decide +kernel
theorem dX10_alike_80 : decode cX10_alike 80 = .ok (.iconst 4, 1) := by decide +kernel
theorem dX10_alike_81 : decode cX10_alike 81 = .ok (.invokevirtual 126, 3) := by decide +kernel
theorem dX10_alike_84 : decode cX10_alike 84 = .ok (.aload_n 0, 1) := by decide +kernel
theorem dX10_alike_85 : decode cX10_alike 85 = .ok (.iload 5, 2) := by decide +kernel
theorem dX10_alike_87 : decode cX10_alike 87 = .ok (.iconst 4, 1) := by decide +kernel
theorem dX10_alike_88 : decode cX10_alike 88 = .ok (.invokevirtual 126, 3) := by decide +kernel
theorem dX10_alike_91 : decode cX10_alike 91 = .ok (.if_icmp .eq 41, 3) := by decide +kernel
theorem dX10_alike_94 : decode cX10_alike 94 = .ok (.aload_n 0, 1) := by decide +kernel
theorem dX10_alike_95 : decode cX10_alike 95 = .ok (.iload 4, 2) := by decide +kernel
theorem dX10_alike_97 : decode cX10_alike 97 = .ok (.iconst 0, 1) := by decide +kernel
theorem dX10_alike_98 : decode cX10_alike 98 = .ok (.invokevirtual 126, 3) := by decide +kernel
theorem dX10_alike_101 : decode cX10_alike 101 = .ok (.aload_n 0, 1) := by decide +kernel
theorem dX10_alike_102 : decode cX10_alike 102 = .ok (.iload 5, 2) := by decide +kernel
theorem dX10_alike_104 : decode cX10_alike 104 = .ok (.iconst 0, 1) := by decide +kernel
theorem dX10_alike_105 : decode cX10_alike 105 = .ok (.invokevirtual 126, 3) := by decide +kernel
theorem dX10_alike_108 : decode cX10_alike 108 = .ok (.if_icmp .ne 24, 3) := by decide +kernel
theorem dX10_alike_111 : decode cX10_alike 111 = .ok (.aload_n 0, 1) := by decide +kernel
theorem dX10_alike_112 : decode cX10_alike 112 = .ok (.iload 4, 2) := by decide +kernel
theorem dX10_alike_114 : decode cX10_alike 114 = .ok (.iconst 2, 1) := by decide +kernel
theorem dX10_alike_115 : decode cX10_alike 115 = .ok (.invokevirtual 126, 3) := by decide +kernel
theorem dX10_alike_118 : decode cX10_alike 118 = .ok (.aload_n 0, 1) := by decide +kernel
theorem dX10_alike_119 : decode cX10_alike 119 = .ok (.iload 5, 2) := by decide +kernel
theorem dX10_alike_121 : decode cX10_alike 121 = .ok (.iconst 2, 1) := by decide +kernel
theorem dX10_alike_122 : decode cX10_alike 122 = .ok (.invokevirtual 126, 3) := by decide +kernel
theorem dX10_alike_125 : decode cX10_alike 125 = .ok (.if_icmp .ne 7, 3) := by decide +kernel
theorem dX10_alike_128 : decode cX10_alike 128 = .ok (.iconst 1, 1) := by decide +kernel
theorem dX10_alike_129 : decode cX10_alike 129 = .ok (.goto 4, 3) := by decide +kernel
theorem dX10_alike_132 : decode cX10_alike 132 = .ok (.iconst 0, 1) := by decide +kernel
theorem dX10_alike_133 : decode cX10_alike 133 = .ok (.istore 6, 2) := by decide +kernel
theorem dX10_alike_135 : decode cX10_alike 135 = .ok (.iload 6, 2) := by decide +kernel
theorem dX10_alike_137 : decode cX10_alike 137 = .ok (.ifCond .eq 18, 3) := by decide +kernel
theorem dX10_alike_140 : decode cX10_alike 140 = .ok (.iload_n 2, 1) := by decide +kernel
theorem dX10_alike_141 : decode cX10_alike 141 = .ok (.ifCond .ne 14, 3) := by decide +kernel
theorem dX10_alike_144 : decode cX10_alike 144 = .ok (.bipush 10, 2) := by decide +kernel
theorem dX10_alike_146 : decode cX10_alike 146 = .ok (.iload 4, 2) := by decide +kernel
theorem dX10_alike_148 : decode cX10_alike 148 = .ok (.imul, 1) := by decide +kernel
theorem dX10_alike_149 : decode cX10_alike 149 = .ok (.iload 5, 2) := by decide +kernel
theorem dX10_alike_151 : decode cX10_alike 151 = .ok (.iadd, 1) := by decide +kernel
theorem dX10_alike_152 : decode cX10_alike 152 = .ok (.goto 4, 3) := by decide +kernel
theorem dX10_alike_155 : decode cX10_alike 155 = .ok (.iload_n 3, 1) := by decide +kernel
theorem dX10_alike_156 : decode cX10_alike 156 = .ok (.istore_n 3, 1) := by decide +kernel
theorem dX10_alike_157 : decode cX10_alike 157 = .ok (.iload_n 2, 1) := by decide +kernel
theorem dX10_alike_158 : decode cX10_alike 158 = .ok (.iload 6, 2) := by decide +kernel
theorem dX10_alike_160 : decode cX10_alike 160 = .ok (.ifCond .eq 7, 3) := by decide +kernel
theorem dX10_alike_163 : decode cX10_alike 163 = .ok (.iconst 1, 1) := by decide +kernel
theorem dX10_alike_164 : decode cX10_alike 164 = .ok (.goto 4, 3) := by decide +kernel
theorem dX10_alike_167 : decode cX10_alike 167 = .ok (.iconst 0, 1) := by decide +kernel
theorem dX10_alike_168 : decode cX10_alike 168 = .ok (.iadd, 1) := by decide +kernel
theorem dX10_alike_169 : decode cX10_alike 169 = .ok (.istore_n 2, 1) := by decide +kernel
theorem dX10_alike_170 : decode cX10_alike 170 = .ok (.iinc 5 1, 3) := by decide +kernel
theorem dX10_alike_173 : decode cX10_alike 173 = .ok (.goto (-125), 3) := by decide +kernel
theorem dX10_alike_176 : decode cX10_alike 176 = .ok (.iinc 4 1, 3) := by decide +kernel
theorem dX10_alike_179 : decode cX10_alike 179 = .ok (.goto (-148), 3) := by decide +kernel
theorem dX10_alike_182 : decode cX10_alike 182 = .ok (.iload_n 1, 1) := by decide +kernel
theorem dX10_alike_183 : decode cX10_alike 183 = .ok (.ifCond .ne 7, 3) := by decide +kernel
theorem dX10_alike_186 : decode cX10_alike 186 = .ok (.iload_n 2, 1) := by decide +kernel
theorem dX10_alike_187 : decode cX10_alike 187 = .ok (.goto 4, 3) := by decide +kernel
theorem dX10_alike_190 : decode cX10_alike 190 = .ok (.iload_n 3, 1) := by decide +kernel
theorem dX10_alike_191 : decode cX10_alike 191 = .ok (.ireturn, 1) := by decide +kernel
theorem dX10_apart_0 : decode cX10_apart 0 = .ok (.iload_n 0, 1) := by decide +kernel
theorem dX10_apart_1 : decode cX10_apart 1 = .ok (.iload_n 1, 1) := by decide +kernel
theorem dX10_apart_2 : decode cX10_apart 2 = .ok (.if_icmp .le 9, 3) := by decide +kernel
theorem dX10_apart_5 : decode cX10_apart 5 = .ok (.iload_n 0, 1) := by decide +kernel
theorem dX10_apart_6 : decode cX10_apart 6 = .ok (.iload_n 1, 1) := by decide +kernel
theorem dX10_apart_7 : decode cX10_apart 7 = .ok (.isub, 1) := by decide +kernel
theorem dX10_apart_8 : decode cX10_apart 8 = .ok (.goto 6, 3) := by decide +kernel
theorem dX10_apart_11 : decode cX10_apart 11 = .ok (.iload_n 1, 1) := by decide +kernel
theorem dX10_apart_12 : decode cX10_apart 12 = .ok (.iload_n 0, 1) := by decide +kernel
theorem dX10_apart_13 : decode cX10_apart 13 = .ok (.isub, 1) := by decide +kernel
theorem dX10_apart_14 : decode cX10_apart 14 = .ok (.ireturn, 1) := by decide +kernel
theorem dX10_likeness_0 : decode cX10_likeness 0 = .ok (.aload_n 0, 1) := by decide +kernel
theorem dX10_likeness_1 : decode cX10_likeness 1 = .ok (.iload_n 1, 1) := by decide +kernel
theorem dX10_likeness_2 : decode cX10_likeness 2 = .ok (.invokevirtual 156, 3) := by decide +kernel
theorem dX10_likeness_5 : decode cX10_likeness 5 = .ok (.ifCond .eq 16, 3) := by decide +kernel
theorem dX10_likeness_8 : decode cX10_likeness 8 = .ok (.aload_n 0, 1) := by decide +kernel
theorem dX10_likeness_9 : decode cX10_likeness 9 = .ok (.iload_n 2, 1) := by decide +kernel
theorem dX10_likeness_10 : decode cX10_likeness 10 = .ok (.invokevirtual 156, 3) := by decide +kernel
theorem dX10_likeness_13 : decode cX10_likeness 13 = .ok (.ifCond .eq 8, 3) := by decide +kernel
theorem dX10_likeness_16 : decode cX10_likeness 16 = .ok (.iload_n 1, 1) := by decide +kernel
theorem dX10_likeness_17 : decode cX10_likeness 17 = .ok (.iload_n 2, 1) := by decide +kernel
theorem dX10_likeness_18 : decode cX10_likeness 18 = .ok (.if_icmp .ne 6, 3) := by decide +kernel
theorem dX10_likeness_21 : decode cX10_likeness 21 = .ok (.ldc 60, 2) := by decide +kernel
theorem dX10_likeness_23 : decode cX10_likeness 23 = .ok (.ireturn, 1) := by decide +kernel
theorem dX10_likeness_24 : decode cX10_likeness 24 = .ok (.bipush 100, 2) := by decide +kernel
theorem dX10_likeness_26 : decode cX10_likeness 26 = .ok (.aload_n 0, 1) := by decide +kernel
theorem dX10_likeness_27 : decode cX10_likeness 27 = .ok (.iload_n 1, 1) := by decide +kernel
theorem dX10_likeness_28 : decode cX10_likeness 28 = .ok (.iconst 0, 1) := by decide +kernel
theorem dX10_likeness_29 : decode cX10_likeness 29 = .ok (.invokevirtual 126, 3) := by decide +kernel
theorem dX10_likeness_32 : decode cX10_likeness 32 = .ok (.aload_n 0, 1) := by decide +kernel
theorem dX10_likeness_33 : decode cX10_likeness 33 = .ok (.iload_n 2, 1) := by decide +kernel
theorem dX10_likeness_34 : decode cX10_likeness 34 = .ok (.iconst 0, 1) := by decide +kernel
theorem dX10_likeness_35 : decode cX10_likeness 35 = .ok (.invokevirtual 126, 3) := by decide +kernel
theorem dX10_likeness_38 : decode cX10_likeness 38 = .ok (.if_icmp .ne 7, 3) := by decide +kernel
theorem dX10_likeness_41 : decode cX10_likeness 41 = .ok (.iconst 0, 1) := by decide +kernel
theorem dX10_likeness_42 : decode cX10_likeness 42 = .ok (.goto 5, 3) := by decide +kernel
theorem dX10_likeness_45 : decode cX10_likeness 45 = .ok (.bipush 20, 2) := by decide +kernel
theorem dX10_likeness_47 : decode cX10_likeness 47 = .ok (.isub, 1) := by decide +kernel
theorem dX10_likeness_48 : decode cX10_likeness 48 = .ok (.iconst 5, 1) := by decide +kernel
theorem dX10_likeness_49 : decode cX10_likeness 49 = .ok (.aload_n 0, 1) := by decide +kernel
theorem dX10_likeness_50 : decode cX10_likeness 50 = .ok (.iload_n 1, 1) := by decide +kernel
theorem dX10_likeness_51 : decode cX10_likeness 51 = .ok (.iconst 2, 1) := by decide +kernel
theorem dX10_likeness_52 : decode cX10_likeness 52 = .ok (.invokevirtual 126, 3) := by decide +kernel
theorem dX10_likeness_55 : decode cX10_likeness 55 = .ok (.aload_n 0, 1) := by decide +kernel
theorem dX10_likeness_56 : decode cX10_likeness 56 = .ok (.iload_n 2, 1) := by decide +kernel
theorem dX10_likeness_57 : decode cX10_likeness 57 = .ok (.iconst 2, 1) := by decide +kernel
theorem dX10_likeness_58 : decode cX10_likeness 58 = .ok (.invokevirtual 126, 3) := by decide +kernel
theorem dX10_likeness_61 : decode cX10_likeness 61 = .ok (.invokestatic 199, 3) := by decide +kernel
theorem dX10_likeness_64 : decode cX10_likeness 64 = .ok (.imul, 1) := by decide +kernel
theorem dX10_likeness_65 : decode cX10_likeness 65 = .ok (.isub, 1) := by decide +kernel
theorem dX10_likeness_66 : decode cX10_likeness 66 = .ok (.aload_n 0, 1) := by decide +kernel
theorem dX10_likeness_67 : decode cX10_likeness 67 = .ok (.iload_n 1, 1) := by decide +kernel
theorem dX10_likeness_68 : decode cX10_likeness 68 = .ok (.iconst 3, 1) := by decide +kernel
theorem dX10_likeness_69 : decode cX10_likeness 69 = .ok (.invokevirtual 126, 3) := by decide +kernel
theorem dX10_likeness_72 : decode cX10_likeness 72 = .ok (.aload_n 0, 1) := by decide +kernel
theorem dX10_likeness_73 : decode cX10_likeness 73 = .ok (.iload_n 2, 1) := by decide +kernel
theorem dX10_likeness_74 : decode cX10_likeness 74 = .ok (.iconst 3, 1) := by decide +kernel
theorem dX10_likeness_75 : decode cX10_likeness 75 = .ok (.invokevirtual 126, 3) := by decide +kernel
theorem dX10_likeness_78 : decode cX10_likeness 78 = .ok (.invokestatic 199, 3) := by decide +kernel
theorem dX10_likeness_81 : decode cX10_likeness 81 = .ok (.isub, 1) := by decide +kernel
theorem dX10_likeness_82 : decode cX10_likeness 82 = .ok (.istore_n 3, 1) := by decide +kernel
theorem dX10_likeness_83 : decode cX10_likeness 83 = .ok (.iload_n 3, 1) := by decide +kernel
theorem dX10_likeness_84 : decode cX10_likeness 84 = .ok (.ifCond .ge 7, 3) := by decide +kernel
theorem dX10_likeness_87 : decode cX10_likeness 87 = .ok (.iconst 0, 1) := by decide +kernel
theorem dX10_likeness_88 : decode cX10_likeness 88 = .ok (.goto 4, 3) := by decide +kernel
theorem dX10_likeness_91 : decode cX10_likeness 91 = .ok (.iload_n 3, 1) := by decide +kernel
theorem dX10_likeness_92 : decode cX10_likeness 92 = .ok (.ireturn, 1) := by decide +kernel
theorem dX10_estate_0 : decode cX10_estate 0 = .ok (.aload_n 0, 1) := by decide +kernel
theorem dX10_estate_1 : decode cX10_estate 1 = .ok (.getfield 117, 3) := by decide +kernel
theorem dX10_estate_4 : decode cX10_estate 4 = .ok (.ifCond .ne 6, 3) := by decide +kernel
theorem dX10_estate_7 : decode cX10_estate 7 = .ok (.ldc 144, 2) := by decide +kernel
theorem dX10_estate_9 : decode cX10_estate 9 = .ok (.ireturn, 1) := by decide +kernel
theorem dX10_estate_10 : decode cX10_estate 10 = .ok (.iload_n 1, 1) := by decide +kernel
theorem dX10_estate_11 : decode cX10_estate 11 = .ok (.i2l, 1) := by decide +kernel
theorem dX10_estate_12 : decode cX10_estate 12 = .ok (.lconst 0, 1) := by decide +kernel
theorem dX10_estate_13 : decode cX10_estate 13 = .ok (.ldc2_w 159, 3) := by decide +kernel
theorem dX10_estate_16 : decode cX10_estate 16 = .ok (.invokestatic 50, 3) := by decide +kernel
theorem dX10_estate_19 : decode cX10_estate 19 = .ok (.ifCond .ne 6, 3) := by decide +kernel
theorem dX10_estate_22 : decode cX10_estate 22 = .ok (.ldc 60, 2) := by decide +kernel
theorem dX10_estate_24 : decode cX10_estate 24 = .ok (.ireturn, 1) := by decide +kernel
theorem dX10_estate_25 : decode cX10_estate 25 = .ok (.iconst 0, 1) := by decide +kernel
theorem dX10_estate_26 : decode cX10_estate 26 = .ok (.istore_n 2, 1) := by decide +kernel
theorem dX10_estate_27 : decode cX10_estate 27 = .ok (.iconst 0, 1) := by decide +kernel
theorem dX10_estate_28 : decode cX10_estate 28 = .ok (.istore_n 3, 1) := by decide +kernel
theorem dX10_estate_29 : decode cX10_estate 29 = .ok (.iload_n 3, 1) := by decide +kernel
theorem dX10_estate_30 : decode cX10_estate 30 = .ok (.aload_n 0, 1) := by decide +kernel
theorem dX10_estate_31 : decode cX10_estate 31 = .ok (.getfield 22, 3) := by decide +kernel
theorem dX10_estate_34 : decode cX10_estate 34 = .ok (.iconst 0, 1) := by decide +kernel
theorem dX10_estate_35 : decode cX10_estate 35 = .ok (.iaload, 1) := by decide +kernel
theorem dX10_estate_36 : decode cX10_estate 36 = .ok (.if_icmp .ge 32, 3) := by decide +kernel
theorem dX10_estate_39 : decode cX10_estate 39 = .ok (.iload_n 2, 1) := by decide +kernel
theorem dX10_estate_40 : decode cX10_estate 40 = .ok (.aload_n 0, 1) := by decide +kernel
theorem dX10_estate_41 : decode cX10_estate 41 = .ok (.iload_n 3, 1) := by decide +kernel
theorem dX10_estate_42 : decode cX10_estate 42 = .ok (.iconst 4, 1) := by decide +kernel
theorem dX10_estate_43 : decode cX10_estate 43 = .ok (.invokevirtual 126, 3) := by decide +kernel
theorem dX10_estate_46 : decode cX10_estate 46 = .ok (.iload_n 1, 1) := by decide +kernel
theorem dX10_estate_47 : decode cX10_estate 47 = .ok (.if_icmp .ne 12, 3) := by decide +kernel
theorem dX10_estate_50 : decode cX10_estate 50 = .ok (.aload_n 0, 1) := by decide +kernel
theorem dX10_estate_51 : decode cX10_estate 51 = .ok (.iload_n 3, 1) := by decide +kernel
theorem dX10_estate_52 : decode cX10_estate 52 = .ok (.iconst 3, 1) := by decide +kernel
theorem dX10_estate_53 : decode cX10_estate 53 = .ok (.invokevirtual 126, 3) := by decide +kernel
theorem dX10_estate_56 : decode cX10_estate 56 = .ok (.goto 4, 3) := by decide +kernel
theorem dX10_estate_59 : decode cX10_estate 59 = .ok (.iconst 0, 1) := by decide +kernel
theorem dX10_estate_60 : decode cX10_estate 60 = .ok (.iadd, 1) := by decide +kernel
theorem dX10_estate_61 : decode cX10_estate 61 = .ok (.istore_n 2, 1) := by decide +kernel
theorem dX10_estate_62 : decode cX10_estate 62 = .ok (.iinc 3 1, 3) := by decide +kernel
theorem dX10_estate_65 : decode cX10_estate 65 = .ok (.goto (-36), 3) := by decide +kernel
theorem dX10_estate_68 : decode cX10_estate 68 = .ok (.iload_n 2, 1) := by decide +kernel
theorem dX10_estate_69 : decode cX10_estate 69 = .ok (.ireturn, 1) := by decide +kernel
theorem dX10_common_0 : decode cX10_common 0 = .ok (.lload_n 0, 1) := by decide +kernel
theorem dX10_common_1 : decode cX10_common 1 = .ok (.lstore 4, 2) := by decide +kernel
theorem dX10_common_3 : decode cX10_common 3 = .ok (.lload_n 2, 1) := by decide +kernel
theorem dX10_common_4 : decode cX10_common 4 = .ok (.lstore 6, 2) := by decide +kernel
theorem dX10_common_6 : decode cX10_common 6 = .ok (.lload 6, 2) := by decide +kernel
theorem dX10_common_8 : decode cX10_common 8 = .ok (.lconst 0, 1) := by decide +kernel
theorem dX10_common_9 : decode cX10_common 9 = .ok (.lcmp, 1) := by decide +kernel
theorem dX10_common_10 : decode cX10_common 10 = .ok (.ifCond .eq 21, 3) := by decide +kernel
theorem dX10_common_13 : decode cX10_common 13 = .ok (.lload 4, 2) := by decide +kernel
theorem dX10_common_15 : decode cX10_common 15 = .ok (.lload 6, 2) := by decide +kernel
theorem dX10_common_17 : decode cX10_common 17 = .ok (.lrem, 1) := by decide +kernel
theorem dX10_common_18 : decode cX10_common 18 = .ok (.lstore 8, 2) := by decide +kernel
theorem dX10_common_20 : decode cX10_common 20 = .ok (.lload 6, 2) := by decide +kernel
theorem dX10_common_22 : decode cX10_common 22 = .ok (.lstore 4, 2) := by decide +kernel
theorem dX10_common_24 : decode cX10_common 24 = .ok (.lload 8, 2) := by decide +kernel
theorem dX10_common_26 : decode cX10_common 26 = .ok (.lstore 6, 2) := by decide +kernel
theorem dX10_common_28 : decode cX10_common 28 = .ok (.goto (-22), 3) := by decide +kernel
theorem dX10_common_31 : decode cX10_common 31 = .ok (.lload 4, 2) := by decide +kernel
theorem dX10_common_33 : decode cX10_common 33 = .ok (.lreturn, 1) := by decide +kernel
theorem dX10_many_0 : decode cX10_many 0 = .ok (.iconst 0, 1) := by decide +kernel
theorem dX10_many_1 : decode cX10_many 1 = .ok (.istore_n 1, 1) := by decide +kernel
theorem dX10_many_2 : decode cX10_many 2 = .ok (.iload_n 0, 1) := by decide +kernel
theorem dX10_many_3 : decode cX10_many 3 = .ok (.istore_n 2, 1) := by decide +kernel
theorem dX10_many_4 : decode cX10_many 4 = .ok (.iload_n 2, 1) := by decide +kernel
theorem dX10_many_5 : decode cX10_many 5 = .ok (.ifCond .eq 15, 3) := by decide +kernel
theorem dX10_many_8 : decode cX10_many 8 = .ok (.iinc 1 1, 3) := by decide +kernel
theorem dX10_many_11 : decode cX10_many 11 = .ok (.iload_n 2, 1) := by decide +kernel
theorem dX10_many_12 : decode cX10_many 12 = .ok (.iload_n 2, 1) := by decide +kernel
theorem dX10_many_13 : decode cX10_many 13 = .ok (.iconst 1, 1) := by decide +kernel
theorem dX10_many_14 : decode cX10_many 14 = .ok (.isub, 1) := by decide +kernel
theorem dX10_many_15 : decode cX10_many 15 = .ok (.iand, 1) := by decide +kernel
theorem dX10_many_16 : decode cX10_many 16 = .ok (.istore_n 2, 1) := by decide +kernel
theorem dX10_many_17 : decode cX10_many 17 = .ok (.goto (-13), 3) := by decide +kernel
theorem dX10_many_20 : decode cX10_many 20 = .ok (.iload_n 1, 1) := by decide +kernel
theorem dX10_many_21 : decode cX10_many 21 = .ok (.ireturn, 1) := by decide +kernel
theorem dX10_seen_0 : decode cX10_seen 0 = .ok (.aload_n 0, 1) := by decide +kernel
theorem dX10_seen_1 : decode cX10_seen 1 = .ok (.getfield 117, 3) := by decide +kernel
theorem dX10_seen_4 : decode cX10_seen 4 = .ok (.ifCond .ne 7, 3) := by decide +kernel
theorem dX10_seen_7 : decode cX10_seen 7 = .ok (.ldc2_w 202, 3) := by decide +kernel
theorem dX10_seen_10 : decode cX10_seen 10 = .ok (.lreturn, 1) := by decide +kernel
theorem dX10_seen_11 : decode cX10_seen 11 = .ok (.iload_n 1, 1) := by decide +kernel
theorem dX10_seen_12 : decode cX10_seen 12 = .ok (.i2l, 1) := by decide +kernel
theorem dX10_seen_13 : decode cX10_seen 13 = .ok (.lconst 0, 1) := by decide +kernel
theorem dX10_seen_14 : decode cX10_seen 14 = .ok (.ldc2_w 161, 3) := by decide +kernel
theorem dX10_seen_17 : decode cX10_seen 17 = .ok (.invokestatic 50, 3) := by decide +kernel
theorem dX10_seen_20 : decode cX10_seen 20 = .ok (.ifCond .eq 25, 3) := by decide +kernel
theorem dX10_seen_23 : decode cX10_seen 23 = .ok (.iload_n 2, 1) := by decide +kernel
theorem dX10_seen_24 : decode cX10_seen 24 = .ok (.i2l, 1) := by decide +kernel
theorem dX10_seen_25 : decode cX10_seen 25 = .ok (.lconst 0, 1) := by decide +kernel
theorem dX10_seen_26 : decode cX10_seen 26 = .ok (.ldc2_w 204, 3) := by decide +kernel
theorem dX10_seen_29 : decode cX10_seen 29 = .ok (.invokestatic 50, 3) := by decide +kernel
theorem dX10_seen_32 : decode cX10_seen 32 = .ok (.ifCond .eq 13, 3) := by decide +kernel
theorem dX10_seen_35 : decode cX10_seen 35 = .ok (.iload_n 3, 1) := by decide +kernel
theorem dX10_seen_36 : decode cX10_seen 36 = .ok (.i2l, 1) := by decide +kernel
theorem dX10_seen_37 : decode cX10_seen 37 = .ok (.lconst 0, 1) := by decide +kernel
theorem dX10_seen_38 : decode cX10_seen 38 = .ok (.lconst 1, 1) := by decide +kernel
theorem dX10_seen_39 : decode cX10_seen 39 = .ok (.invokestatic 50, 3) := by decide +kernel
theorem dX10_seen_42 : decode cX10_seen 42 = .ok (.ifCond .ne 7, 3) := by decide +kernel
theorem dX10_seen_45 : decode cX10_seen 45 = .ok (.ldc2_w 206, 3) := by decide +kernel
theorem dX10_seen_48 : decode cX10_seen 48 = .ok (.lreturn, 1) := by decide +kernel
theorem dX10_seen_49 : decode cX10_seen 49 = .ok (.aload_n 0, 1) := by decide +kernel
theorem dX10_seen_50 : decode cX10_seen 50 = .ok (.invokevirtual 208, 3) := by decide +kernel
theorem dX10_seen_53 : decode cX10_seen 53 = .ok (.istore 4, 2) := by decide +kernel
theorem dX10_seen_55 : decode cX10_seen 55 = .ok (.lconst 0, 1) := by decide +kernel
theorem dX10_seen_56 : decode cX10_seen 56 = .ok (.lstore 5, 2) := by decide +kernel
theorem dX10_seen_58 : decode cX10_seen 58 = .ok (.lconst 0, 1) := by decide +kernel
theorem dX10_seen_59 : decode cX10_seen 59 = .ok (.lstore 7, 2) := by decide +kernel
theorem dX10_seen_61 : decode cX10_seen 61 = .ok (.iconst 0, 1) := by decide +kernel
theorem dX10_seen_62 : decode cX10_seen 62 = .ok (.istore 9, 2) := by decide +kernel
theorem dX10_seen_64 : decode cX10_seen 64 = .ok (.iload 9, 2) := by decide +kernel
theorem dX10_seen_66 : decode cX10_seen 66 = .ok (.iload 4, 2) := by decide +kernel
theorem dX10_seen_68 : decode cX10_seen 68 = .ok (.if_icmp .gt 108, 3) := by decide +kernel
theorem dX10_seen_71 : decode cX10_seen 71 = .ok (.iload 9, 2) := by decide +kernel
theorem dX10_seen_73 : decode cX10_seen 73 = .ok (.iload 4, 2) := by decide +kernel
theorem dX10_seen_75 : decode cX10_seen 75 = .ok (.iconst (-1), 1) := by decide +kernel
theorem dX10_seen_76 : decode cX10_seen 76 = .ok (.ixor, 1) := by decide +kernel
theorem dX10_seen_77 : decode cX10_seen 77 = .ok (.iand, 1) := by decide +kernel
theorem dX10_seen_78 : decode cX10_seen 78 = .ok (.ifCond .ne 92, 3) := by decide +kernel
theorem dX10_seen_81 : decode cX10_seen 81 = .ok (.lconst 1, 1) := by decide +kernel
theorem dX10_seen_82 : decode cX10_seen 82 = .ok (.lstore 10, 2) := by decide +kernel
theorem dX10_seen_84 : decode cX10_seen 84 = .ok (.iconst 0, 1) := by decide +kernel
theorem dX10_seen_85 : decode cX10_seen 85 = .ok (.istore 12, 2) := by decide +kernel
theorem dX10_seen_87 : decode cX10_seen 87 = .ok (.iload 12, 2) := by decide +kernel
theorem dX10_seen_89 : decode cX10_seen 89 = .ok (.aload_n 0, 1) := by decide +kernel
theorem dX10_seen_90 : decode cX10_seen 90 = .ok (.getfield 22, 3) := by decide +kernel
theorem dX10_seen_93 : decode cX10_seen 93 = .ok (.iconst 0, 1) := by decide +kernel
theorem dX10_seen_94 : decode cX10_seen 94 = .ok (.iaload, 1) := by decide +kernel
theorem dX10_seen_95 : decode cX10_seen 95 = .ok (.if_icmp .ge 48, 3) := by decide +kernel
theorem dX10_seen_98 : decode cX10_seen 98 = .ok (.lload 10, 2) := by decide +kernel
theorem dX10_seen_100 : decode cX10_seen 100 = .ok (.aload_n 0, 1) := by decide +kernel
theorem dX10_seen_101 : decode cX10_seen 101 = .ok (.iload 12, 2) := by decide +kernel
theorem dX10_seen_103 : decode cX10_seen 103 = .ok (.invokevirtual 129, 3) := by decide +kernel
theorem dX10_seen_106 : decode cX10_seen 106 = .ok (.ifCond .eq 7, 3) := by decide +kernel
theorem dX10_seen_109 : decode cX10_seen 109 = .ok (.lconst 1, 1) := by decide +kernel
theorem dX10_seen_110 : decode cX10_seen 110 = .ok (.goto 24, 3) := by decide +kernel
theorem dX10_seen_113 : decode cX10_seen 113 = .ok (.iload 9, 2) := by decide +kernel
theorem dX10_seen_115 : decode cX10_seen 115 = .ok (.iload 12, 2) := by decide +kernel
theorem dX10_seen_117 : decode cX10_seen 117 = .ok (.ishr, 1) := by decide +kernel
theorem dX10_seen_118 : decode cX10_seen 118 = .ok (.iconst 1, 1) := by decide +kernel
theorem dX10_seen_119 : decode cX10_seen 119 = .ok (.iand, 1) := by decide +kernel
theorem dX10_seen_120 : decode cX10_seen 120 = .ok (.iconst 1, 1) := by decide +kernel
theorem dX10_seen_121 : decode cX10_seen 121 = .ok (.if_icmp .ne 8, 3) := by decide +kernel
theorem dX10_seen_124 : decode cX10_seen 124 = .ok (.iload_n 2, 1) := by decide +kernel
theorem dX10_seen_125 : decode cX10_seen 125 = .ok (.i2l, 1) := by decide +kernel
theorem dX10_seen_126 : decode cX10_seen 126 = .ok (.goto 8, 3) := by decide +kernel
theorem dX10_seen_129 : decode cX10_seen 129 = .ok (.bipush 10, 2) := by decide +kernel
theorem dX10_seen_131 : decode cX10_seen 131 = .ok (.iload_n 2, 1) := by decide +kernel
theorem dX10_seen_132 : decode cX10_seen 132 = .ok (.isub, 1) := by decide +kernel
theorem dX10_seen_133 : decode cX10_seen 133 = .ok (.i2l, 1) := by decide +kernel
theorem dX10_seen_134 : decode cX10_seen 134 = .ok (.lmul, 1) := by decide +kernel
theorem dX10_seen_135 : decode cX10_seen 135 = .ok (.lstore 10, 2) := by decide +kernel
theorem dX10_seen_137 : decode cX10_seen 137 = .ok (.iinc 12 1, 3) := by decide +kernel
theorem dX10_seen_140 : decode cX10_seen 140 = .ok (.goto (-53), 3) := by decide +kernel
theorem dX10_seen_143 : decode cX10_seen 143 = .ok (.lload 7, 2) := by decide +kernel
theorem dX10_seen_145 : decode cX10_seen 145 = .ok (.lload 10, 2) := by decide +kernel
theorem dX10_seen_147 : decode cX10_seen 147 = .ok (.ladd, 1) := by decide +kernel
theorem dX10_seen_148 : decode cX10_seen 148 = .ok (.lstore 7, 2) := by decide +kernel
theorem dX10_seen_150 : decode cX10_seen 150 = .ok (.lload 5, 2) := by decide +kernel
theorem dX10_seen_152 : decode cX10_seen 152 = .ok (.iload 9, 2) := by decide +kernel
theorem dX10_seen_154 : decode cX10_seen 154 = .ok (.invokestatic 211, 3) := by decide +kernel
theorem dX10_seen_157 : decode cX10_seen 157 = .ok (.iload_n 1, 1) := by decide +kernel
theorem dX10_seen_158 : decode cX10_seen 158 = .ok (.if_icmp .lt 8, 3) := by decide +kernel
theorem dX10_seen_161 : decode cX10_seen 161 = .ok (.lload 10, 2) := by decide +kernel
theorem dX10_seen_163 : decode cX10_seen 163 = .ok (.goto 4, 3) := by decide +kernel
theorem dX10_seen_166 : decode cX10_seen 166 = .ok (.lconst 0, 1) := by decide +kernel
theorem dX10_seen_167 : decode cX10_seen 167 = .ok (.ladd, 1) := by decide +kernel
theorem dX10_seen_168 : decode cX10_seen 168 = .ok (.lstore 5, 2) := by decide +kernel
theorem dX10_seen_170 : decode cX10_seen 170 = .ok (.iinc 9 1, 3) := by decide +kernel
theorem dX10_seen_173 : decode cX10_seen 173 = .ok (.goto (-109), 3) := by decide +kernel
theorem dX10_seen_176 : decode cX10_seen 176 = .ok (.lload 5, 2) := by decide +kernel
theorem dX10_seen_178 : decode cX10_seen 178 = .ok (.lload 7, 2) := by decide +kernel
theorem dX10_seen_180 : decode cX10_seen 180 = .ok (.invokestatic 214, 3) := by decide +kernel
theorem dX10_seen_183 : decode cX10_seen 183 = .ok (.lstore 9, 2) := by decide +kernel
theorem dX10_seen_185 : decode cX10_seen 185 = .ok (.iload_n 3, 1) := by decide +kernel
theorem dX10_seen_186 : decode cX10_seen 186 = .ok (.ifCond .ne 11, 3) := by decide +kernel
theorem dX10_seen_189 : decode cX10_seen 189 = .ok (.lload 5, 2) := by decide +kernel
theorem dX10_seen_191 : decode cX10_seen 191 = .ok (.lload 9, 2) := by decide +kernel
theorem dX10_seen_193 : decode cX10_seen 193 = .ok (.ldiv, 1) := by decide +kernel
theorem dX10_seen_194 : decode cX10_seen 194 = .ok (.goto 8, 3) := by decide +kernel
theorem dX10_seen_197 : decode cX10_seen 197 = .ok (.lload 7, 2) := by decide +kernel
theorem dX10_seen_199 : decode cX10_seen 199 = .ok (.lload 9, 2) := by decide +kernel
theorem dX10_seen_201 : decode cX10_seen 201 = .ok (.ldiv, 1) := by decide +kernel
theorem dX10_seen_202 : decode cX10_seen 202 = .ok (.lreturn, 1) := by decide +kernel
theorem dX10_drawn_0 : decode cX10_drawn 0 = .ok (.aload_n 0, 1) := by decide +kernel
theorem dX10_drawn_1 : decode cX10_drawn 1 = .ok (.getfield 117, 3) := by decide +kernel
theorem dX10_drawn_4 : decode cX10_drawn 4 = .ok (.ifCond .ne 6, 3) := by decide +kernel
theorem dX10_drawn_7 : decode cX10_drawn 7 = .ok (.ldc 144, 2) := by decide +kernel
theorem dX10_drawn_9 : decode cX10_drawn 9 = .ok (.ireturn, 1) := by decide +kernel
theorem dX10_drawn_10 : decode cX10_drawn 10 = .ok (.iload_n 1, 1) := by decide +kernel
theorem dX10_drawn_11 : decode cX10_drawn 11 = .ok (.i2l, 1) := by decide +kernel
theorem dX10_drawn_12 : decode cX10_drawn 12 = .ok (.lconst 0, 1) := by decide +kernel
theorem dX10_drawn_13 : decode cX10_drawn 13 = .ok (.ldc2_w 169, 3) := by decide +kernel
theorem dX10_drawn_16 : decode cX10_drawn 16 = .ok (.invokestatic 50, 3) := by decide +kernel
theorem dX10_drawn_19 : decode cX10_drawn 19 = .ok (.ifCond .eq 25, 3) := by decide +kernel
theorem dX10_drawn_22 : decode cX10_drawn 22 = .ok (.iload_n 2, 1) := by decide +kernel
theorem dX10_drawn_23 : decode cX10_drawn 23 = .ok (.i2l, 1) := by decide +kernel
theorem dX10_drawn_24 : decode cX10_drawn 24 = .ok (.lconst 1, 1) := by decide +kernel
theorem dX10_drawn_25 : decode cX10_drawn 25 = .ok (.ldc2_w 218, 3) := by decide +kernel
theorem dX10_drawn_28 : decode cX10_drawn 28 = .ok (.invokestatic 50, 3) := by decide +kernel
theorem dX10_drawn_31 : decode cX10_drawn 31 = .ok (.ifCond .eq 13, 3) := by decide +kernel
theorem dX10_drawn_34 : decode cX10_drawn 34 = .ok (.iload_n 3, 1) := by decide +kernel
theorem dX10_drawn_35 : decode cX10_drawn 35 = .ok (.i2l, 1) := by decide +kernel
theorem dX10_drawn_36 : decode cX10_drawn 36 = .ok (.lconst 0, 1) := by decide +kernel
theorem dX10_drawn_37 : decode cX10_drawn 37 = .ok (.lconst 1, 1) := by decide +kernel
theorem dX10_drawn_38 : decode cX10_drawn 38 = .ok (.invokestatic 50, 3) := by decide +kernel
theorem dX10_drawn_41 : decode cX10_drawn 41 = .ok (.ifCond .ne 6, 3) := by decide +kernel
theorem dX10_drawn_44 : decode cX10_drawn 44 = .ok (.ldc 60, 2) := by decide +kernel
theorem dX10_drawn_46 : decode cX10_drawn 46 = .ok (.ireturn, 1) := by decide +kernel
theorem dX10_drawn_47 : decode cX10_drawn 47 = .ok (.aload_n 0, 1) := by decide +kernel
theorem dX10_drawn_48 : decode cX10_drawn 48 = .ok (.invokevirtual 171, 3) := by decide +kernel
theorem dX10_drawn_51 : decode cX10_drawn 51 = .ok (.aload_n 0, 1) := by decide +kernel
theorem dX10_drawn_52 : decode cX10_drawn 52 = .ok (.invokevirtual 147, 3) := by decide +kernel
theorem dX10_drawn_55 : decode cX10_drawn 55 = .ok (.istore 4, 2) := by decide +kernel
theorem dX10_drawn_57 : decode cX10_drawn 57 = .ok (.iload_n 2, 1) := by decide +kernel
theorem dX10_drawn_58 : decode cX10_drawn 58 = .ok (.i2l, 1) := by decide +kernel
theorem dX10_drawn_59 : decode cX10_drawn 59 = .ok (.lstore 5, 2) := by decide +kernel
theorem dX10_drawn_61 : decode cX10_drawn 61 = .ok (.iconst 0, 1) := by decide +kernel
theorem dX10_drawn_62 : decode cX10_drawn 62 = .ok (.istore 7, 2) := by decide +kernel
theorem dX10_drawn_64 : decode cX10_drawn 64 = .ok (.iload 7, 2) := by decide +kernel
theorem dX10_drawn_66 : decode cX10_drawn 66 = .ok (.iload_n 1, 1) := by decide +kernel
theorem dX10_drawn_67 : decode cX10_drawn 67 = .ok (.if_icmp .ge 113, 3) := by decide +kernel
theorem dX10_drawn_70 : decode cX10_drawn 70 = .ok (.lload 5, 2) := by decide +kernel
theorem dX10_drawn_72 : decode cX10_drawn 72 = .ok (.ldc2_w 220, 3) := by decide +kernel
theorem dX10_drawn_75 : decode cX10_drawn 75 = .ok (.lmul, 1) := by decide +kernel
theorem dX10_drawn_76 : decode cX10_drawn 76 = .ok (.ldc2_w 222, 3) := by decide +kernel
theorem dX10_drawn_79 : decode cX10_drawn 79 = .ok (.lrem, 1) := by decide +kernel
theorem dX10_drawn_80 : decode cX10_drawn 80 = .ok (.lstore 5, 2) := by decide +kernel
theorem dX10_drawn_82 : decode cX10_drawn 82 = .ok (.aload_n 0, 1) := by decide +kernel
theorem dX10_drawn_83 : decode cX10_drawn 83 = .ok (.getfield 22, 3) := by decide +kernel
theorem dX10_drawn_86 : decode cX10_drawn 86 = .ok (.iconst 1, 1) := by decide +kernel
theorem dX10_drawn_87 : decode cX10_drawn 87 = .ok (.lload 5, 2) := by decide +kernel
theorem dX10_drawn_89 : decode cX10_drawn 89 = .ok (.ldc2_w 224, 3) := by decide +kernel
theorem dX10_drawn_92 : decode cX10_drawn 92 = .ok (.lrem, 1) := by decide +kernel
theorem dX10_drawn_93 : decode cX10_drawn 93 = .ok (.l2i, 1) := by decide +kernel
theorem dX10_drawn_94 : decode cX10_drawn 94 = .ok (.iastore, 1) := by decide +kernel
theorem dX10_drawn_95 : decode cX10_drawn 95 = .ok (.lload 5, 2) := by decide +kernel
theorem dX10_drawn_97 : decode cX10_drawn 97 = .ok (.ldc2_w 159, 3) := by decide +kernel
theorem dX10_drawn_100 : decode cX10_drawn 100 = .ok (.lrem, 1) := by decide +kernel
theorem dX10_drawn_101 : decode cX10_drawn 101 = .ok (.lconst 0, 1) := by decide +kernel
theorem dX10_drawn_102 : decode cX10_drawn 102 = .ok (.lcmp, 1) := by decide +kernel
theorem dX10_drawn_103 : decode cX10_drawn 103 = .ok (.ifCond .ne 67, 3) := by decide +kernel
theorem dX10_drawn_106 : decode cX10_drawn 106 = .ok (.iconst 4, 1) := by decide +kernel
theorem dX10_drawn_107 : decode cX10_drawn 107 = .ok (.iconst 5, 1) := by decide +kernel
theorem dX10_drawn_108 : decode cX10_drawn 108 = .ok (.lload 5, 2) := by decide +kernel
theorem dX10_drawn_110 : decode cX10_drawn 110 = .ok (.aload_n 0, 1) := by decide +kernel
theorem dX10_drawn_111 : decode cX10_drawn 111 = .ok (.getfield 22, 3) := by decide +kernel
theorem dX10_drawn_114 : decode cX10_drawn 114 = .ok (.iconst 0, 1) := by decide +kernel
theorem dX10_drawn_115 : decode cX10_drawn 115 = .ok (.iaload, 1) := by decide +kernel
theorem dX10_drawn_116 : decode cX10_drawn 116 = .ok (.i2l, 1) := by decide +kernel
theorem dX10_drawn_117 : decode cX10_drawn 117 = .ok (.lrem, 1) := by decide +kernel
theorem dX10_drawn_118 : decode cX10_drawn 118 = .ok (.l2i, 1) := by decide +kernel
theorem dX10_drawn_119 : decode cX10_drawn 119 = .ok (.imul, 1) := by decide +kernel
theorem dX10_drawn_120 : decode cX10_drawn 120 = .ok (.iadd, 1) := by decide +kernel
theorem dX10_drawn_121 : decode cX10_drawn 121 = .ok (.iconst 3, 1) := by decide +kernel
theorem dX10_drawn_122 : decode cX10_drawn 122 = .ok (.iadd, 1) := by decide +kernel
theorem dX10_drawn_123 : decode cX10_drawn 123 = .ok (.istore 8, 2) := by decide +kernel
theorem dX10_drawn_125 : decode cX10_drawn 125 = .ok (.aload_n 0, 1) := by decide +kernel
theorem dX10_drawn_126 : decode cX10_drawn 126 = .ok (.getfield 22, 3) := by decide +kernel
theorem dX10_drawn_129 : decode cX10_drawn 129 = .ok (.iload 8, 2) := by decide +kernel
theorem dX10_drawn_131 : decode cX10_drawn 131 = .ok (.aload_n 0, 1) := by decide +kernel
theorem dX10_drawn_132 : decode cX10_drawn 132 = .ok (.getfield 22, 3) := by decide +kernel
theorem dX10_drawn_135 : decode cX10_drawn 135 = .ok (.iload 8, 2) := by decide +kernel
theorem dX10_drawn_137 : decode cX10_drawn 137 = .ok (.iaload, 1) := by decide +kernel
theorem dX10_drawn_138 : decode cX10_drawn 138 = .ok (.aload_n 0, 1) := by decide +kernel
theorem dX10_drawn_139 : decode cX10_drawn 139 = .ok (.getfield 22, 3) := by decide +kernel
theorem dX10_drawn_142 : decode cX10_drawn 142 = .ok (.iconst 2, 1) := by decide +kernel
theorem dX10_drawn_143 : decode cX10_drawn 143 = .ok (.iaload, 1) := by decide +kernel
theorem dX10_drawn_144 : decode cX10_drawn 144 = .ok (.iadd, 1) := by decide +kernel
theorem dX10_drawn_145 : decode cX10_drawn 145 = .ok (.bipush 99, 2) := by decide +kernel
theorem dX10_drawn_147 : decode cX10_drawn 147 = .ok (.if_icmp .le 8, 3) := by decide +kernel
theorem dX10_drawn_150 : decode cX10_drawn 150 = .ok (.bipush 99, 2) := by decide +kernel
theorem dX10_drawn_152 : decode cX10_drawn 152 = .ok (.goto 17, 3) := by decide +kernel
theorem dX10_drawn_155 : decode cX10_drawn 155 = .ok (.aload_n 0, 1) := by decide +kernel
theorem dX10_drawn_156 : decode cX10_drawn 156 = .ok (.getfield 22, 3) := by decide +kernel
theorem dX10_drawn_159 : decode cX10_drawn 159 = .ok (.iload 8, 2) := by decide +kernel
theorem dX10_drawn_161 : decode cX10_drawn 161 = .ok (.iaload, 1) := by decide +kernel
theorem dX10_drawn_162 : decode cX10_drawn 162 = .ok (.aload_n 0, 1) := by decide +kernel
theorem dX10_drawn_163 : decode cX10_drawn 163 = .ok (.getfield 22, 3) := by decide +kernel
theorem dX10_drawn_166 : decode cX10_drawn 166 = .ok (.iconst 2, 1) := by decide +kernel
theorem dX10_drawn_167 : decode cX10_drawn 167 = .ok (.iaload, 1) := by decide +kernel
theorem dX10_drawn_168 : decode cX10_drawn 168 = .ok (.iadd, 1) := by decide +kernel
theorem dX10_drawn_169 : decode cX10_drawn 169 = .ok (.iastore, 1) := by decide +kernel
theorem dX10_drawn_170 : decode cX10_drawn 170 = .ok (.aload_n 0, 1) := by decide +kernel
theorem dX10_drawn_171 : decode cX10_drawn 171 = .ok (.invokevirtual 153, 3) := by decide +kernel
theorem dX10_drawn_174 : decode cX10_drawn 174 = .ok (.iinc 7 1, 3) := by decide +kernel
theorem dX10_drawn_177 : decode cX10_drawn 177 = .ok (.goto (-113), 3) := by decide +kernel
theorem dX10_drawn_180 : decode cX10_drawn 180 = .ok (.aload_n 0, 1) := by decide +kernel
theorem dX10_drawn_181 : decode cX10_drawn 181 = .ok (.invokevirtual 147, 3) := by decide +kernel
theorem dX10_drawn_184 : decode cX10_drawn 184 = .ok (.iload 4, 2) := by decide +kernel
theorem dX10_drawn_186 : decode cX10_drawn 186 = .ok (.isub, 1) := by decide +kernel
theorem dX10_drawn_187 : decode cX10_drawn 187 = .ok (.istore 7, 2) := by decide +kernel
theorem dX10_drawn_189 : decode cX10_drawn 189 = .ok (.aload_n 0, 1) := by decide +kernel
theorem dX10_drawn_190 : decode cX10_drawn 190 = .ok (.invokevirtual 208, 3) := by decide +kernel
theorem dX10_drawn_193 : decode cX10_drawn 193 = .ok (.istore 8, 2) := by decide +kernel
theorem dX10_drawn_195 : decode cX10_drawn 195 = .ok (.aload_n 0, 1) := by decide +kernel
theorem dX10_drawn_196 : decode cX10_drawn 196 = .ok (.invokevirtual 178, 3) := by decide +kernel
theorem dX10_drawn_199 : decode cX10_drawn 199 = .ok (.iload_n 3, 1) := by decide +kernel
theorem dX10_drawn_200 : decode cX10_drawn 200 = .ok (.ifCond .ne 8, 3) := by decide +kernel
theorem dX10_drawn_203 : decode cX10_drawn 203 = .ok (.iload 7, 2) := by decide +kernel
theorem dX10_drawn_205 : decode cX10_drawn 205 = .ok (.goto 5, 3) := by decide +kernel
theorem dX10_drawn_208 : decode cX10_drawn 208 = .ok (.iload 8, 2) := by decide +kernel
theorem dX10_drawn_210 : decode cX10_drawn 210 = .ok (.ireturn, 1) := by decide +kernel
theorem dX10_image_0 : decode cX10_image 0 = .ok (.iload_n 1, 1) := by decide +kernel
theorem dX10_image_1 : decode cX10_image 1 = .ok (.i2l, 1) := by decide +kernel
theorem dX10_image_2 : decode cX10_image 2 = .ok (.lconst 0, 1) := by decide +kernel
theorem dX10_image_3 : decode cX10_image 3 = .ok (.lconst 1, 1) := by decide +kernel
theorem dX10_image_4 : decode cX10_image 4 = .ok (.invokestatic 50, 3) := by decide +kernel
theorem dX10_image_7 : decode cX10_image 7 = .ok (.ifCond .ne 6, 3) := by decide +kernel
theorem dX10_image_10 : decode cX10_image 10 = .ok (.ldc 60, 2) := by decide +kernel
theorem dX10_image_12 : decode cX10_image 12 = .ok (.ireturn, 1) := by decide +kernel
theorem dX10_image_13 : decode cX10_image 13 = .ok (.aload_n 0, 1) := by decide +kernel
theorem dX10_image_14 : decode cX10_image 14 = .ok (.getfield 117, 3) := by decide +kernel
theorem dX10_image_17 : decode cX10_image 17 = .ok (.ifCond .ne 6, 3) := by decide +kernel
theorem dX10_image_20 : decode cX10_image 20 = .ok (.ldc 144, 2) := by decide +kernel
theorem dX10_image_22 : decode cX10_image 22 = .ok (.ireturn, 1) := by decide +kernel
theorem dX10_image_23 : decode cX10_image 23 = .ok (.aload_n 0, 1) := by decide +kernel
theorem dX10_image_24 : decode cX10_image 24 = .ok (.getfield 37, 3) := by decide +kernel
theorem dX10_image_27 : decode cX10_image 27 = .ok (.bipush 46, 2) := by decide +kernel
theorem dX10_image_29 : decode cX10_image 29 = .ok (.iload_n 1, 1) := by decide +kernel
theorem dX10_image_30 : decode cX10_image 30 = .ok (.imul, 1) := by decide +kernel
theorem dX10_image_31 : decode cX10_image 31 = .ok (.iconst 1, 1) := by decide +kernel
theorem dX10_image_32 : decode cX10_image 32 = .ok (.iastore, 1) := by decide +kernel
theorem dX10_image_33 : decode cX10_image 33 = .ok (.iconst 0, 1) := by decide +kernel
theorem dX10_image_34 : decode cX10_image 34 = .ok (.istore_n 2, 1) := by decide +kernel
theorem dX10_image_35 : decode cX10_image 35 = .ok (.iload_n 2, 1) := by decide +kernel
theorem dX10_image_36 : decode cX10_image 36 = .ok (.bipush 45, 2) := by decide +kernel
theorem dX10_image_38 : decode cX10_image 38 = .ok (.if_icmp .ge 28, 3) := by decide +kernel
theorem dX10_image_41 : decode cX10_image 41 = .ok (.aload_n 0, 1) := by decide +kernel
theorem dX10_image_42 : decode cX10_image 42 = .ok (.getfield 37, 3) := by decide +kernel
theorem dX10_image_45 : decode cX10_image 45 = .ok (.bipush 46, 2) := by decide +kernel
theorem dX10_image_47 : decode cX10_image 47 = .ok (.iload_n 1, 1) := by decide +kernel
theorem dX10_image_48 : decode cX10_image 48 = .ok (.imul, 1) := by decide +kernel
theorem dX10_image_49 : decode cX10_image 49 = .ok (.iconst 1, 1) := by decide +kernel
theorem dX10_image_50 : decode cX10_image 50 = .ok (.iadd, 1) := by decide +kernel
theorem dX10_image_51 : decode cX10_image 51 = .ok (.iload_n 2, 1) := by decide +kernel
theorem dX10_image_52 : decode cX10_image 52 = .ok (.iadd, 1) := by decide +kernel
theorem dX10_image_53 : decode cX10_image 53 = .ok (.aload_n 0, 1) := by decide +kernel
theorem dX10_image_54 : decode cX10_image 54 = .ok (.getfield 22, 3) := by decide +kernel
theorem dX10_image_57 : decode cX10_image 57 = .ok (.iload_n 2, 1) := by decide +kernel
theorem dX10_image_58 : decode cX10_image 58 = .ok (.iaload, 1) := by decide +kernel
theorem dX10_image_59 : decode cX10_image 59 = .ok (.iastore, 1) := by decide +kernel
theorem dX10_image_60 : decode cX10_image 60 = .ok (.iinc 2 1, 3) := by decide +kernel
theorem dX10_image_63 : decode cX10_image 63 = .ok (.goto (-28), 3) := by decide +kernel
theorem dX10_image_66 : decode cX10_image 66 = .ok (.iconst 1, 1) := by decide +kernel
theorem dX10_image_67 : decode cX10_image 67 = .ok (.ireturn, 1) := by decide +kernel
theorem dX10_restore_0 : decode cX10_restore 0 = .ok (.iload_n 1, 1) := by decide +kernel
theorem dX10_restore_1 : decode cX10_restore 1 = .ok (.i2l, 1) := by decide +kernel
theorem dX10_restore_2 : decode cX10_restore 2 = .ok (.lconst 0, 1) := by decide +kernel
theorem dX10_restore_3 : decode cX10_restore 3 = .ok (.lconst 1, 1) := by decide +kernel
theorem dX10_restore_4 : decode cX10_restore 4 = .ok (.invokestatic 50, 3) := by decide +kernel
theorem dX10_restore_7 : decode cX10_restore 7 = .ok (.ifCond .ne 6, 3) := by decide +kernel
theorem dX10_restore_10 : decode cX10_restore 10 = .ok (.ldc 60, 2) := by decide +kernel
theorem dX10_restore_12 : decode cX10_restore 12 = .ok (.ireturn, 1) := by decide +kernel
theorem dX10_restore_13 : decode cX10_restore 13 = .ok (.aload_n 0, 1) := by decide +kernel
theorem dX10_restore_14 : decode cX10_restore 14 = .ok (.getfield 37, 3) := by decide +kernel
theorem dX10_restore_17 : decode cX10_restore 17 = .ok (.bipush 46, 2) := by decide +kernel
theorem dX10_restore_19 : decode cX10_restore 19 = .ok (.iload_n 1, 1) := by decide +kernel
theorem dX10_restore_20 : decode cX10_restore 20 = .ok (.imul, 1) := by decide +kernel
theorem dX10_restore_21 : decode cX10_restore 21 = .ok (.iaload, 1) := by decide +kernel
theorem dX10_restore_22 : decode cX10_restore 22 = .ok (.ifCond .ne 6, 3) := by decide +kernel
theorem dX10_restore_25 : decode cX10_restore 25 = .ok (.ldc 144, 2) := by decide +kernel
theorem dX10_restore_27 : decode cX10_restore 27 = .ok (.ireturn, 1) := by decide +kernel
theorem dX10_restore_28 : decode cX10_restore 28 = .ok (.iconst 0, 1) := by decide +kernel
theorem dX10_restore_29 : decode cX10_restore 29 = .ok (.istore_n 2, 1) := by decide +kernel
theorem dX10_restore_30 : decode cX10_restore 30 = .ok (.iload_n 2, 1) := by decide +kernel
theorem dX10_restore_31 : decode cX10_restore 31 = .ok (.bipush 45, 2) := by decide +kernel
theorem dX10_restore_33 : decode cX10_restore 33 = .ok (.if_icmp .ge 28, 3) := by decide +kernel
theorem dX10_restore_36 : decode cX10_restore 36 = .ok (.aload_n 0, 1) := by decide +kernel
theorem dX10_restore_37 : decode cX10_restore 37 = .ok (.getfield 22, 3) := by decide +kernel
theorem dX10_restore_40 : decode cX10_restore 40 = .ok (.iload_n 2, 1) := by decide +kernel
theorem dX10_restore_41 : decode cX10_restore 41 = .ok (.aload_n 0, 1) := by decide +kernel
theorem dX10_restore_42 : decode cX10_restore 42 = .ok (.getfield 37, 3) := by decide +kernel
theorem dX10_restore_45 : decode cX10_restore 45 = .ok (.bipush 46, 2) := by decide +kernel
theorem dX10_restore_47 : decode cX10_restore 47 = .ok (.iload_n 1, 1) := by decide +kernel
theorem dX10_restore_48 : decode cX10_restore 48 = .ok (.imul, 1) := by decide +kernel
theorem dX10_restore_49 : decode cX10_restore 49 = .ok (.iconst 1, 1) := by decide +kernel
theorem dX10_restore_50 : decode cX10_restore 50 = .ok (.iadd, 1) := by decide +kernel
theorem dX10_restore_51 : decode cX10_restore 51 = .ok (.iload_n 2, 1) := by decide +kernel
theorem dX10_restore_52 : decode cX10_restore 52 = .ok (.iadd, 1) := by decide +kernel
theorem dX10_restore_53 : decode cX10_restore 53 = .ok (.iaload, 1) := by decide +kernel
theorem dX10_restore_54 : decode cX10_restore 54 = .ok (.iastore, 1) := by decide +kernel
theorem dX10_restore_55 : decode cX10_restore 55 = .ok (.iinc 2 1, 3) := by decide +kernel
theorem dX10_restore_58 : decode cX10_restore 58 = .ok (.goto (-28), 3) := by decide +kernel
theorem dX10_restore_61 : decode cX10_restore 61 = .ok (.aload_n 0, 1) := by decide +kernel
theorem dX10_restore_62 : decode cX10_restore 62 = .ok (.iconst 0, 1) := by decide +kernel
theorem dX10_restore_63 : decode cX10_restore 63 = .ok (.putfield 121, 3) := by decide +kernel
theorem dX10_restore_66 : decode cX10_restore 66 = .ok (.iconst 1, 1) := by decide +kernel
theorem dX10_restore_67 : decode cX10_restore 67 = .ok (.ireturn, 1) := by decide +kernel
theorem dX10_begins_0 : decode cX10_begins 0 = .ok (.aload_n 0, 1) := by decide +kernel
theorem dX10_begins_1 : decode cX10_begins 1 = .ok (.getfield 226, 3) := by decide +kernel
theorem dX10_begins_4 : decode cX10_begins 4 = .ok (.bipush 16, 2) := by decide +kernel
theorem dX10_begins_6 : decode cX10_begins 6 = .ok (.if_icmp .ge 23, 3) := by decide +kernel
theorem dX10_begins_9 : decode cX10_begins 9 = .ok (.aload_n 0, 1) := by decide +kernel
theorem dX10_begins_10 : decode cX10_begins 10 = .ok (.getfield 40, 3) := by decide +kernel
theorem dX10_begins_13 : decode cX10_begins 13 = .ok (.aload_n 0, 1) := by decide +kernel
theorem dX10_begins_14 : decode cX10_begins 14 = .ok (.getfield 226, 3) := by decide +kernel
theorem dX10_begins_17 : decode cX10_begins 17 = .ok (.iload_n 1, 1) := by decide +kernel
theorem dX10_begins_18 : decode cX10_begins 18 = .ok (.iastore, 1) := by decide +kernel
theorem dX10_begins_19 : decode cX10_begins 19 = .ok (.aload_n 0, 1) := by decide +kernel
theorem dX10_begins_20 : decode cX10_begins 20 = .ok (.dup, 1) := by decide +kernel
theorem dX10_begins_21 : decode cX10_begins 21 = .ok (.getfield 226, 3) := by decide +kernel
theorem dX10_begins_24 : decode cX10_begins 24 = .ok (.iconst 1, 1) := by decide +kernel
theorem dX10_begins_25 : decode cX10_begins 25 = .ok (.iadd, 1) := by decide +kernel
theorem dX10_begins_26 : decode cX10_begins 26 = .ok (.putfield 226, 3) := by decide +kernel
theorem dX10_begins_29 : decode cX10_begins 29 = .ok (.return_, 1) := by decide +kernel
theorem dX10_kind_0 : decode cX10_kind 0 = .ok (.aload_n 0, 1) := by decide +kernel
theorem dX10_kind_1 : decode cX10_kind 1 = .ok (.iload_n 1, 1) := by decide +kernel
theorem dX10_kind_2 : decode cX10_kind 2 = .ok (.invokevirtual 156, 3) := by decide +kernel
theorem dX10_kind_5 : decode cX10_kind 5 = .ok (.ifCond .eq 12, 3) := by decide +kernel
theorem dX10_kind_8 : decode cX10_kind 8 = .ok (.aload_n 0, 1) := by decide +kernel
theorem dX10_kind_9 : decode cX10_kind 9 = .ok (.iload_n 1, 1) := by decide +kernel
theorem dX10_kind_10 : decode cX10_kind 10 = .ok (.iconst 0, 1) := by decide +kernel
theorem dX10_kind_11 : decode cX10_kind 11 = .ok (.invokevirtual 126, 3) := by decide +kernel
theorem dX10_kind_14 : decode cX10_kind 14 = .ok (.goto 5, 3) := by decide +kernel
theorem dX10_kind_17 : decode cX10_kind 17 = .ok (.ldc 60, 2) := by decide +kernel
theorem dX10_kind_19 : decode cX10_kind 19 = .ok (.ireturn, 1) := by decide +kernel
theorem dX10_isKind_0 : decode cX10_isKind 0 = .ok (.iload_n 1, 1) := by decide +kernel
theorem dX10_isKind_1 : decode cX10_isKind 1 = .ok (.ifCond .eq 28, 3) := by decide +kernel
theorem dX10_isKind_4 : decode cX10_isKind 4 = .ok (.iload_n 0, 1) := by decide +kernel
theorem dX10_isKind_5 : decode cX10_isKind 5 = .ok (.iload_n 1, 1) := by decide +kernel
theorem dX10_isKind_6 : decode cX10_isKind 6 = .ok (.if_icmp .eq 23, 3) := by decide +kernel
theorem dX10_isKind_9 : decode cX10_isKind 9 = .ok (.iload_n 1, 1) := by decide +kernel
theorem dX10_isKind_10 : decode cX10_isKind 10 = .ok (.iconst 1, 1) := by decide +kernel
theorem dX10_isKind_11 : decode cX10_isKind 11 = .ok (.if_icmp .ne 8, 3) := by decide +kernel
theorem dX10_isKind_14 : decode cX10_isKind 14 = .ok (.iload_n 0, 1) := by decide +kernel
theorem dX10_isKind_15 : decode cX10_isKind 15 = .ok (.iconst 4, 1) := by decide +kernel
theorem dX10_isKind_16 : decode cX10_isKind 16 = .ok (.if_icmp .lt 13, 3) := by decide +kernel
theorem dX10_isKind_19 : decode cX10_isKind 19 = .ok (.iload_n 1, 1) := by decide +kernel
theorem dX10_isKind_20 : decode cX10_isKind 20 = .ok (.iconst 4, 1) := by decide +kernel
theorem dX10_isKind_21 : decode cX10_isKind 21 = .ok (.if_icmp .ne 12, 3) := by decide +kernel
theorem dX10_isKind_24 : decode cX10_isKind 24 = .ok (.iload_n 0, 1) := by decide +kernel
theorem dX10_isKind_25 : decode cX10_isKind 25 = .ok (.iconst 5, 1) := by decide +kernel
theorem dX10_isKind_26 : decode cX10_isKind 26 = .ok (.if_icmp .ne 7, 3) := by decide +kernel
theorem dX10_isKind_29 : decode cX10_isKind 29 = .ok (.iconst 1, 1) := by decide +kernel
theorem dX10_isKind_30 : decode cX10_isKind 30 = .ok (.goto 4, 3) := by decide +kernel
theorem dX10_isKind_33 : decode cX10_isKind 33 = .ok (.iconst 0, 1) := by decide +kernel
theorem dX10_isKind_34 : decode cX10_isKind 34 = .ok (.ireturn, 1) := by decide +kernel
theorem dX10_as_0 : decode cX10_as 0 = .ok (.aload_n 0, 1) := by decide +kernel
theorem dX10_as_1 : decode cX10_as 1 = .ok (.iload_n 1, 1) := by decide +kernel
theorem dX10_as_2 : decode cX10_as 2 = .ok (.invokevirtual 156, 3) := by decide +kernel
theorem dX10_as_5 : decode cX10_as 5 = .ok (.ifCond .eq 15, 3) := by decide +kernel
theorem dX10_as_8 : decode cX10_as 8 = .ok (.iload_n 2, 1) := by decide +kernel
theorem dX10_as_9 : decode cX10_as 9 = .ok (.i2l, 1) := by decide +kernel
theorem dX10_as_10 : decode cX10_as 10 = .ok (.lconst 0, 1) := by decide +kernel
theorem dX10_as_11 : decode cX10_as 11 = .ok (.ldc2_w 161, 3) := by decide +kernel
theorem dX10_as_14 : decode cX10_as 14 = .ok (.invokestatic 50, 3) := by decide +kernel
theorem dX10_as_17 : decode cX10_as 17 = .ok (.ifCond .ne 6, 3) := by decide +kernel
theorem dX10_as_20 : decode cX10_as 20 = .ok (.ldc 60, 2) := by decide +kernel
theorem dX10_as_22 : decode cX10_as 22 = .ok (.ireturn, 1) := by decide +kernel
theorem dX10_as_23 : decode cX10_as 23 = .ok (.aload_n 0, 1) := by decide +kernel
theorem dX10_as_24 : decode cX10_as 24 = .ok (.iload_n 1, 1) := by decide +kernel
theorem dX10_as_25 : decode cX10_as 25 = .ok (.iconst 0, 1) := by decide +kernel
theorem dX10_as_26 : decode cX10_as 26 = .ok (.invokevirtual 126, 3) := by decide +kernel
theorem dX10_as_29 : decode cX10_as 29 = .ok (.iload_n 2, 1) := by decide +kernel
theorem dX10_as_30 : decode cX10_as 30 = .ok (.invokestatic 229, 3) := by decide +kernel
theorem dX10_as_33 : decode cX10_as 33 = .ok (.ifCond .eq 11, 3) := by decide +kernel
theorem dX10_as_36 : decode cX10_as 36 = .ok (.aload_n 0, 1) := by decide +kernel
theorem dX10_as_37 : decode cX10_as 37 = .ok (.iload_n 1, 1) := by decide +kernel
theorem dX10_as_38 : decode cX10_as 38 = .ok (.invokevirtual 65, 3) := by decide +kernel
theorem dX10_as_41 : decode cX10_as 41 = .ok (.goto 8, 3) := by decide +kernel
theorem dX10_as_44 : decode cX10_as 44 = .ok (.aload_n 0, 1) := by decide +kernel
theorem dX10_as_45 : decode cX10_as 45 = .ok (.iconst 3, 1) := by decide +kernel
theorem dX10_as_46 : decode cX10_as 46 = .ok (.invokevirtual 61, 3) := by decide +kernel
theorem dX10_as_49 : decode cX10_as 49 = .ok (.ireturn, 1) := by decide +kernel
theorem dX10_lent_0 : decode cX10_lent 0 = .ok (.aload_n 0, 1) := by decide +kernel
theorem dX10_lent_1 : decode cX10_lent 1 = .ok (.bipush 10, 2) := by decide +kernel
theorem dX10_lent_3 : decode cX10_lent 3 = .ok (.invokevirtual 233, 3) := by decide +kernel
theorem dX10_lent_6 : decode cX10_lent 6 = .ok (.aload_n 0, 1) := by decide +kernel
theorem dX10_lent_7 : decode cX10_lent 7 = .ok (.iload_n 1, 1) := by decide +kernel
theorem dX10_lent_8 : decode cX10_lent 8 = .ok (.iconst 3, 1) := by decide +kernel
theorem dX10_lent_9 : decode cX10_lent 9 = .ok (.invokevirtual 126, 3) := by decide +kernel
theorem dX10_lent_12 : decode cX10_lent 12 = .ok (.ireturn, 1) := by decide +kernel
theorem dX10_marks_0 : decode cX10_marks 0 = .ok (.aload_n 0, 1) := by decide +kernel
theorem dX10_marks_1 : decode cX10_marks 1 = .ok (.iload_n 1, 1) := by decide +kernel
theorem dX10_marks_2 : decode cX10_marks 2 = .ok (.iconst 0, 1) := by decide +kernel
theorem dX10_marks_3 : decode cX10_marks 3 = .ok (.invokevirtual 126, 3) := by decide +kernel
theorem dX10_marks_6 : decode cX10_marks 6 = .ok (.istore_n 2, 1) := by decide +kernel
theorem dX10_marks_7 : decode cX10_marks 7 = .ok (.iload_n 2, 1) := by decide +kernel
theorem dX10_marks_8 : decode cX10_marks 8 = .ok (.iconst 3, 1) := by decide +kernel
theorem dX10_marks_9 : decode cX10_marks 9 = .ok (.if_icmp .le 23, 3) := by decide +kernel
theorem dX10_marks_12 : decode cX10_marks 12 = .ok (.aload_n 0, 1) := by decide +kernel
theorem dX10_marks_13 : decode cX10_marks 13 = .ok (.bipush 23, 2) := by decide +kernel
theorem dX10_marks_15 : decode cX10_marks 15 = .ok (.invokevirtual 233, 3) := by decide +kernel
theorem dX10_marks_18 : decode cX10_marks 18 = .ok (.aload_n 0, 1) := by decide +kernel
theorem dX10_marks_19 : decode cX10_marks 19 = .ok (.bipush 20, 2) := by decide +kernel
theorem dX10_marks_21 : decode cX10_marks 21 = .ok (.invokevirtual 233, 3) := by decide +kernel
theorem dX10_marks_24 : decode cX10_marks 24 = .ok (.iload_n 1, 1) := by decide +kernel
theorem dX10_marks_25 : decode cX10_marks 25 = .ok (.aload_n 0, 1) := by decide +kernel
theorem dX10_marks_26 : decode cX10_marks 26 = .ok (.iload_n 1, 1) := by decide +kernel
theorem dX10_marks_27 : decode cX10_marks 27 = .ok (.invokevirtual 236, 3) := by decide +kernel
theorem dX10_marks_30 : decode cX10_marks 30 = .ok (.isub, 1) := by decide +kernel
theorem dX10_marks_31 : decode cX10_marks 31 = .ok (.ireturn, 1) := by decide +kernel
theorem dX10_marks_32 : decode cX10_marks 32 = .ok (.iload_n 2, 1) := by decide +kernel
theorem dX10_marks_33 : decode cX10_marks 33 = .ok (.iconst 1, 1) := by decide +kernel
theorem dX10_marks_34 : decode cX10_marks 34 = .ok (.if_icmp .le 19, 3) := by decide +kernel
theorem dX10_marks_37 : decode cX10_marks 37 = .ok (.aload_n 0, 1) := by decide +kernel
theorem dX10_marks_38 : decode cX10_marks 38 = .ok (.iload_n 2, 1) := by decide +kernel
theorem dX10_marks_39 : decode cX10_marks 39 = .ok (.iconst 2, 1) := by decide +kernel
theorem dX10_marks_40 : decode cX10_marks 40 = .ok (.if_icmp .ne 8, 3) := by decide +kernel
theorem dX10_marks_43 : decode cX10_marks 43 = .ok (.bipush 24, 2) := by decide +kernel
theorem dX10_marks_45 : decode cX10_marks 45 = .ok (.goto 5, 3) := by decide +kernel
theorem dX10_marks_48 : decode cX10_marks 48 = .ok (.bipush 22, 2) := by decide +kernel
theorem dX10_marks_50 : decode cX10_marks 50 = .ok (.invokevirtual 233, 3) := by decide +kernel
theorem dX10_marks_53 : decode cX10_marks 53 = .ok (.aload_n 0, 1) := by decide +kernel
theorem dX10_marks_54 : decode cX10_marks 54 = .ok (.bipush 21, 2) := by decide +kernel
theorem dX10_marks_56 : decode cX10_marks 56 = .ok (.invokevirtual 233, 3) := by decide +kernel
theorem dX10_marks_59 : decode cX10_marks 59 = .ok (.aload_n 0, 1) := by decide +kernel
theorem dX10_marks_60 : decode cX10_marks 60 = .ok (.bipush 20, 2) := by decide +kernel
theorem dX10_marks_62 : decode cX10_marks 62 = .ok (.invokevirtual 233, 3) := by decide +kernel
theorem dX10_marks_65 : decode cX10_marks 65 = .ok (.iload_n 1, 1) := by decide +kernel
theorem dX10_marks_66 : decode cX10_marks 66 = .ok (.aload_n 0, 1) := by decide +kernel
theorem dX10_marks_67 : decode cX10_marks 67 = .ok (.iload_n 1, 1) := by decide +kernel
theorem dX10_marks_68 : decode cX10_marks 68 = .ok (.iconst 2, 1) := by decide +kernel
theorem dX10_marks_69 : decode cX10_marks 69 = .ok (.invokevirtual 126, 3) := by decide +kernel
theorem dX10_marks_72 : decode cX10_marks 72 = .ok (.iadd, 1) := by decide +kernel
theorem dX10_marks_73 : decode cX10_marks 73 = .ok (.istore_n 3, 1) := by decide +kernel
theorem dX10_marks_74 : decode cX10_marks 74 = .ok (.iload_n 2, 1) := by decide +kernel
theorem dX10_marks_75 : decode cX10_marks 75 = .ok (.iconst 2, 1) := by decide +kernel
theorem dX10_marks_76 : decode cX10_marks 76 = .ok (.if_icmp .ne 9, 3) := by decide +kernel
theorem dX10_marks_79 : decode cX10_marks 79 = .ok (.iconst 2, 1) := by decide +kernel
theorem dX10_marks_80 : decode cX10_marks 80 = .ok (.iload_n 3, 1) := by decide +kernel
theorem dX10_marks_81 : decode cX10_marks 81 = .ok (.imul, 1) := by decide +kernel
theorem dX10_marks_82 : decode cX10_marks 82 = .ok (.goto 17, 3) := by decide +kernel
theorem dX10_marks_85 : decode cX10_marks 85 = .ok (.iload_n 2, 1) := by decide +kernel
theorem dX10_marks_86 : decode cX10_marks 86 = .ok (.iconst 3, 1) := by decide +kernel
theorem dX10_marks_87 : decode cX10_marks 87 = .ok (.if_icmp .ne 11, 3) := by decide +kernel
theorem dX10_marks_90 : decode cX10_marks 90 = .ok (.iload_n 3, 1) := by decide +kernel
theorem dX10_marks_91 : decode cX10_marks 91 = .ok (.sipush 1000, 3) := by decide +kernel
theorem dX10_marks_94 : decode cX10_marks 94 = .ok (.isub, 1) := by decide +kernel
theorem dX10_marks_95 : decode cX10_marks 95 = .ok (.goto 4, 3) := by decide +kernel
theorem dX10_marks_98 : decode cX10_marks 98 = .ok (.iload_n 3, 1) := by decide +kernel
theorem dX10_marks_99 : decode cX10_marks 99 = .ok (.ireturn, 1) := by decide +kernel
theorem dX10_fogs_0 : decode cX10_fogs 0 = .ok (.aload_n 0, 1) := by decide +kernel
theorem dX10_fogs_1 : decode cX10_fogs 1 = .ok (.iload_n 1, 1) := by decide +kernel
theorem dX10_fogs_2 : decode cX10_fogs 2 = .ok (.iconst 0, 1) := by decide +kernel
theorem dX10_fogs_3 : decode cX10_fogs 3 = .ok (.invokevirtual 126, 3) := by decide +kernel
theorem dX10_fogs_6 : decode cX10_fogs 6 = .ok (.iconst 5, 1) := by decide +kernel
theorem dX10_fogs_7 : decode cX10_fogs 7 = .ok (.if_icmp .ne 7, 3) := by decide +kernel
theorem dX10_fogs_10 : decode cX10_fogs 10 = .ok (.iconst 1, 1) := by decide +kernel
theorem dX10_fogs_11 : decode cX10_fogs 11 = .ok (.goto 4, 3) := by decide +kernel
theorem dX10_fogs_14 : decode cX10_fogs 14 = .ok (.iconst 0, 1) := by decide +kernel
theorem dX10_fogs_15 : decode cX10_fogs 15 = .ok (.istore_n 2, 1) := by decide +kernel
theorem dX10_fogs_16 : decode cX10_fogs 16 = .ok (.iload_n 2, 1) := by decide +kernel
theorem dX10_fogs_17 : decode cX10_fogs 17 = .ok (.ifCond .eq 9, 3) := by decide +kernel
theorem dX10_fogs_20 : decode cX10_fogs 20 = .ok (.aload_n 0, 1) := by decide +kernel
theorem dX10_fogs_21 : decode cX10_fogs 21 = .ok (.bipush 14, 2) := by decide +kernel
theorem dX10_fogs_23 : decode cX10_fogs 23 = .ok (.invokevirtual 233, 3) := by decide +kernel
theorem dX10_fogs_26 : decode cX10_fogs 26 = .ok (.aload_n 0, 1) := by decide +kernel
theorem dX10_fogs_27 : decode cX10_fogs 27 = .ok (.bipush 13, 2) := by decide +kernel
theorem dX10_fogs_29 : decode cX10_fogs 29 = .ok (.invokevirtual 233, 3) := by decide +kernel
theorem dX10_fogs_32 : decode cX10_fogs 32 = .ok (.aload_n 0, 1) := by decide +kernel
theorem dX10_fogs_33 : decode cX10_fogs 33 = .ok (.iload_n 1, 1) := by decide +kernel
theorem dX10_fogs_34 : decode cX10_fogs 34 = .ok (.invokevirtual 239, 3) := by decide +kernel
theorem dX10_fogs_37 : decode cX10_fogs 37 = .ok (.bipush 100, 2) := by decide +kernel
theorem dX10_fogs_39 : decode cX10_fogs 39 = .ok (.isub, 1) := by decide +kernel
theorem dX10_fogs_40 : decode cX10_fogs 40 = .ok (.istore_n 3, 1) := by decide +kernel
theorem dX10_fogs_41 : decode cX10_fogs 41 = .ok (.iload_n 2, 1) := by decide +kernel
theorem dX10_fogs_42 : decode cX10_fogs 42 = .ok (.ifCond .eq 9, 3) := by decide +kernel
theorem dX10_fogs_45 : decode cX10_fogs 45 = .ok (.iconst 2, 1) := by decide +kernel
theorem dX10_fogs_46 : decode cX10_fogs 46 = .ok (.iload_n 3, 1) := by decide +kernel
theorem dX10_fogs_47 : decode cX10_fogs 47 = .ok (.imul, 1) := by decide +kernel
theorem dX10_fogs_48 : decode cX10_fogs 48 = .ok (.goto 4, 3) := by decide +kernel
theorem dX10_fogs_51 : decode cX10_fogs 51 = .ok (.iload_n 3, 1) := by decide +kernel
theorem dX10_fogs_52 : decode cX10_fogs 52 = .ok (.ireturn, 1) := by decide +kernel
theorem dX10_sizeOf_0 : decode cX10_sizeOf 0 = .ok (.aload_n 0, 1) := by decide +kernel
theorem dX10_sizeOf_1 : decode cX10_sizeOf 1 = .ok (.iload_n 1, 1) := by decide +kernel
theorem dX10_sizeOf_2 : decode cX10_sizeOf 2 = .ok (.iconst 0, 1) := by decide +kernel
theorem dX10_sizeOf_3 : decode cX10_sizeOf 3 = .ok (.invokevirtual 126, 3) := by decide +kernel
theorem dX10_sizeOf_6 : decode cX10_sizeOf 6 = .ok (.istore_n 2, 1) := by decide +kernel
theorem dX10_sizeOf_7 : decode cX10_sizeOf 7 = .ok (.iload_n 2, 1) := by decide +kernel
theorem dX10_sizeOf_8 : decode cX10_sizeOf 8 = .ok (.iconst 3, 1) := by decide +kernel
theorem dX10_sizeOf_9 : decode cX10_sizeOf 9 = .ok (.if_icmp .le 9, 3) := by decide +kernel
theorem dX10_sizeOf_12 : decode cX10_sizeOf 12 = .ok (.aload_n 0, 1) := by decide +kernel
theorem dX10_sizeOf_13 : decode cX10_sizeOf 13 = .ok (.iload_n 1, 1) := by decide +kernel
theorem dX10_sizeOf_14 : decode cX10_sizeOf 14 = .ok (.invokevirtual 236, 3) := by decide +kernel
theorem dX10_sizeOf_17 : decode cX10_sizeOf 17 = .ok (.ireturn, 1) := by decide +kernel
theorem dX10_sizeOf_18 : decode cX10_sizeOf 18 = .ok (.iload_n 2, 1) := by decide +kernel
theorem dX10_sizeOf_19 : decode cX10_sizeOf 19 = .ok (.iconst 2, 1) := by decide +kernel
theorem dX10_sizeOf_20 : decode cX10_sizeOf 20 = .ok (.if_icmp .ne 9, 3) := by decide +kernel
theorem dX10_sizeOf_23 : decode cX10_sizeOf 23 = .ok (.aload_n 0, 1) := by decide +kernel
theorem dX10_sizeOf_24 : decode cX10_sizeOf 24 = .ok (.bipush 12, 2) := by decide +kernel
theorem dX10_sizeOf_26 : decode cX10_sizeOf 26 = .ok (.invokevirtual 233, 3) := by decide +kernel
theorem dX10_sizeOf_29 : decode cX10_sizeOf 29 = .ok (.aload_n 0, 1) := by decide +kernel
theorem dX10_sizeOf_30 : decode cX10_sizeOf 30 = .ok (.bipush 11, 2) := by decide +kernel
theorem dX10_sizeOf_32 : decode cX10_sizeOf 32 = .ok (.invokevirtual 233, 3) := by decide +kernel
theorem dX10_sizeOf_35 : decode cX10_sizeOf 35 = .ok (.aload_n 0, 1) := by decide +kernel
theorem dX10_sizeOf_36 : decode cX10_sizeOf 36 = .ok (.iload_n 1, 1) := by decide +kernel
theorem dX10_sizeOf_37 : decode cX10_sizeOf 37 = .ok (.invokevirtual 239, 3) := by decide +kernel
theorem dX10_sizeOf_40 : decode cX10_sizeOf 40 = .ok (.istore_n 3, 1) := by decide +kernel
theorem dX10_sizeOf_41 : decode cX10_sizeOf 41 = .ok (.iload_n 3, 1) := by decide +kernel
theorem dX10_sizeOf_42 : decode cX10_sizeOf 42 = .ok (.aload_n 0, 1) := by decide +kernel
theorem dX10_sizeOf_43 : decode cX10_sizeOf 43 = .ok (.iload_n 1, 1) := by decide +kernel
theorem dX10_sizeOf_44 : decode cX10_sizeOf 44 = .ok (.invokevirtual 242, 3) := by decide +kernel
theorem dX10_sizeOf_47 : decode cX10_sizeOf 47 = .ok (.iadd, 1) := by decide +kernel
theorem dX10_sizeOf_48 : decode cX10_sizeOf 48 = .ok (.istore_n 3, 1) := by decide +kernel
theorem dX10_sizeOf_49 : decode cX10_sizeOf 49 = .ok (.iload_n 2, 1) := by decide +kernel
theorem dX10_sizeOf_50 : decode cX10_sizeOf 50 = .ok (.iconst 2, 1) := by decide +kernel
theorem dX10_sizeOf_51 : decode cX10_sizeOf 51 = .ok (.if_icmp .ne 8, 3) := by decide +kernel
theorem dX10_sizeOf_54 : decode cX10_sizeOf 54 = .ok (.iload_n 3, 1) := by decide +kernel
theorem dX10_sizeOf_55 : decode cX10_sizeOf 55 = .ok (.ineg, 1) := by decide +kernel
theorem dX10_sizeOf_56 : decode cX10_sizeOf 56 = .ok (.goto 4, 3) := by decide +kernel
theorem dX10_sizeOf_59 : decode cX10_sizeOf 59 = .ok (.iload_n 3, 1) := by decide +kernel
theorem dX10_sizeOf_60 : decode cX10_sizeOf 60 = .ok (.ireturn, 1) := by decide +kernel
theorem dX10_ask_0 : decode cX10_ask 0 = .ok (.aload_n 0, 1) := by decide +kernel
theorem dX10_ask_1 : decode cX10_ask 1 = .ok (.iload_n 1, 1) := by decide +kernel
theorem dX10_ask_2 : decode cX10_ask 2 = .ok (.invokevirtual 156, 3) := by decide +kernel
theorem dX10_ask_5 : decode cX10_ask 5 = .ok (.ifCond .eq 13, 3) := by decide +kernel
theorem dX10_ask_8 : decode cX10_ask 8 = .ok (.iload_n 2, 1) := by decide +kernel
theorem dX10_ask_9 : decode cX10_ask 9 = .ok (.i2l, 1) := by decide +kernel
theorem dX10_ask_10 : decode cX10_ask 10 = .ok (.lconst 0, 1) := by decide +kernel
theorem dX10_ask_11 : decode cX10_ask 11 = .ok (.lconst 1, 1) := by decide +kernel
theorem dX10_ask_12 : decode cX10_ask 12 = .ok (.invokestatic 50, 3) := by decide +kernel
theorem dX10_ask_15 : decode cX10_ask 15 = .ok (.ifCond .ne 6, 3) := by decide +kernel
theorem dX10_ask_18 : decode cX10_ask 18 = .ok (.ldc 60, 2) := by decide +kernel
theorem dX10_ask_20 : decode cX10_ask 20 = .ok (.ireturn, 1) := by decide +kernel
theorem dX10_ask_21 : decode cX10_ask 21 = .ok (.aload_n 0, 1) := by decide +kernel
theorem dX10_ask_22 : decode cX10_ask 22 = .ok (.iconst 0, 1) := by decide +kernel
theorem dX10_ask_23 : decode cX10_ask 23 = .ok (.putfield 226, 3) := by decide +kernel
theorem dX10_ask_26 : decode cX10_ask 26 = .ok (.iload_n 2, 1) := by decide +kernel
theorem dX10_ask_27 : decode cX10_ask 27 = .ok (.ifCond .ne 11, 3) := by decide +kernel
theorem dX10_ask_30 : decode cX10_ask 30 = .ok (.aload_n 0, 1) := by decide +kernel
theorem dX10_ask_31 : decode cX10_ask 31 = .ok (.iload_n 1, 1) := by decide +kernel
theorem dX10_ask_32 : decode cX10_ask 32 = .ok (.invokevirtual 245, 3) := by decide +kernel
theorem dX10_ask_35 : decode cX10_ask 35 = .ok (.goto 8, 3) := by decide +kernel
theorem dX10_ask_38 : decode cX10_ask 38 = .ok (.aload_n 0, 1) := by decide +kernel
theorem dX10_ask_39 : decode cX10_ask 39 = .ok (.iload_n 1, 1) := by decide +kernel
theorem dX10_ask_40 : decode cX10_ask 40 = .ok (.invokevirtual 242, 3) := by decide +kernel
theorem dX10_ask_43 : decode cX10_ask 43 = .ok (.ireturn, 1) := by decide +kernel
theorem dX10_trace_0 : decode cX10_trace 0 = .ok (.iload_n 1, 1) := by decide +kernel
theorem dX10_trace_1 : decode cX10_trace 1 = .ok (.i2l, 1) := by decide +kernel
theorem dX10_trace_2 : decode cX10_trace 2 = .ok (.lconst 0, 1) := by decide +kernel
theorem dX10_trace_3 : decode cX10_trace 3 = .ok (.aload_n 0, 1) := by decide +kernel
theorem dX10_trace_4 : decode cX10_trace 4 = .ok (.getfield 226, 3) := by decide +kernel
theorem dX10_trace_7 : decode cX10_trace 7 = .ok (.iconst 1, 1) := by decide +kernel
theorem dX10_trace_8 : decode cX10_trace 8 = .ok (.isub, 1) := by decide +kernel
theorem dX10_trace_9 : decode cX10_trace 9 = .ok (.i2l, 1) := by decide +kernel
theorem dX10_trace_10 : decode cX10_trace 10 = .ok (.invokestatic 50, 3) := by decide +kernel
theorem dX10_trace_13 : decode cX10_trace 13 = .ok (.ifCond .eq 12, 3) := by decide +kernel
theorem dX10_trace_16 : decode cX10_trace 16 = .ok (.aload_n 0, 1) := by decide +kernel
theorem dX10_trace_17 : decode cX10_trace 17 = .ok (.getfield 40, 3) := by decide +kernel
theorem dX10_trace_20 : decode cX10_trace 20 = .ok (.iload_n 1, 1) := by decide +kernel
theorem dX10_trace_21 : decode cX10_trace 21 = .ok (.iaload, 1) := by decide +kernel
theorem dX10_trace_22 : decode cX10_trace 22 = .ok (.goto 5, 3) := by decide +kernel
theorem dX10_trace_25 : decode cX10_trace 25 = .ok (.ldc 177, 2) := by decide +kernel
theorem dX10_trace_27 : decode cX10_trace 27 = .ok (.ireturn, 1) := by decide +kernel
theorem dX10_count_0 : decode cX10_count 0 = .ok (.iconst 0, 1) := by decide +kernel
theorem dX10_count_1 : decode cX10_count 1 = .ok (.istore_n 2, 1) := by decide +kernel
theorem dX10_count_2 : decode cX10_count 2 = .ok (.iconst 0, 1) := by decide +kernel
theorem dX10_count_3 : decode cX10_count 3 = .ok (.istore_n 3, 1) := by decide +kernel
theorem dX10_count_4 : decode cX10_count 4 = .ok (.iload_n 3, 1) := by decide +kernel
theorem dX10_count_5 : decode cX10_count 5 = .ok (.bipush 8, 2) := by decide +kernel
theorem dX10_count_7 : decode cX10_count 7 = .ok (.if_icmp .ge 26, 3) := by decide +kernel
theorem dX10_count_10 : decode cX10_count 10 = .ok (.iload_n 2, 1) := by decide +kernel
theorem dX10_count_11 : decode cX10_count 11 = .ok (.aload_n 0, 1) := by decide +kernel
theorem dX10_count_12 : decode cX10_count 12 = .ok (.getfield 7, 3) := by decide +kernel
theorem dX10_count_15 : decode cX10_count 15 = .ok (.iload_n 3, 1) := by decide +kernel
theorem dX10_count_16 : decode cX10_count 16 = .ok (.iaload, 1) := by decide +kernel
theorem dX10_count_17 : decode cX10_count 17 = .ok (.ifCond .ge 7, 3) := by decide +kernel
theorem dX10_count_20 : decode cX10_count 20 = .ok (.iconst 0, 1) := by decide +kernel
theorem dX10_count_21 : decode cX10_count 21 = .ok (.goto 4, 3) := by decide +kernel
theorem dX10_count_24 : decode cX10_count 24 = .ok (.iconst 1, 1) := by decide +kernel
theorem dX10_count_25 : decode cX10_count 25 = .ok (.iadd, 1) := by decide +kernel
theorem dX10_count_26 : decode cX10_count 26 = .ok (.istore_n 2, 1) := by decide +kernel
theorem dX10_count_27 : decode cX10_count 27 = .ok (.iinc 3 1, 3) := by decide +kernel
theorem dX10_count_30 : decode cX10_count 30 = .ok (.goto (-26), 3) := by decide +kernel
theorem dX10_count_33 : decode cX10_count 33 = .ok (.iload_n 1, 1) := by decide +kernel
theorem dX10_count_34 : decode cX10_count 34 = .ok (.tableswitch 89 0 7 #[46, 48, 55, 60, 67, 74, 79, 84], 46) := by decide +kernel
theorem dX10_count_80 : decode cX10_count 80 = .ok (.iload_n 2, 1) := by decide +kernel
theorem dX10_count_81 : decode cX10_count 81 = .ok (.ireturn, 1) := by decide +kernel
theorem dX10_count_82 : decode cX10_count 82 = .ok (.aload_n 0, 1) := by decide +kernel
theorem dX10_count_83 : decode cX10_count 83 = .ok (.getfield 22, 3) := by decide +kernel
theorem dX10_count_86 : decode cX10_count 86 = .ok (.iconst 0, 1) := by decide +kernel
theorem dX10_count_87 : decode cX10_count 87 = .ok (.iaload, 1) := by decide +kernel
theorem dX10_count_88 : decode cX10_count 88 = .ok (.ireturn, 1) := by decide +kernel
theorem dX10_count_89 : decode cX10_count 89 = .ok (.aload_n 0, 1) := by decide +kernel
theorem dX10_count_90 : decode cX10_count 90 = .ok (.invokevirtual 208, 3) := by decide +kernel
theorem dX10_count_93 : decode cX10_count 93 = .ok (.ireturn, 1) := by decide +kernel
theorem dX10_count_94 : decode cX10_count 94 = .ok (.aload_n 0, 1) := by decide +kernel
theorem dX10_count_95 : decode cX10_count 95 = .ok (.getfield 22, 3) := by decide +kernel
theorem dX10_count_98 : decode cX10_count 98 = .ok (.iconst 3, 1) := by decide +kernel
theorem dX10_count_99 : decode cX10_count 99 = .ok (.iaload, 1) := by decide +kernel
theorem dX10_count_100 : decode cX10_count 100 = .ok (.ireturn, 1) := by decide +kernel
theorem dX10_count_101 : decode cX10_count 101 = .ok (.aload_n 0, 1) := by decide +kernel
theorem dX10_count_102 : decode cX10_count 102 = .ok (.getfield 22, 3) := by decide +kernel
theorem dX10_count_105 : decode cX10_count 105 = .ok (.iconst 1, 1) := by decide +kernel
theorem dX10_count_106 : decode cX10_count 106 = .ok (.iaload, 1) := by decide +kernel
theorem dX10_count_107 : decode cX10_count 107 = .ok (.ireturn, 1) := by decide +kernel
theorem dX10_count_108 : decode cX10_count 108 = .ok (.aload_n 0, 1) := by decide +kernel
theorem dX10_count_109 : decode cX10_count 109 = .ok (.invokevirtual 147, 3) := by decide +kernel
theorem dX10_count_112 : decode cX10_count 112 = .ok (.ireturn, 1) := by decide +kernel
theorem dX10_count_113 : decode cX10_count 113 = .ok (.aload_n 0, 1) := by decide +kernel
theorem dX10_count_114 : decode cX10_count 114 = .ok (.getfield 121, 3) := by decide +kernel
theorem dX10_count_117 : decode cX10_count 117 = .ok (.ireturn, 1) := by decide +kernel
theorem dX10_count_118 : decode cX10_count 118 = .ok (.aload_n 0, 1) := by decide +kernel
theorem dX10_count_119 : decode cX10_count 119 = .ok (.getfield 74, 3) := by decide +kernel
theorem dX10_count_122 : decode cX10_count 122 = .ok (.ireturn, 1) := by decide +kernel
theorem dX10_count_123 : decode cX10_count 123 = .ok (.ldc 60, 2) := by decide +kernel
theorem dX10_count_125 : decode cX10_count 125 = .ok (.ireturn, 1) := by decide +kernel
theorem dX10_status_0 : decode cX10_status 0 = .ok (.aload_n 0, 1) := by decide +kernel
theorem dX10_status_1 : decode cX10_status 1 = .ok (.getfield 43, 3) := by decide +kernel
theorem dX10_status_4 : decode cX10_status 4 = .ok (.ireturn, 1) := by decide +kernel
end
section
theorem dL_law_0 : decode cL_law 0 = .ok (.new 7, 3) := by decide +kernel
theorem dL_law_3 : decode cL_law 3 = .ok (.dup, 1) := by decide +kernel
theorem dL_law_4 : decode cL_law 4 = .ok (.invokespecial 9, 3) := by decide +kernel
theorem dL_law_7 : decode cL_law 7 = .ok (.astore_n 1, 1) := by decide +kernel
theorem dL_law_8 : decode cL_law 8 = .ok (.new 10, 3) := by decide +kernel
theorem dL_law_11 : decode cL_law 11 = .ok (.dup, 1) := by decide +kernel
theorem dL_law_12 : decode cL_law 12 = .ok (.invokespecial 12, 3) := by decide +kernel
theorem dL_law_15 : decode cL_law 15 = .ok (.astore_n 2, 1) := by decide +kernel
theorem dL_law_16 : decode cL_law 16 = .ok (.iconst 0, 1) := by decide +kernel
theorem dL_law_17 : decode cL_law 17 = .ok (.istore_n 3, 1) := by decide +kernel
theorem dL_law_18 : decode cL_law 18 = .ok (.iload_n 3, 1) := by decide +kernel
theorem dL_law_19 : decode cL_law 19 = .ok (.aload_n 0, 1) := by decide +kernel
theorem dL_law_20 : decode cL_law 20 = .ok (.arraylength, 1) := by decide +kernel
theorem dL_law_21 : decode cL_law 21 = .ok (.bipush 6, 2) := by decide +kernel
theorem dL_law_23 : decode cL_law 23 = .ok (.isub, 1) := by decide +kernel
theorem dL_law_24 : decode cL_law 24 = .ok (.if_icmp .gt 1458, 3) := by decide +kernel
theorem dL_law_27 : decode cL_law 27 = .ok (.aload_n 0, 1) := by decide +kernel
theorem dL_law_28 : decode cL_law 28 = .ok (.iload_n 3, 1) := by decide +kernel
theorem dL_law_29 : decode cL_law 29 = .ok (.iaload, 1) := by decide +kernel
theorem dL_law_30 : decode cL_law 30 = .ok (.bipush 63, 2) := by decide +kernel
theorem dL_law_32 : decode cL_law 32 = .ok (.iand, 1) := by decide +kernel
theorem dL_law_33 : decode cL_law 33 = .ok (.tableswitch 1443 0 40 #[179, 222, 265, 328, 351, 374, 387, 400, 413, 436, 459, 492, 515, 548, 581, 614, 657, 690, 723, 746, 769, 792, 825, 848, 891, 924, 987, 1050, 1083, 1106, 1139, 1162, 1206, 1249, 1272, 1295, 1318, 1351, 1384, 1407, 1430], 179) := by decide +kernel
theorem dL_law_212 : decode cL_law 212 = .ok (.aload_n 1, 1) := by decide +kernel
theorem dL_law_213 : decode cL_law 213 = .ok (.aload_n 0, 1) := by decide +kernel
theorem dL_law_214 : decode cL_law 214 = .ok (.iload_n 3, 1) := by decide +kernel
theorem dL_law_215 : decode cL_law 215 = .ok (.iconst 1, 1) := by decide +kernel
theorem dL_law_216 : decode cL_law 216 = .ok (.iadd, 1) := by decide +kernel
theorem dL_law_217 : decode cL_law 217 = .ok (.iaload, 1) := by decide +kernel
theorem dL_law_218 : decode cL_law 218 = .ok (.aload_n 0, 1) := by decide +kernel
theorem dL_law_219 : decode cL_law 219 = .ok (.iload_n 3, 1) := by decide +kernel
theorem dL_law_220 : decode cL_law 220 = .ok (.iconst 2, 1) := by decide +kernel
theorem dL_law_221 : decode cL_law 221 = .ok (.iadd, 1) := by decide +kernel
theorem dL_law_222 : decode cL_law 222 = .ok (.iaload, 1) := by decide +kernel
theorem dL_law_223 : decode cL_law 223 = .ok (.aload_n 0, 1) := by decide +kernel
theorem dL_law_224 : decode cL_law 224 = .ok (.iload_n 3, 1) := by decide +kernel
theorem dL_law_225 : decode cL_law 225 = .ok (.iconst 3, 1) := by decide +kernel
theorem dL_law_226 : decode cL_law 226 = .ok (.iadd, 1) := by decide +kernel
theorem dL_law_227 : decode cL_law 227 = .ok (.iaload, 1) := by decide +kernel
theorem dL_law_228 : decode cL_law 228 = .ok (.invokevirtual 13, 3) := by decide +kernel
theorem dL_law_231 : decode cL_law 231 = .ok (.aload_n 2, 1) := by decide +kernel
theorem dL_law_232 : decode cL_law 232 = .ok (.aload_n 0, 1) := by decide +kernel
theorem dL_law_233 : decode cL_law 233 = .ok (.iload_n 3, 1) := by decide +kernel
theorem dL_law_234 : decode cL_law 234 = .ok (.iconst 1, 1) := by decide +kernel
theorem dL_law_235 : decode cL_law 235 = .ok (.iadd, 1) := by decide +kernel
theorem dL_law_236 : decode cL_law 236 = .ok (.iaload, 1) := by decide +kernel
theorem dL_law_237 : decode cL_law 237 = .ok (.aload_n 0, 1) := by decide +kernel
theorem dL_law_238 : decode cL_law 238 = .ok (.iload_n 3, 1) := by decide +kernel
theorem dL_law_239 : decode cL_law 239 = .ok (.iconst 2, 1) := by decide +kernel
theorem dL_law_240 : decode cL_law 240 = .ok (.iadd, 1) := by decide +kernel
theorem dL_law_241 : decode cL_law 241 = .ok (.iaload, 1) := by decide +kernel
theorem dL_law_242 : decode cL_law 242 = .ok (.aload_n 0, 1) := by decide +kernel
theorem dL_law_243 : decode cL_law 243 = .ok (.iload_n 3, 1) := by decide +kernel
theorem dL_law_244 : decode cL_law 244 = .ok (.iconst 3, 1) := by decide +kernel
theorem dL_law_245 : decode cL_law 245 = .ok (.iadd, 1) := by decide +kernel
theorem dL_law_246 : decode cL_law 246 = .ok (.iaload, 1) := by decide +kernel
theorem dL_law_247 : decode cL_law 247 = .ok (.invokevirtual 17, 3) := by decide +kernel
theorem dL_law_250 : decode cL_law 250 = .ok (.if_icmp .eq 1226, 3) := by decide +kernel
theorem dL_law_253 : decode cL_law 253 = .ok (.iconst 0, 1) := by decide +kernel
theorem dL_law_254 : decode cL_law 254 = .ok (.ireturn, 1) := by decide +kernel
theorem dL_law_255 : decode cL_law 255 = .ok (.aload_n 1, 1) := by decide +kernel
theorem dL_law_256 : decode cL_law 256 = .ok (.aload_n 0, 1) := by decide +kernel
theorem dL_law_257 : decode cL_law 257 = .ok (.iload_n 3, 1) := by decide +kernel
theorem dL_law_258 : decode cL_law 258 = .ok (.iconst 1, 1) := by decide +kernel
theorem dL_law_259 : decode cL_law 259 = .ok (.iadd, 1) := by decide +kernel
theorem dL_law_260 : decode cL_law 260 = .ok (.iaload, 1) := by decide +kernel
theorem dL_law_261 : decode cL_law 261 = .ok (.aload_n 0, 1) := by decide +kernel
theorem dL_law_262 : decode cL_law 262 = .ok (.iload_n 3, 1) := by decide +kernel
theorem dL_law_263 : decode cL_law 263 = .ok (.iconst 2, 1) := by decide +kernel
theorem dL_law_264 : decode cL_law 264 = .ok (.iadd, 1) := by decide +kernel
theorem dL_law_265 : decode cL_law 265 = .ok (.iaload, 1) := by decide +kernel
theorem dL_law_266 : decode cL_law 266 = .ok (.aload_n 0, 1) := by decide +kernel
theorem dL_law_267 : decode cL_law 267 = .ok (.iload_n 3, 1) := by decide +kernel
theorem dL_law_268 : decode cL_law 268 = .ok (.iconst 3, 1) := by decide +kernel
theorem dL_law_269 : decode cL_law 269 = .ok (.iadd, 1) := by decide +kernel
theorem dL_law_270 : decode cL_law 270 = .ok (.iaload, 1) := by decide +kernel
theorem dL_law_271 : decode cL_law 271 = .ok (.invokevirtual 18, 3) := by decide +kernel
theorem dL_law_274 : decode cL_law 274 = .ok (.aload_n 2, 1) := by decide +kernel
theorem dL_law_275 : decode cL_law 275 = .ok (.aload_n 0, 1) := by decide +kernel
theorem dL_law_276 : decode cL_law 276 = .ok (.iload_n 3, 1) := by decide +kernel
theorem dL_law_277 : decode cL_law 277 = .ok (.iconst 1, 1) := by decide +kernel
theorem dL_law_278 : decode cL_law 278 = .ok (.iadd, 1) := by decide +kernel
theorem dL_law_279 : decode cL_law 279 = .ok (.iaload, 1) := by decide +kernel
theorem dL_law_280 : decode cL_law 280 = .ok (.aload_n 0, 1) := by decide +kernel
theorem dL_law_281 : decode cL_law 281 = .ok (.iload_n 3, 1) := by decide +kernel
theorem dL_law_282 : decode cL_law 282 = .ok (.iconst 2, 1) := by decide +kernel
theorem dL_law_283 : decode cL_law 283 = .ok (.iadd, 1) := by decide +kernel
theorem dL_law_284 : decode cL_law 284 = .ok (.iaload, 1) := by decide +kernel
theorem dL_law_285 : decode cL_law 285 = .ok (.aload_n 0, 1) := by decide +kernel
theorem dL_law_286 : decode cL_law 286 = .ok (.iload_n 3, 1) := by decide +kernel
theorem dL_law_287 : decode cL_law 287 = .ok (.iconst 3, 1) := by decide +kernel
theorem dL_law_288 : decode cL_law 288 = .ok (.iadd, 1) := by decide +kernel
theorem dL_law_289 : decode cL_law 289 = .ok (.iaload, 1) := by decide +kernel
theorem dL_law_290 : decode cL_law 290 = .ok (.invokevirtual 21, 3) := by decide +kernel
theorem dL_law_293 : decode cL_law 293 = .ok (.if_icmp .eq 1183, 3) := by decide +kernel
theorem dL_law_296 : decode cL_law 296 = .ok (.iconst 0, 1) := by decide +kernel
theorem dL_law_297 : decode cL_law 297 = .ok (.ireturn, 1) := by decide +kernel
theorem dL_law_298 : decode cL_law 298 = .ok (.aload_n 1, 1) := by decide +kernel
theorem dL_law_299 : decode cL_law 299 = .ok (.aload_n 0, 1) := by decide +kernel
theorem dL_law_300 : decode cL_law 300 = .ok (.iload_n 3, 1) := by decide +kernel
theorem dL_law_301 : decode cL_law 301 = .ok (.iconst 1, 1) := by decide +kernel
theorem dL_law_302 : decode cL_law 302 = .ok (.iadd, 1) := by decide +kernel
theorem dL_law_303 : decode cL_law 303 = .ok (.iaload, 1) := by decide +kernel
theorem dL_law_304 : decode cL_law 304 = .ok (.aload_n 0, 1) := by decide +kernel
theorem dL_law_305 : decode cL_law 305 = .ok (.iload_n 3, 1) := by decide +kernel
theorem dL_law_306 : decode cL_law 306 = .ok (.iconst 2, 1) := by decide +kernel
theorem dL_law_307 : decode cL_law 307 = .ok (.iadd, 1) := by decide +kernel
theorem dL_law_308 : decode cL_law 308 = .ok (.iaload, 1) := by decide +kernel
theorem dL_law_309 : decode cL_law 309 = .ok (.aload_n 0, 1) := by decide +kernel
theorem dL_law_310 : decode cL_law 310 = .ok (.iload_n 3, 1) := by decide +kernel
theorem dL_law_311 : decode cL_law 311 = .ok (.iconst 3, 1) := by decide +kernel
theorem dL_law_312 : decode cL_law 312 = .ok (.iadd, 1) := by decide +kernel
theorem dL_law_313 : decode cL_law 313 = .ok (.iaload, 1) := by decide +kernel
theorem dL_law_314 : decode cL_law 314 = .ok (.aload_n 0, 1) := by decide +kernel
theorem dL_law_315 : decode cL_law 315 = .ok (.iload_n 3, 1) := by decide +kernel
theorem dL_law_316 : decode cL_law 316 = .ok (.iconst 4, 1) := by decide +kernel
theorem dL_law_317 : decode cL_law 317 = .ok (.iadd, 1) := by decide +kernel
theorem dL_law_318 : decode cL_law 318 = .ok (.iaload, 1) := by decide +kernel
theorem dL_law_319 : decode cL_law 319 = .ok (.aload_n 0, 1) := by decide +kernel
theorem dL_law_320 : decode cL_law 320 = .ok (.iload_n 3, 1) := by decide +kernel
theorem dL_law_321 : decode cL_law 321 = .ok (.iconst 5, 1) := by decide +kernel
theorem dL_law_322 : decode cL_law 322 = .ok (.iadd, 1) := by decide +kernel
theorem dL_law_323 : decode cL_law 323 = .ok (.iaload, 1) := by decide +kernel
theorem dL_law_324 : decode cL_law 324 = .ok (.invokevirtual 22, 3) := by decide +kernel
theorem dL_law_327 : decode cL_law 327 = .ok (.aload_n 2, 1) := by decide +kernel
theorem dL_law_328 : decode cL_law 328 = .ok (.aload_n 0, 1) := by decide +kernel
theorem dL_law_329 : decode cL_law 329 = .ok (.iload_n 3, 1) := by decide +kernel
theorem dL_law_330 : decode cL_law 330 = .ok (.iconst 1, 1) := by decide +kernel
theorem dL_law_331 : decode cL_law 331 = .ok (.iadd, 1) := by decide +kernel
theorem dL_law_332 : decode cL_law 332 = .ok (.iaload, 1) := by decide +kernel
theorem dL_law_333 : decode cL_law 333 = .ok (.aload_n 0, 1) := by decide +kernel
theorem dL_law_334 : decode cL_law 334 = .ok (.iload_n 3, 1) := by decide +kernel
theorem dL_law_335 : decode cL_law 335 = .ok (.iconst 2, 1) := by decide +kernel
theorem dL_law_336 : decode cL_law 336 = .ok (.iadd, 1) := by decide +kernel
theorem dL_law_337 : decode cL_law 337 = .ok (.iaload, 1) := by decide +kernel
theorem dL_law_338 : decode cL_law 338 = .ok (.aload_n 0, 1) := by decide +kernel
theorem dL_law_339 : decode cL_law 339 = .ok (.iload_n 3, 1) := by decide +kernel
theorem dL_law_340 : decode cL_law 340 = .ok (.iconst 3, 1) := by decide +kernel
theorem dL_law_341 : decode cL_law 341 = .ok (.iadd, 1) := by decide +kernel
theorem dL_law_342 : decode cL_law 342 = .ok (.iaload, 1) := by decide +kernel
theorem dL_law_343 : decode cL_law 343 = .ok (.aload_n 0, 1) := by decide +kernel
theorem dL_law_344 : decode cL_law 344 = .ok (.iload_n 3, 1) := by decide +kernel
theorem dL_law_345 : decode cL_law 345 = .ok (.iconst 4, 1) := by decide +kernel
theorem dL_law_346 : decode cL_law 346 = .ok (.iadd, 1) := by decide +kernel
theorem dL_law_347 : decode cL_law 347 = .ok (.iaload, 1) := by decide +kernel
theorem dL_law_348 : decode cL_law 348 = .ok (.aload_n 0, 1) := by decide +kernel
theorem dL_law_349 : decode cL_law 349 = .ok (.iload_n 3, 1) := by decide +kernel
theorem dL_law_350 : decode cL_law 350 = .ok (.iconst 5, 1) := by decide +kernel
theorem dL_law_351 : decode cL_law 351 = .ok (.iadd, 1) := by decide +kernel
theorem dL_law_352 : decode cL_law 352 = .ok (.iaload, 1) := by decide +kernel
theorem dL_law_353 : decode cL_law 353 = .ok (.invokevirtual 26, 3) := by decide +kernel
theorem dL_law_356 : decode cL_law 356 = .ok (.if_icmp .eq 1120, 3) := by decide +kernel
theorem dL_law_359 : decode cL_law 359 = .ok (.iconst 0, 1) := by decide +kernel
theorem dL_law_360 : decode cL_law 360 = .ok (.ireturn, 1) := by decide +kernel
theorem dL_law_361 : decode cL_law 361 = .ok (.aload_n 1, 1) := by decide +kernel
theorem dL_law_362 : decode cL_law 362 = .ok (.aload_n 0, 1) := by decide +kernel
theorem dL_law_363 : decode cL_law 363 = .ok (.iload_n 3, 1) := by decide +kernel
theorem dL_law_364 : decode cL_law 364 = .ok (.iconst 1, 1) := by decide +kernel
theorem dL_law_365 : decode cL_law 365 = .ok (.iadd, 1) := by decide +kernel
theorem dL_law_366 : decode cL_law 366 = .ok (.iaload, 1) := by decide +kernel
theorem dL_law_367 : decode cL_law 367 = .ok (.invokevirtual 27, 3) := by decide +kernel
theorem dL_law_370 : decode cL_law 370 = .ok (.aload_n 2, 1) := by decide +kernel
theorem dL_law_371 : decode cL_law 371 = .ok (.aload_n 0, 1) := by decide +kernel
theorem dL_law_372 : decode cL_law 372 = .ok (.iload_n 3, 1) := by decide +kernel
theorem dL_law_373 : decode cL_law 373 = .ok (.iconst 1, 1) := by decide +kernel
theorem dL_law_374 : decode cL_law 374 = .ok (.iadd, 1) := by decide +kernel
theorem dL_law_375 : decode cL_law 375 = .ok (.iaload, 1) := by decide +kernel
theorem dL_law_376 : decode cL_law 376 = .ok (.invokevirtual 31, 3) := by decide +kernel
theorem dL_law_379 : decode cL_law 379 = .ok (.if_icmp .eq 1097, 3) := by decide +kernel
theorem dL_law_382 : decode cL_law 382 = .ok (.iconst 0, 1) := by decide +kernel
theorem dL_law_383 : decode cL_law 383 = .ok (.ireturn, 1) := by decide +kernel
theorem dL_law_384 : decode cL_law 384 = .ok (.aload_n 1, 1) := by decide +kernel
theorem dL_law_385 : decode cL_law 385 = .ok (.aload_n 0, 1) := by decide +kernel
theorem dL_law_386 : decode cL_law 386 = .ok (.iload_n 3, 1) := by decide +kernel
theorem dL_law_387 : decode cL_law 387 = .ok (.iconst 1, 1) := by decide +kernel
theorem dL_law_388 : decode cL_law 388 = .ok (.iadd, 1) := by decide +kernel
theorem dL_law_389 : decode cL_law 389 = .ok (.iaload, 1) := by decide +kernel
theorem dL_law_390 : decode cL_law 390 = .ok (.invokevirtual 32, 3) := by decide +kernel
theorem dL_law_393 : decode cL_law 393 = .ok (.aload_n 2, 1) := by decide +kernel
theorem dL_law_394 : decode cL_law 394 = .ok (.aload_n 0, 1) := by decide +kernel
theorem dL_law_395 : decode cL_law 395 = .ok (.iload_n 3, 1) := by decide +kernel
theorem dL_law_396 : decode cL_law 396 = .ok (.iconst 1, 1) := by decide +kernel
theorem dL_law_397 : decode cL_law 397 = .ok (.iadd, 1) := by decide +kernel
theorem dL_law_398 : decode cL_law 398 = .ok (.iaload, 1) := by decide +kernel
theorem dL_law_399 : decode cL_law 399 = .ok (.invokevirtual 35, 3) := by decide +kernel
theorem dL_law_402 : decode cL_law 402 = .ok (.if_icmp .eq 1074, 3) := by decide +kernel
theorem dL_law_405 : decode cL_law 405 = .ok (.iconst 0, 1) := by decide +kernel
theorem dL_law_406 : decode cL_law 406 = .ok (.ireturn, 1) := by decide +kernel
theorem dL_law_407 : decode cL_law 407 = .ok (.aload_n 1, 1) := by decide +kernel
theorem dL_law_408 : decode cL_law 408 = .ok (.invokevirtual 36, 3) := by decide +kernel
theorem dL_law_411 : decode cL_law 411 = .ok (.aload_n 2, 1) := by decide +kernel
theorem dL_law_412 : decode cL_law 412 = .ok (.invokevirtual 40, 3) := by decide +kernel
theorem dL_law_415 : decode cL_law 415 = .ok (.if_icmp .eq 1061, 3) := by decide +kernel
theorem dL_law_418 : decode cL_law 418 = .ok (.iconst 0, 1) := by decide +kernel
theorem dL_law_419 : decode cL_law 419 = .ok (.ireturn, 1) := by decide +kernel
theorem dL_law_420 : decode cL_law 420 = .ok (.aload_n 1, 1) := by decide +kernel
theorem dL_law_421 : decode cL_law 421 = .ok (.invokevirtual 41, 3) := by decide +kernel
theorem dL_law_424 : decode cL_law 424 = .ok (.aload_n 2, 1) := by decide +kernel
theorem dL_law_425 : decode cL_law 425 = .ok (.invokevirtual 44, 3) := by decide +kernel
theorem dL_law_428 : decode cL_law 428 = .ok (.if_icmp .eq 1048, 3) := by decide +kernel
theorem dL_law_431 : decode cL_law 431 = .ok (.iconst 0, 1) := by decide +kernel
theorem dL_law_432 : decode cL_law 432 = .ok (.ireturn, 1) := by decide +kernel
theorem dL_law_433 : decode cL_law 433 = .ok (.aload_n 1, 1) := by decide +kernel
theorem dL_law_434 : decode cL_law 434 = .ok (.invokevirtual 45, 3) := by decide +kernel
theorem dL_law_437 : decode cL_law 437 = .ok (.aload_n 2, 1) := by decide +kernel
theorem dL_law_438 : decode cL_law 438 = .ok (.invokevirtual 48, 3) := by decide +kernel
theorem dL_law_441 : decode cL_law 441 = .ok (.if_icmp .eq 1035, 3) := by decide +kernel
theorem dL_law_444 : decode cL_law 444 = .ok (.iconst 0, 1) := by decide +kernel
theorem dL_law_445 : decode cL_law 445 = .ok (.ireturn, 1) := by decide +kernel
theorem dL_law_446 : decode cL_law 446 = .ok (.aload_n 1, 1) := by decide +kernel
theorem dL_law_447 : decode cL_law 447 = .ok (.aload_n 0, 1) := by decide +kernel
theorem dL_law_448 : decode cL_law 448 = .ok (.iload_n 3, 1) := by decide +kernel
theorem dL_law_449 : decode cL_law 449 = .ok (.iconst 1, 1) := by decide +kernel
theorem dL_law_450 : decode cL_law 450 = .ok (.iadd, 1) := by decide +kernel
theorem dL_law_451 : decode cL_law 451 = .ok (.iaload, 1) := by decide +kernel
theorem dL_law_452 : decode cL_law 452 = .ok (.invokevirtual 49, 3) := by decide +kernel
theorem dL_law_455 : decode cL_law 455 = .ok (.aload_n 2, 1) := by decide +kernel
theorem dL_law_456 : decode cL_law 456 = .ok (.aload_n 0, 1) := by decide +kernel
theorem dL_law_457 : decode cL_law 457 = .ok (.iload_n 3, 1) := by decide +kernel
theorem dL_law_458 : decode cL_law 458 = .ok (.iconst 1, 1) := by decide +kernel
theorem dL_law_459 : decode cL_law 459 = .ok (.iadd, 1) := by decide +kernel
theorem dL_law_460 : decode cL_law 460 = .ok (.iaload, 1) := by decide +kernel
theorem dL_law_461 : decode cL_law 461 = .ok (.invokevirtual 52, 3) := by decide +kernel
theorem dL_law_464 : decode cL_law 464 = .ok (.if_icmp .eq 1012, 3) := by decide +kernel
theorem dL_law_467 : decode cL_law 467 = .ok (.iconst 0, 1) := by decide +kernel
theorem dL_law_468 : decode cL_law 468 = .ok (.ireturn, 1) := by decide +kernel
theorem dL_law_469 : decode cL_law 469 = .ok (.aload_n 1, 1) := by decide +kernel
theorem dL_law_470 : decode cL_law 470 = .ok (.aload_n 0, 1) := by decide +kernel
theorem dL_law_471 : decode cL_law 471 = .ok (.iload_n 3, 1) := by decide +kernel
theorem dL_law_472 : decode cL_law 472 = .ok (.iconst 1, 1) := by decide +kernel
theorem dL_law_473 : decode cL_law 473 = .ok (.iadd, 1) := by decide +kernel
theorem dL_law_474 : decode cL_law 474 = .ok (.iaload, 1) := by decide +kernel
theorem dL_law_475 : decode cL_law 475 = .ok (.invokevirtual 53, 3) := by decide +kernel
theorem dL_law_478 : decode cL_law 478 = .ok (.aload_n 2, 1) := by decide +kernel
theorem dL_law_479 : decode cL_law 479 = .ok (.aload_n 0, 1) := by decide +kernel
theorem dL_law_480 : decode cL_law 480 = .ok (.iload_n 3, 1) := by decide +kernel
theorem dL_law_481 : decode cL_law 481 = .ok (.iconst 1, 1) := by decide +kernel
theorem dL_law_482 : decode cL_law 482 = .ok (.iadd, 1) := by decide +kernel
theorem dL_law_483 : decode cL_law 483 = .ok (.iaload, 1) := by decide +kernel
theorem dL_law_484 : decode cL_law 484 = .ok (.invokevirtual 56, 3) := by decide +kernel
theorem dL_law_487 : decode cL_law 487 = .ok (.if_icmp .eq 989, 3) := by decide +kernel
theorem dL_law_490 : decode cL_law 490 = .ok (.iconst 0, 1) := by decide +kernel
theorem dL_law_491 : decode cL_law 491 = .ok (.ireturn, 1) := by decide +kernel
theorem dL_law_492 : decode cL_law 492 = .ok (.aload_n 1, 1) := by decide +kernel
theorem dL_law_493 : decode cL_law 493 = .ok (.aload_n 0, 1) := by decide +kernel
theorem dL_law_494 : decode cL_law 494 = .ok (.iload_n 3, 1) := by decide +kernel
theorem dL_law_495 : decode cL_law 495 = .ok (.iconst 1, 1) := by decide +kernel
theorem dL_law_496 : decode cL_law 496 = .ok (.iadd, 1) := by decide +kernel
theorem dL_law_497 : decode cL_law 497 = .ok (.iaload, 1) := by decide +kernel
theorem dL_law_498 : decode cL_law 498 = .ok (.aload_n 0, 1) := by decide +kernel
theorem dL_law_499 : decode cL_law 499 = .ok (.iload_n 3, 1) := by decide +kernel
theorem dL_law_500 : decode cL_law 500 = .ok (.iconst 2, 1) := by decide +kernel
theorem dL_law_501 : decode cL_law 501 = .ok (.iadd, 1) := by decide +kernel
theorem dL_law_502 : decode cL_law 502 = .ok (.iaload, 1) := by decide +kernel
theorem dL_law_503 : decode cL_law 503 = .ok (.invokevirtual 57, 3) := by decide +kernel
theorem dL_law_506 : decode cL_law 506 = .ok (.aload_n 2, 1) := by decide +kernel
theorem dL_law_507 : decode cL_law 507 = .ok (.aload_n 0, 1) := by decide +kernel
theorem dL_law_508 : decode cL_law 508 = .ok (.iload_n 3, 1) := by decide +kernel
theorem dL_law_509 : decode cL_law 509 = .ok (.iconst 1, 1) := by decide +kernel
theorem dL_law_510 : decode cL_law 510 = .ok (.iadd, 1) := by decide +kernel
theorem dL_law_511 : decode cL_law 511 = .ok (.iaload, 1) := by decide +kernel
theorem dL_law_512 : decode cL_law 512 = .ok (.aload_n 0, 1) := by decide +kernel
theorem dL_law_513 : decode cL_law 513 = .ok (.iload_n 3, 1) := by decide +kernel
theorem dL_law_514 : decode cL_law 514 = .ok (.iconst 2, 1) := by decide +kernel
theorem dL_law_515 : decode cL_law 515 = .ok (.iadd, 1) := by decide +kernel
theorem dL_law_516 : decode cL_law 516 = .ok (.iaload, 1) := by decide +kernel
theorem dL_law_517 : decode cL_law 517 = .ok (.invokevirtual 61, 3) := by decide +kernel
theorem dL_law_520 : decode cL_law 520 = .ok (.if_icmp .eq 956, 3) := by decide +kernel
theorem dL_law_523 : decode cL_law 523 = .ok (.iconst 0, 1) := by decide +kernel
theorem dL_law_524 : decode cL_law 524 = .ok (.ireturn, 1) := by decide +kernel
theorem dL_law_525 : decode cL_law 525 = .ok (.aload_n 1, 1) := by decide +kernel
theorem dL_law_526 : decode cL_law 526 = .ok (.aload_n 0, 1) := by decide +kernel
theorem dL_law_527 : decode cL_law 527 = .ok (.iload_n 3, 1) := by decide +kernel
theorem dL_law_528 : decode cL_law 528 = .ok (.iconst 1, 1) := by decide +kernel
theorem dL_law_529 : decode cL_law 529 = .ok (.iadd, 1) := by decide +kernel
theorem dL_law_530 : decode cL_law 530 = .ok (.iaload, 1) := by decide +kernel
theorem dL_law_531 : decode cL_law 531 = .ok (.invokevirtual 62, 3) := by decide +kernel
theorem dL_law_534 : decode cL_law 534 = .ok (.aload_n 2, 1) := by decide +kernel
theorem dL_law_535 : decode cL_law 535 = .ok (.aload_n 0, 1) := by decide +kernel
theorem dL_law_536 : decode cL_law 536 = .ok (.iload_n 3, 1) := by decide +kernel
theorem dL_law_537 : decode cL_law 537 = .ok (.iconst 1, 1) := by decide +kernel
theorem dL_law_538 : decode cL_law 538 = .ok (.iadd, 1) := by decide +kernel
theorem dL_law_539 : decode cL_law 539 = .ok (.iaload, 1) := by decide +kernel
theorem dL_law_540 : decode cL_law 540 = .ok (.invokevirtual 65, 3) := by decide +kernel
theorem dL_law_543 : decode cL_law 543 = .ok (.if_icmp .eq 933, 3) := by decide +kernel
theorem dL_law_546 : decode cL_law 546 = .ok (.iconst 0, 1) := by decide +kernel
theorem dL_law_547 : decode cL_law 547 = .ok (.ireturn, 1) := by decide +kernel
theorem dL_law_548 : decode cL_law 548 = .ok (.aload_n 1, 1) := by decide +kernel
theorem dL_law_549 : decode cL_law 549 = .ok (.aload_n 0, 1) := by decide +kernel
theorem dL_law_550 : decode cL_law 550 = .ok (.iload_n 3, 1) := by decide +kernel
theorem dL_law_551 : decode cL_law 551 = .ok (.iconst 1, 1) := by decide +kernel
theorem dL_law_552 : decode cL_law 552 = .ok (.iadd, 1) := by decide +kernel
theorem dL_law_553 : decode cL_law 553 = .ok (.iaload, 1) := by decide +kernel
theorem dL_law_554 : decode cL_law 554 = .ok (.aload_n 0, 1) := by decide +kernel
theorem dL_law_555 : decode cL_law 555 = .ok (.iload_n 3, 1) := by decide +kernel
theorem dL_law_556 : decode cL_law 556 = .ok (.iconst 2, 1) := by decide +kernel
theorem dL_law_557 : decode cL_law 557 = .ok (.iadd, 1) := by decide +kernel
theorem dL_law_558 : decode cL_law 558 = .ok (.iaload, 1) := by decide +kernel
theorem dL_law_559 : decode cL_law 559 = .ok (.invokevirtual 66, 3) := by decide +kernel
theorem dL_law_562 : decode cL_law 562 = .ok (.aload_n 2, 1) := by decide +kernel
theorem dL_law_563 : decode cL_law 563 = .ok (.aload_n 0, 1) := by decide +kernel
theorem dL_law_564 : decode cL_law 564 = .ok (.iload_n 3, 1) := by decide +kernel
theorem dL_law_565 : decode cL_law 565 = .ok (.iconst 1, 1) := by decide +kernel
theorem dL_law_566 : decode cL_law 566 = .ok (.iadd, 1) := by decide +kernel
theorem dL_law_567 : decode cL_law 567 = .ok (.iaload, 1) := by decide +kernel
theorem dL_law_568 : decode cL_law 568 = .ok (.aload_n 0, 1) := by decide +kernel
theorem dL_law_569 : decode cL_law 569 = .ok (.iload_n 3, 1) := by decide +kernel
theorem dL_law_570 : decode cL_law 570 = .ok (.iconst 2, 1) := by decide +kernel
theorem dL_law_571 : decode cL_law 571 = .ok (.iadd, 1) := by decide +kernel
theorem dL_law_572 : decode cL_law 572 = .ok (.iaload, 1) := by decide +kernel
theorem dL_law_573 : decode cL_law 573 = .ok (.invokevirtual 69, 3) := by decide +kernel
theorem dL_law_576 : decode cL_law 576 = .ok (.if_icmp .eq 900, 3) := by decide +kernel
theorem dL_law_579 : decode cL_law 579 = .ok (.iconst 0, 1) := by decide +kernel
theorem dL_law_580 : decode cL_law 580 = .ok (.ireturn, 1) := by decide +kernel
theorem dL_law_581 : decode cL_law 581 = .ok (.aload_n 1, 1) := by decide +kernel
theorem dL_law_582 : decode cL_law 582 = .ok (.aload_n 0, 1) := by decide +kernel
theorem dL_law_583 : decode cL_law 583 = .ok (.iload_n 3, 1) := by decide +kernel
theorem dL_law_584 : decode cL_law 584 = .ok (.iconst 1, 1) := by decide +kernel
theorem dL_law_585 : decode cL_law 585 = .ok (.iadd, 1) := by decide +kernel
theorem dL_law_586 : decode cL_law 586 = .ok (.iaload, 1) := by decide +kernel
theorem dL_law_587 : decode cL_law 587 = .ok (.aload_n 0, 1) := by decide +kernel
theorem dL_law_588 : decode cL_law 588 = .ok (.iload_n 3, 1) := by decide +kernel
theorem dL_law_589 : decode cL_law 589 = .ok (.iconst 2, 1) := by decide +kernel
theorem dL_law_590 : decode cL_law 590 = .ok (.iadd, 1) := by decide +kernel
theorem dL_law_591 : decode cL_law 591 = .ok (.iaload, 1) := by decide +kernel
theorem dL_law_592 : decode cL_law 592 = .ok (.invokevirtual 70, 3) := by decide +kernel
theorem dL_law_595 : decode cL_law 595 = .ok (.aload_n 2, 1) := by decide +kernel
theorem dL_law_596 : decode cL_law 596 = .ok (.aload_n 0, 1) := by decide +kernel
theorem dL_law_597 : decode cL_law 597 = .ok (.iload_n 3, 1) := by decide +kernel
theorem dL_law_598 : decode cL_law 598 = .ok (.iconst 1, 1) := by decide +kernel
theorem dL_law_599 : decode cL_law 599 = .ok (.iadd, 1) := by decide +kernel
theorem dL_law_600 : decode cL_law 600 = .ok (.iaload, 1) := by decide +kernel
theorem dL_law_601 : decode cL_law 601 = .ok (.aload_n 0, 1) := by decide +kernel
theorem dL_law_602 : decode cL_law 602 = .ok (.iload_n 3, 1) := by decide +kernel
theorem dL_law_603 : decode cL_law 603 = .ok (.iconst 2, 1) := by decide +kernel
theorem dL_law_604 : decode cL_law 604 = .ok (.iadd, 1) := by decide +kernel
theorem dL_law_605 : decode cL_law 605 = .ok (.iaload, 1) := by decide +kernel
theorem dL_law_606 : decode cL_law 606 = .ok (.invokevirtual 73, 3) := by decide +kernel
theorem dL_law_609 : decode cL_law 609 = .ok (.if_icmp .eq 867, 3) := by decide +kernel
theorem dL_law_612 : decode cL_law 612 = .ok (.iconst 0, 1) := by decide +kernel
theorem dL_law_613 : decode cL_law 613 = .ok (.ireturn, 1) := by decide +kernel
theorem dL_law_614 : decode cL_law 614 = .ok (.aload_n 1, 1) := by decide +kernel
theorem dL_law_615 : decode cL_law 615 = .ok (.aload_n 0, 1) := by decide +kernel
theorem dL_law_616 : decode cL_law 616 = .ok (.iload_n 3, 1) := by decide +kernel
theorem dL_law_617 : decode cL_law 617 = .ok (.iconst 1, 1) := by decide +kernel
theorem dL_law_618 : decode cL_law 618 = .ok (.iadd, 1) := by decide +kernel
theorem dL_law_619 : decode cL_law 619 = .ok (.iaload, 1) := by decide +kernel
theorem dL_law_620 : decode cL_law 620 = .ok (.aload_n 0, 1) := by decide +kernel
theorem dL_law_621 : decode cL_law 621 = .ok (.iload_n 3, 1) := by decide +kernel
theorem dL_law_622 : decode cL_law 622 = .ok (.iconst 2, 1) := by decide +kernel
theorem dL_law_623 : decode cL_law 623 = .ok (.iadd, 1) := by decide +kernel
theorem dL_law_624 : decode cL_law 624 = .ok (.iaload, 1) := by decide +kernel
theorem dL_law_625 : decode cL_law 625 = .ok (.invokevirtual 74, 3) := by decide +kernel
theorem dL_law_628 : decode cL_law 628 = .ok (.aload_n 2, 1) := by decide +kernel
theorem dL_law_629 : decode cL_law 629 = .ok (.aload_n 0, 1) := by decide +kernel
theorem dL_law_630 : decode cL_law 630 = .ok (.iload_n 3, 1) := by decide +kernel
theorem dL_law_631 : decode cL_law 631 = .ok (.iconst 1, 1) := by decide +kernel
theorem dL_law_632 : decode cL_law 632 = .ok (.iadd, 1) := by decide +kernel
theorem dL_law_633 : decode cL_law 633 = .ok (.iaload, 1) := by decide +kernel
theorem dL_law_634 : decode cL_law 634 = .ok (.aload_n 0, 1) := by decide +kernel
theorem dL_law_635 : decode cL_law 635 = .ok (.iload_n 3, 1) := by decide +kernel
theorem dL_law_636 : decode cL_law 636 = .ok (.iconst 2, 1) := by decide +kernel
theorem dL_law_637 : decode cL_law 637 = .ok (.iadd, 1) := by decide +kernel
theorem dL_law_638 : decode cL_law 638 = .ok (.iaload, 1) := by decide +kernel
theorem dL_law_639 : decode cL_law 639 = .ok (.invokevirtual 77, 3) := by decide +kernel
theorem dL_law_642 : decode cL_law 642 = .ok (.if_icmp .eq 834, 3) := by decide +kernel
theorem dL_law_645 : decode cL_law 645 = .ok (.iconst 0, 1) := by decide +kernel
theorem dL_law_646 : decode cL_law 646 = .ok (.ireturn, 1) := by decide +kernel
theorem dL_law_647 : decode cL_law 647 = .ok (.aload_n 1, 1) := by decide +kernel
theorem dL_law_648 : decode cL_law 648 = .ok (.aload_n 0, 1) := by decide +kernel
theorem dL_law_649 : decode cL_law 649 = .ok (.iload_n 3, 1) := by decide +kernel
theorem dL_law_650 : decode cL_law 650 = .ok (.iconst 1, 1) := by decide +kernel
theorem dL_law_651 : decode cL_law 651 = .ok (.iadd, 1) := by decide +kernel
theorem dL_law_652 : decode cL_law 652 = .ok (.iaload, 1) := by decide +kernel
theorem dL_law_653 : decode cL_law 653 = .ok (.aload_n 0, 1) := by decide +kernel
theorem dL_law_654 : decode cL_law 654 = .ok (.iload_n 3, 1) := by decide +kernel
theorem dL_law_655 : decode cL_law 655 = .ok (.iconst 2, 1) := by decide +kernel
theorem dL_law_656 : decode cL_law 656 = .ok (.iadd, 1) := by decide +kernel
theorem dL_law_657 : decode cL_law 657 = .ok (.iaload, 1) := by decide +kernel
theorem dL_law_658 : decode cL_law 658 = .ok (.aload_n 0, 1) := by decide +kernel
theorem dL_law_659 : decode cL_law 659 = .ok (.iload_n 3, 1) := by decide +kernel
theorem dL_law_660 : decode cL_law 660 = .ok (.iconst 3, 1) := by decide +kernel
theorem dL_law_661 : decode cL_law 661 = .ok (.iadd, 1) := by decide +kernel
theorem dL_law_662 : decode cL_law 662 = .ok (.iaload, 1) := by decide +kernel
theorem dL_law_663 : decode cL_law 663 = .ok (.invokevirtual 78, 3) := by decide +kernel
theorem dL_law_666 : decode cL_law 666 = .ok (.aload_n 2, 1) := by decide +kernel
theorem dL_law_667 : decode cL_law 667 = .ok (.aload_n 0, 1) := by decide +kernel
theorem dL_law_668 : decode cL_law 668 = .ok (.iload_n 3, 1) := by decide +kernel
theorem dL_law_669 : decode cL_law 669 = .ok (.iconst 1, 1) := by decide +kernel
theorem dL_law_670 : decode cL_law 670 = .ok (.iadd, 1) := by decide +kernel
theorem dL_law_671 : decode cL_law 671 = .ok (.iaload, 1) := by decide +kernel
theorem dL_law_672 : decode cL_law 672 = .ok (.aload_n 0, 1) := by decide +kernel
theorem dL_law_673 : decode cL_law 673 = .ok (.iload_n 3, 1) := by decide +kernel
theorem dL_law_674 : decode cL_law 674 = .ok (.iconst 2, 1) := by decide +kernel
theorem dL_law_675 : decode cL_law 675 = .ok (.iadd, 1) := by decide +kernel
theorem dL_law_676 : decode cL_law 676 = .ok (.iaload, 1) := by decide +kernel
theorem dL_law_677 : decode cL_law 677 = .ok (.aload_n 0, 1) := by decide +kernel
theorem dL_law_678 : decode cL_law 678 = .ok (.iload_n 3, 1) := by decide +kernel
theorem dL_law_679 : decode cL_law 679 = .ok (.iconst 3, 1) := by decide +kernel
theorem dL_law_680 : decode cL_law 680 = .ok (.iadd, 1) := by decide +kernel
theorem dL_law_681 : decode cL_law 681 = .ok (.iaload, 1) := by decide +kernel
theorem dL_law_682 : decode cL_law 682 = .ok (.invokevirtual 81, 3) := by decide +kernel
theorem dL_law_685 : decode cL_law 685 = .ok (.if_icmp .eq 791, 3) := by decide +kernel
theorem dL_law_688 : decode cL_law 688 = .ok (.iconst 0, 1) := by decide +kernel
theorem dL_law_689 : decode cL_law 689 = .ok (.ireturn, 1) := by decide +kernel
theorem dL_law_690 : decode cL_law 690 = .ok (.aload_n 1, 1) := by decide +kernel
theorem dL_law_691 : decode cL_law 691 = .ok (.aload_n 0, 1) := by decide +kernel
theorem dL_law_692 : decode cL_law 692 = .ok (.iload_n 3, 1) := by decide +kernel
theorem dL_law_693 : decode cL_law 693 = .ok (.iconst 1, 1) := by decide +kernel
theorem dL_law_694 : decode cL_law 694 = .ok (.iadd, 1) := by decide +kernel
theorem dL_law_695 : decode cL_law 695 = .ok (.iaload, 1) := by decide +kernel
theorem dL_law_696 : decode cL_law 696 = .ok (.aload_n 0, 1) := by decide +kernel
theorem dL_law_697 : decode cL_law 697 = .ok (.iload_n 3, 1) := by decide +kernel
theorem dL_law_698 : decode cL_law 698 = .ok (.iconst 2, 1) := by decide +kernel
theorem dL_law_699 : decode cL_law 699 = .ok (.iadd, 1) := by decide +kernel
theorem dL_law_700 : decode cL_law 700 = .ok (.iaload, 1) := by decide +kernel
theorem dL_law_701 : decode cL_law 701 = .ok (.invokevirtual 82, 3) := by decide +kernel
theorem dL_law_704 : decode cL_law 704 = .ok (.aload_n 2, 1) := by decide +kernel
theorem dL_law_705 : decode cL_law 705 = .ok (.aload_n 0, 1) := by decide +kernel
theorem dL_law_706 : decode cL_law 706 = .ok (.iload_n 3, 1) := by decide +kernel
theorem dL_law_707 : decode cL_law 707 = .ok (.iconst 1, 1) := by decide +kernel
theorem dL_law_708 : decode cL_law 708 = .ok (.iadd, 1) := by decide +kernel
theorem dL_law_709 : decode cL_law 709 = .ok (.iaload, 1) := by decide +kernel
theorem dL_law_710 : decode cL_law 710 = .ok (.aload_n 0, 1) := by decide +kernel
theorem dL_law_711 : decode cL_law 711 = .ok (.iload_n 3, 1) := by decide +kernel
theorem dL_law_712 : decode cL_law 712 = .ok (.iconst 2, 1) := by decide +kernel
theorem dL_law_713 : decode cL_law 713 = .ok (.iadd, 1) := by decide +kernel
theorem dL_law_714 : decode cL_law 714 = .ok (.iaload, 1) := by decide +kernel
theorem dL_law_715 : decode cL_law 715 = .ok (.invokevirtual 85, 3) := by decide +kernel
theorem dL_law_718 : decode cL_law 718 = .ok (.if_icmp .eq 758, 3) := by decide +kernel
theorem dL_law_721 : decode cL_law 721 = .ok (.iconst 0, 1) := by decide +kernel
theorem dL_law_722 : decode cL_law 722 = .ok (.ireturn, 1) := by decide +kernel
theorem dL_law_723 : decode cL_law 723 = .ok (.aload_n 1, 1) := by decide +kernel
theorem dL_law_724 : decode cL_law 724 = .ok (.aload_n 0, 1) := by decide +kernel
theorem dL_law_725 : decode cL_law 725 = .ok (.iload_n 3, 1) := by decide +kernel
theorem dL_law_726 : decode cL_law 726 = .ok (.iconst 1, 1) := by decide +kernel
theorem dL_law_727 : decode cL_law 727 = .ok (.iadd, 1) := by decide +kernel
theorem dL_law_728 : decode cL_law 728 = .ok (.iaload, 1) := by decide +kernel
theorem dL_law_729 : decode cL_law 729 = .ok (.aload_n 0, 1) := by decide +kernel
theorem dL_law_730 : decode cL_law 730 = .ok (.iload_n 3, 1) := by decide +kernel
theorem dL_law_731 : decode cL_law 731 = .ok (.iconst 2, 1) := by decide +kernel
theorem dL_law_732 : decode cL_law 732 = .ok (.iadd, 1) := by decide +kernel
theorem dL_law_733 : decode cL_law 733 = .ok (.iaload, 1) := by decide +kernel
theorem dL_law_734 : decode cL_law 734 = .ok (.invokevirtual 86, 3) := by decide +kernel
theorem dL_law_737 : decode cL_law 737 = .ok (.aload_n 2, 1) := by decide +kernel
theorem dL_law_738 : decode cL_law 738 = .ok (.aload_n 0, 1) := by decide +kernel
theorem dL_law_739 : decode cL_law 739 = .ok (.iload_n 3, 1) := by decide +kernel
theorem dL_law_740 : decode cL_law 740 = .ok (.iconst 1, 1) := by decide +kernel
theorem dL_law_741 : decode cL_law 741 = .ok (.iadd, 1) := by decide +kernel
theorem dL_law_742 : decode cL_law 742 = .ok (.iaload, 1) := by decide +kernel
theorem dL_law_743 : decode cL_law 743 = .ok (.aload_n 0, 1) := by decide +kernel
theorem dL_law_744 : decode cL_law 744 = .ok (.iload_n 3, 1) := by decide +kernel
theorem dL_law_745 : decode cL_law 745 = .ok (.iconst 2, 1) := by decide +kernel
theorem dL_law_746 : decode cL_law 746 = .ok (.iadd, 1) := by decide +kernel
theorem dL_law_747 : decode cL_law 747 = .ok (.iaload, 1) := by decide +kernel
theorem dL_law_748 : decode cL_law 748 = .ok (.invokevirtual 89, 3) := by decide +kernel
theorem dL_law_751 : decode cL_law 751 = .ok (.if_icmp .eq 725, 3) := by decide +kernel
theorem dL_law_754 : decode cL_law 754 = .ok (.iconst 0, 1) := by decide +kernel
theorem dL_law_755 : decode cL_law 755 = .ok (.ireturn, 1) := by decide +kernel
theorem dL_law_756 : decode cL_law 756 = .ok (.aload_n 1, 1) := by decide +kernel
theorem dL_law_757 : decode cL_law 757 = .ok (.aload_n 0, 1) := by decide +kernel
theorem dL_law_758 : decode cL_law 758 = .ok (.iload_n 3, 1) := by decide +kernel
theorem dL_law_759 : decode cL_law 759 = .ok (.iconst 1, 1) := by decide +kernel
theorem dL_law_760 : decode cL_law 760 = .ok (.iadd, 1) := by decide +kernel
theorem dL_law_761 : decode cL_law 761 = .ok (.iaload, 1) := by decide +kernel
theorem dL_law_762 : decode cL_law 762 = .ok (.invokevirtual 90, 3) := by decide +kernel
theorem dL_law_765 : decode cL_law 765 = .ok (.aload_n 2, 1) := by decide +kernel
theorem dL_law_766 : decode cL_law 766 = .ok (.aload_n 0, 1) := by decide +kernel
theorem dL_law_767 : decode cL_law 767 = .ok (.iload_n 3, 1) := by decide +kernel
theorem dL_law_768 : decode cL_law 768 = .ok (.iconst 1, 1) := by decide +kernel
theorem dL_law_769 : decode cL_law 769 = .ok (.iadd, 1) := by decide +kernel
theorem dL_law_770 : decode cL_law 770 = .ok (.iaload, 1) := by decide +kernel
theorem dL_law_771 : decode cL_law 771 = .ok (.invokevirtual 93, 3) := by decide +kernel
theorem dL_law_774 : decode cL_law 774 = .ok (.if_icmp .eq 702, 3) := by decide +kernel
theorem dL_law_777 : decode cL_law 777 = .ok (.iconst 0, 1) := by decide +kernel
theorem dL_law_778 : decode cL_law 778 = .ok (.ireturn, 1) := by decide +kernel
theorem dL_law_779 : decode cL_law 779 = .ok (.aload_n 1, 1) := by decide +kernel
theorem dL_law_780 : decode cL_law 780 = .ok (.aload_n 0, 1) := by decide +kernel
theorem dL_law_781 : decode cL_law 781 = .ok (.iload_n 3, 1) := by decide +kernel
theorem dL_law_782 : decode cL_law 782 = .ok (.iconst 1, 1) := by decide +kernel
theorem dL_law_783 : decode cL_law 783 = .ok (.iadd, 1) := by decide +kernel
theorem dL_law_784 : decode cL_law 784 = .ok (.iaload, 1) := by decide +kernel
theorem dL_law_785 : decode cL_law 785 = .ok (.invokevirtual 94, 3) := by decide +kernel
theorem dL_law_788 : decode cL_law 788 = .ok (.aload_n 2, 1) := by decide +kernel
theorem dL_law_789 : decode cL_law 789 = .ok (.aload_n 0, 1) := by decide +kernel
theorem dL_law_790 : decode cL_law 790 = .ok (.iload_n 3, 1) := by decide +kernel
theorem dL_law_791 : decode cL_law 791 = .ok (.iconst 1, 1) := by decide +kernel
theorem dL_law_792 : decode cL_law 792 = .ok (.iadd, 1) := by decide +kernel
theorem dL_law_793 : decode cL_law 793 = .ok (.iaload, 1) := by decide +kernel
theorem dL_law_794 : decode cL_law 794 = .ok (.invokevirtual 97, 3) := by decide +kernel
theorem dL_law_797 : decode cL_law 797 = .ok (.if_icmp .eq 679, 3) := by decide +kernel
theorem dL_law_800 : decode cL_law 800 = .ok (.iconst 0, 1) := by decide +kernel
theorem dL_law_801 : decode cL_law 801 = .ok (.ireturn, 1) := by decide +kernel
theorem dL_law_802 : decode cL_law 802 = .ok (.aload_n 1, 1) := by decide +kernel
theorem dL_law_803 : decode cL_law 803 = .ok (.aload_n 0, 1) := by decide +kernel
theorem dL_law_804 : decode cL_law 804 = .ok (.iload_n 3, 1) := by decide +kernel
theorem dL_law_805 : decode cL_law 805 = .ok (.iconst 1, 1) := by decide +kernel
theorem dL_law_806 : decode cL_law 806 = .ok (.iadd, 1) := by decide +kernel
theorem dL_law_807 : decode cL_law 807 = .ok (.iaload, 1) := by decide +kernel
theorem dL_law_808 : decode cL_law 808 = .ok (.invokevirtual 98, 3) := by decide +kernel
theorem dL_law_811 : decode cL_law 811 = .ok (.aload_n 2, 1) := by decide +kernel
theorem dL_law_812 : decode cL_law 812 = .ok (.aload_n 0, 1) := by decide +kernel
theorem dL_law_813 : decode cL_law 813 = .ok (.iload_n 3, 1) := by decide +kernel
theorem dL_law_814 : decode cL_law 814 = .ok (.iconst 1, 1) := by decide +kernel
theorem dL_law_815 : decode cL_law 815 = .ok (.iadd, 1) := by decide +kernel
theorem dL_law_816 : decode cL_law 816 = .ok (.iaload, 1) := by decide +kernel
theorem dL_law_817 : decode cL_law 817 = .ok (.invokevirtual 101, 3) := by decide +kernel
theorem dL_law_820 : decode cL_law 820 = .ok (.if_icmp .eq 656, 3) := by decide +kernel
theorem dL_law_823 : decode cL_law 823 = .ok (.iconst 0, 1) := by decide +kernel
theorem dL_law_824 : decode cL_law 824 = .ok (.ireturn, 1) := by decide +kernel
theorem dL_law_825 : decode cL_law 825 = .ok (.aload_n 1, 1) := by decide +kernel
theorem dL_law_826 : decode cL_law 826 = .ok (.aload_n 0, 1) := by decide +kernel
theorem dL_law_827 : decode cL_law 827 = .ok (.iload_n 3, 1) := by decide +kernel
theorem dL_law_828 : decode cL_law 828 = .ok (.iconst 1, 1) := by decide +kernel
theorem dL_law_829 : decode cL_law 829 = .ok (.iadd, 1) := by decide +kernel
theorem dL_law_830 : decode cL_law 830 = .ok (.iaload, 1) := by decide +kernel
theorem dL_law_831 : decode cL_law 831 = .ok (.aload_n 0, 1) := by decide +kernel
theorem dL_law_832 : decode cL_law 832 = .ok (.iload_n 3, 1) := by decide +kernel
theorem dL_law_833 : decode cL_law 833 = .ok (.iconst 2, 1) := by decide +kernel
theorem dL_law_834 : decode cL_law 834 = .ok (.iadd, 1) := by decide +kernel
theorem dL_law_835 : decode cL_law 835 = .ok (.iaload, 1) := by decide +kernel
theorem dL_law_836 : decode cL_law 836 = .ok (.invokevirtual 102, 3) := by decide +kernel
theorem dL_law_839 : decode cL_law 839 = .ok (.aload_n 2, 1) := by decide +kernel
theorem dL_law_840 : decode cL_law 840 = .ok (.aload_n 0, 1) := by decide +kernel
theorem dL_law_841 : decode cL_law 841 = .ok (.iload_n 3, 1) := by decide +kernel
theorem dL_law_842 : decode cL_law 842 = .ok (.iconst 1, 1) := by decide +kernel
theorem dL_law_843 : decode cL_law 843 = .ok (.iadd, 1) := by decide +kernel
theorem dL_law_844 : decode cL_law 844 = .ok (.iaload, 1) := by decide +kernel
theorem dL_law_845 : decode cL_law 845 = .ok (.aload_n 0, 1) := by decide +kernel
theorem dL_law_846 : decode cL_law 846 = .ok (.iload_n 3, 1) := by decide +kernel
theorem dL_law_847 : decode cL_law 847 = .ok (.iconst 2, 1) := by decide +kernel
theorem dL_law_848 : decode cL_law 848 = .ok (.iadd, 1) := by decide +kernel
theorem dL_law_849 : decode cL_law 849 = .ok (.iaload, 1) := by decide +kernel
theorem dL_law_850 : decode cL_law 850 = .ok (.invokevirtual 105, 3) := by decide +kernel
theorem dL_law_853 : decode cL_law 853 = .ok (.if_icmp .eq 623, 3) := by decide +kernel
theorem dL_law_856 : decode cL_law 856 = .ok (.iconst 0, 1) := by decide +kernel
theorem dL_law_857 : decode cL_law 857 = .ok (.ireturn, 1) := by decide +kernel
theorem dL_law_858 : decode cL_law 858 = .ok (.aload_n 1, 1) := by decide +kernel
theorem dL_law_859 : decode cL_law 859 = .ok (.aload_n 0, 1) := by decide +kernel
theorem dL_law_860 : decode cL_law 860 = .ok (.iload_n 3, 1) := by decide +kernel
theorem dL_law_861 : decode cL_law 861 = .ok (.iconst 1, 1) := by decide +kernel
theorem dL_law_862 : decode cL_law 862 = .ok (.iadd, 1) := by decide +kernel
theorem dL_law_863 : decode cL_law 863 = .ok (.iaload, 1) := by decide +kernel
theorem dL_law_864 : decode cL_law 864 = .ok (.invokevirtual 106, 3) := by decide +kernel
theorem dL_law_867 : decode cL_law 867 = .ok (.aload_n 2, 1) := by decide +kernel
theorem dL_law_868 : decode cL_law 868 = .ok (.aload_n 0, 1) := by decide +kernel
theorem dL_law_869 : decode cL_law 869 = .ok (.iload_n 3, 1) := by decide +kernel
theorem dL_law_870 : decode cL_law 870 = .ok (.iconst 1, 1) := by decide +kernel
theorem dL_law_871 : decode cL_law 871 = .ok (.iadd, 1) := by decide +kernel
theorem dL_law_872 : decode cL_law 872 = .ok (.iaload, 1) := by decide +kernel
theorem dL_law_873 : decode cL_law 873 = .ok (.invokevirtual 109, 3) := by decide +kernel
theorem dL_law_876 : decode cL_law 876 = .ok (.if_icmp .eq 600, 3) := by decide +kernel
theorem dL_law_879 : decode cL_law 879 = .ok (.iconst 0, 1) := by decide +kernel
theorem dL_law_880 : decode cL_law 880 = .ok (.ireturn, 1) := by decide +kernel
theorem dL_law_881 : decode cL_law 881 = .ok (.aload_n 1, 1) := by decide +kernel
theorem dL_law_882 : decode cL_law 882 = .ok (.aload_n 0, 1) := by decide +kernel
theorem dL_law_883 : decode cL_law 883 = .ok (.iload_n 3, 1) := by decide +kernel
theorem dL_law_884 : decode cL_law 884 = .ok (.iconst 1, 1) := by decide +kernel
theorem dL_law_885 : decode cL_law 885 = .ok (.iadd, 1) := by decide +kernel
theorem dL_law_886 : decode cL_law 886 = .ok (.iaload, 1) := by decide +kernel
theorem dL_law_887 : decode cL_law 887 = .ok (.aload_n 0, 1) := by decide +kernel
theorem dL_law_888 : decode cL_law 888 = .ok (.iload_n 3, 1) := by decide +kernel
theorem dL_law_889 : decode cL_law 889 = .ok (.iconst 2, 1) := by decide +kernel
theorem dL_law_890 : decode cL_law 890 = .ok (.iadd, 1) := by decide +kernel
theorem dL_law_891 : decode cL_law 891 = .ok (.iaload, 1) := by decide +kernel
theorem dL_law_892 : decode cL_law 892 = .ok (.aload_n 0, 1) := by decide +kernel
theorem dL_law_893 : decode cL_law 893 = .ok (.iload_n 3, 1) := by decide +kernel
theorem dL_law_894 : decode cL_law 894 = .ok (.iconst 3, 1) := by decide +kernel
theorem dL_law_895 : decode cL_law 895 = .ok (.iadd, 1) := by decide +kernel
theorem dL_law_896 : decode cL_law 896 = .ok (.iaload, 1) := by decide +kernel
theorem dL_law_897 : decode cL_law 897 = .ok (.invokevirtual 110, 3) := by decide +kernel
theorem dL_law_900 : decode cL_law 900 = .ok (.aload_n 2, 1) := by decide +kernel
theorem dL_law_901 : decode cL_law 901 = .ok (.aload_n 0, 1) := by decide +kernel
theorem dL_law_902 : decode cL_law 902 = .ok (.iload_n 3, 1) := by decide +kernel
theorem dL_law_903 : decode cL_law 903 = .ok (.iconst 1, 1) := by decide +kernel
theorem dL_law_904 : decode cL_law 904 = .ok (.iadd, 1) := by decide +kernel
theorem dL_law_905 : decode cL_law 905 = .ok (.iaload, 1) := by decide +kernel
theorem dL_law_906 : decode cL_law 906 = .ok (.aload_n 0, 1) := by decide +kernel
theorem dL_law_907 : decode cL_law 907 = .ok (.iload_n 3, 1) := by decide +kernel
theorem dL_law_908 : decode cL_law 908 = .ok (.iconst 2, 1) := by decide +kernel
theorem dL_law_909 : decode cL_law 909 = .ok (.iadd, 1) := by decide +kernel
theorem dL_law_910 : decode cL_law 910 = .ok (.iaload, 1) := by decide +kernel
theorem dL_law_911 : decode cL_law 911 = .ok (.aload_n 0, 1) := by decide +kernel
theorem dL_law_912 : decode cL_law 912 = .ok (.iload_n 3, 1) := by decide +kernel
theorem dL_law_913 : decode cL_law 913 = .ok (.iconst 3, 1) := by decide +kernel
theorem dL_law_914 : decode cL_law 914 = .ok (.iadd, 1) := by decide +kernel
theorem dL_law_915 : decode cL_law 915 = .ok (.iaload, 1) := by decide +kernel
theorem dL_law_916 : decode cL_law 916 = .ok (.invokevirtual 113, 3) := by decide +kernel
theorem dL_law_919 : decode cL_law 919 = .ok (.if_icmp .eq 557, 3) := by decide +kernel
theorem dL_law_922 : decode cL_law 922 = .ok (.iconst 0, 1) := by decide +kernel
theorem dL_law_923 : decode cL_law 923 = .ok (.ireturn, 1) := by decide +kernel
theorem dL_law_924 : decode cL_law 924 = .ok (.aload_n 1, 1) := by decide +kernel
theorem dL_law_925 : decode cL_law 925 = .ok (.aload_n 0, 1) := by decide +kernel
theorem dL_law_926 : decode cL_law 926 = .ok (.iload_n 3, 1) := by decide +kernel
theorem dL_law_927 : decode cL_law 927 = .ok (.iconst 1, 1) := by decide +kernel
theorem dL_law_928 : decode cL_law 928 = .ok (.iadd, 1) := by decide +kernel
theorem dL_law_929 : decode cL_law 929 = .ok (.iaload, 1) := by decide +kernel
theorem dL_law_930 : decode cL_law 930 = .ok (.aload_n 0, 1) := by decide +kernel
theorem dL_law_931 : decode cL_law 931 = .ok (.iload_n 3, 1) := by decide +kernel
theorem dL_law_932 : decode cL_law 932 = .ok (.iconst 2, 1) := by decide +kernel
theorem dL_law_933 : decode cL_law 933 = .ok (.iadd, 1) := by decide +kernel
theorem dL_law_934 : decode cL_law 934 = .ok (.iaload, 1) := by decide +kernel
theorem dL_law_935 : decode cL_law 935 = .ok (.invokevirtual 114, 3) := by decide +kernel
theorem dL_law_938 : decode cL_law 938 = .ok (.aload_n 2, 1) := by decide +kernel
theorem dL_law_939 : decode cL_law 939 = .ok (.aload_n 0, 1) := by decide +kernel
theorem dL_law_940 : decode cL_law 940 = .ok (.iload_n 3, 1) := by decide +kernel
theorem dL_law_941 : decode cL_law 941 = .ok (.iconst 1, 1) := by decide +kernel
theorem dL_law_942 : decode cL_law 942 = .ok (.iadd, 1) := by decide +kernel
theorem dL_law_943 : decode cL_law 943 = .ok (.iaload, 1) := by decide +kernel
theorem dL_law_944 : decode cL_law 944 = .ok (.aload_n 0, 1) := by decide +kernel
theorem dL_law_945 : decode cL_law 945 = .ok (.iload_n 3, 1) := by decide +kernel
theorem dL_law_946 : decode cL_law 946 = .ok (.iconst 2, 1) := by decide +kernel
theorem dL_law_947 : decode cL_law 947 = .ok (.iadd, 1) := by decide +kernel
theorem dL_law_948 : decode cL_law 948 = .ok (.iaload, 1) := by decide +kernel
theorem dL_law_949 : decode cL_law 949 = .ok (.invokevirtual 117, 3) := by decide +kernel
theorem dL_law_952 : decode cL_law 952 = .ok (.if_icmp .eq 524, 3) := by decide +kernel
theorem dL_law_955 : decode cL_law 955 = .ok (.iconst 0, 1) := by decide +kernel
theorem dL_law_956 : decode cL_law 956 = .ok (.ireturn, 1) := by decide +kernel
theorem dL_law_957 : decode cL_law 957 = .ok (.aload_n 1, 1) := by decide +kernel
theorem dL_law_958 : decode cL_law 958 = .ok (.aload_n 0, 1) := by decide +kernel
theorem dL_law_959 : decode cL_law 959 = .ok (.iload_n 3, 1) := by decide +kernel
theorem dL_law_960 : decode cL_law 960 = .ok (.iconst 1, 1) := by decide +kernel
theorem dL_law_961 : decode cL_law 961 = .ok (.iadd, 1) := by decide +kernel
theorem dL_law_962 : decode cL_law 962 = .ok (.iaload, 1) := by decide +kernel
theorem dL_law_963 : decode cL_law 963 = .ok (.aload_n 0, 1) := by decide +kernel
theorem dL_law_964 : decode cL_law 964 = .ok (.iload_n 3, 1) := by decide +kernel
theorem dL_law_965 : decode cL_law 965 = .ok (.iconst 2, 1) := by decide +kernel
theorem dL_law_966 : decode cL_law 966 = .ok (.iadd, 1) := by decide +kernel
theorem dL_law_967 : decode cL_law 967 = .ok (.iaload, 1) := by decide +kernel
theorem dL_law_968 : decode cL_law 968 = .ok (.aload_n 0, 1) := by decide +kernel
theorem dL_law_969 : decode cL_law 969 = .ok (.iload_n 3, 1) := by decide +kernel
theorem dL_law_970 : decode cL_law 970 = .ok (.iconst 3, 1) := by decide +kernel
theorem dL_law_971 : decode cL_law 971 = .ok (.iadd, 1) := by decide +kernel
theorem dL_law_972 : decode cL_law 972 = .ok (.iaload, 1) := by decide +kernel
theorem dL_law_973 : decode cL_law 973 = .ok (.aload_n 0, 1) := by decide +kernel
theorem dL_law_974 : decode cL_law 974 = .ok (.iload_n 3, 1) := by decide +kernel
theorem dL_law_975 : decode cL_law 975 = .ok (.iconst 4, 1) := by decide +kernel
theorem dL_law_976 : decode cL_law 976 = .ok (.iadd, 1) := by decide +kernel
theorem dL_law_977 : decode cL_law 977 = .ok (.iaload, 1) := by decide +kernel
theorem dL_law_978 : decode cL_law 978 = .ok (.aload_n 0, 1) := by decide +kernel
theorem dL_law_979 : decode cL_law 979 = .ok (.iload_n 3, 1) := by decide +kernel
theorem dL_law_980 : decode cL_law 980 = .ok (.iconst 5, 1) := by decide +kernel
theorem dL_law_981 : decode cL_law 981 = .ok (.iadd, 1) := by decide +kernel
theorem dL_law_982 : decode cL_law 982 = .ok (.iaload, 1) := by decide +kernel
theorem dL_law_983 : decode cL_law 983 = .ok (.invokevirtual 118, 3) := by decide +kernel
theorem dL_law_986 : decode cL_law 986 = .ok (.aload_n 2, 1) := by decide +kernel
theorem dL_law_987 : decode cL_law 987 = .ok (.aload_n 0, 1) := by decide +kernel
theorem dL_law_988 : decode cL_law 988 = .ok (.iload_n 3, 1) := by decide +kernel
theorem dL_law_989 : decode cL_law 989 = .ok (.iconst 1, 1) := by decide +kernel
theorem dL_law_990 : decode cL_law 990 = .ok (.iadd, 1) := by decide +kernel
theorem dL_law_991 : decode cL_law 991 = .ok (.iaload, 1) := by decide +kernel
theorem dL_law_992 : decode cL_law 992 = .ok (.aload_n 0, 1) := by decide +kernel
theorem dL_law_993 : decode cL_law 993 = .ok (.iload_n 3, 1) := by decide +kernel
theorem dL_law_994 : decode cL_law 994 = .ok (.iconst 2, 1) := by decide +kernel
theorem dL_law_995 : decode cL_law 995 = .ok (.iadd, 1) := by decide +kernel
theorem dL_law_996 : decode cL_law 996 = .ok (.iaload, 1) := by decide +kernel
theorem dL_law_997 : decode cL_law 997 = .ok (.aload_n 0, 1) := by decide +kernel
theorem dL_law_998 : decode cL_law 998 = .ok (.iload_n 3, 1) := by decide +kernel
theorem dL_law_999 : decode cL_law 999 = .ok (.iconst 3, 1) := by decide +kernel
theorem dL_law_1000 : decode cL_law 1000 = .ok (.iadd, 1) := by decide +kernel
theorem dL_law_1001 : decode cL_law 1001 = .ok (.iaload, 1) := by decide +kernel
theorem dL_law_1002 : decode cL_law 1002 = .ok (.aload_n 0, 1) := by decide +kernel
theorem dL_law_1003 : decode cL_law 1003 = .ok (.iload_n 3, 1) := by decide +kernel
theorem dL_law_1004 : decode cL_law 1004 = .ok (.iconst 4, 1) := by decide +kernel
theorem dL_law_1005 : decode cL_law 1005 = .ok (.iadd, 1) := by decide +kernel
theorem dL_law_1006 : decode cL_law 1006 = .ok (.iaload, 1) := by decide +kernel
theorem dL_law_1007 : decode cL_law 1007 = .ok (.aload_n 0, 1) := by decide +kernel
theorem dL_law_1008 : decode cL_law 1008 = .ok (.iload_n 3, 1) := by decide +kernel
theorem dL_law_1009 : decode cL_law 1009 = .ok (.iconst 5, 1) := by decide +kernel
theorem dL_law_1010 : decode cL_law 1010 = .ok (.iadd, 1) := by decide +kernel
theorem dL_law_1011 : decode cL_law 1011 = .ok (.iaload, 1) := by decide +kernel
theorem dL_law_1012 : decode cL_law 1012 = .ok (.invokevirtual 121, 3) := by decide +kernel
theorem dL_law_1015 : decode cL_law 1015 = .ok (.if_icmp .eq 461, 3) := by decide +kernel
theorem dL_law_1018 : decode cL_law 1018 = .ok (.iconst 0, 1) := by decide +kernel
theorem dL_law_1019 : decode cL_law 1019 = .ok (.ireturn, 1) := by decide +kernel
theorem dL_law_1020 : decode cL_law 1020 = .ok (.aload_n 1, 1) := by decide +kernel
theorem dL_law_1021 : decode cL_law 1021 = .ok (.aload_n 0, 1) := by decide +kernel
theorem dL_law_1022 : decode cL_law 1022 = .ok (.iload_n 3, 1) := by decide +kernel
theorem dL_law_1023 : decode cL_law 1023 = .ok (.iconst 1, 1) := by decide +kernel
theorem dL_law_1024 : decode cL_law 1024 = .ok (.iadd, 1) := by decide +kernel
theorem dL_law_1025 : decode cL_law 1025 = .ok (.iaload, 1) := by decide +kernel
theorem dL_law_1026 : decode cL_law 1026 = .ok (.aload_n 0, 1) := by decide +kernel
theorem dL_law_1027 : decode cL_law 1027 = .ok (.iload_n 3, 1) := by decide +kernel
theorem dL_law_1028 : decode cL_law 1028 = .ok (.iconst 2, 1) := by decide +kernel
theorem dL_law_1029 : decode cL_law 1029 = .ok (.iadd, 1) := by decide +kernel
theorem dL_law_1030 : decode cL_law 1030 = .ok (.iaload, 1) := by decide +kernel
theorem dL_law_1031 : decode cL_law 1031 = .ok (.aload_n 0, 1) := by decide +kernel
theorem dL_law_1032 : decode cL_law 1032 = .ok (.iload_n 3, 1) := by decide +kernel
theorem dL_law_1033 : decode cL_law 1033 = .ok (.iconst 3, 1) := by decide +kernel
theorem dL_law_1034 : decode cL_law 1034 = .ok (.iadd, 1) := by decide +kernel
theorem dL_law_1035 : decode cL_law 1035 = .ok (.iaload, 1) := by decide +kernel
theorem dL_law_1036 : decode cL_law 1036 = .ok (.aload_n 0, 1) := by decide +kernel
theorem dL_law_1037 : decode cL_law 1037 = .ok (.iload_n 3, 1) := by decide +kernel
theorem dL_law_1038 : decode cL_law 1038 = .ok (.iconst 4, 1) := by decide +kernel
theorem dL_law_1039 : decode cL_law 1039 = .ok (.iadd, 1) := by decide +kernel
theorem dL_law_1040 : decode cL_law 1040 = .ok (.iaload, 1) := by decide +kernel
theorem dL_law_1041 : decode cL_law 1041 = .ok (.aload_n 0, 1) := by decide +kernel
theorem dL_law_1042 : decode cL_law 1042 = .ok (.iload_n 3, 1) := by decide +kernel
theorem dL_law_1043 : decode cL_law 1043 = .ok (.iconst 5, 1) := by decide +kernel
theorem dL_law_1044 : decode cL_law 1044 = .ok (.iadd, 1) := by decide +kernel
theorem dL_law_1045 : decode cL_law 1045 = .ok (.iaload, 1) := by decide +kernel
theorem dL_law_1046 : decode cL_law 1046 = .ok (.invokevirtual 122, 3) := by decide +kernel
theorem dL_law_1049 : decode cL_law 1049 = .ok (.aload_n 2, 1) := by decide +kernel
theorem dL_law_1050 : decode cL_law 1050 = .ok (.aload_n 0, 1) := by decide +kernel
theorem dL_law_1051 : decode cL_law 1051 = .ok (.iload_n 3, 1) := by decide +kernel
theorem dL_law_1052 : decode cL_law 1052 = .ok (.iconst 1, 1) := by decide +kernel
theorem dL_law_1053 : decode cL_law 1053 = .ok (.iadd, 1) := by decide +kernel
theorem dL_law_1054 : decode cL_law 1054 = .ok (.iaload, 1) := by decide +kernel
theorem dL_law_1055 : decode cL_law 1055 = .ok (.aload_n 0, 1) := by decide +kernel
theorem dL_law_1056 : decode cL_law 1056 = .ok (.iload_n 3, 1) := by decide +kernel
theorem dL_law_1057 : decode cL_law 1057 = .ok (.iconst 2, 1) := by decide +kernel
theorem dL_law_1058 : decode cL_law 1058 = .ok (.iadd, 1) := by decide +kernel
theorem dL_law_1059 : decode cL_law 1059 = .ok (.iaload, 1) := by decide +kernel
theorem dL_law_1060 : decode cL_law 1060 = .ok (.aload_n 0, 1) := by decide +kernel
theorem dL_law_1061 : decode cL_law 1061 = .ok (.iload_n 3, 1) := by decide +kernel
theorem dL_law_1062 : decode cL_law 1062 = .ok (.iconst 3, 1) := by decide +kernel
theorem dL_law_1063 : decode cL_law 1063 = .ok (.iadd, 1) := by decide +kernel
theorem dL_law_1064 : decode cL_law 1064 = .ok (.iaload, 1) := by decide +kernel
theorem dL_law_1065 : decode cL_law 1065 = .ok (.aload_n 0, 1) := by decide +kernel
theorem dL_law_1066 : decode cL_law 1066 = .ok (.iload_n 3, 1) := by decide +kernel
theorem dL_law_1067 : decode cL_law 1067 = .ok (.iconst 4, 1) := by decide +kernel
theorem dL_law_1068 : decode cL_law 1068 = .ok (.iadd, 1) := by decide +kernel
theorem dL_law_1069 : decode cL_law 1069 = .ok (.iaload, 1) := by decide +kernel
theorem dL_law_1070 : decode cL_law 1070 = .ok (.aload_n 0, 1) := by decide +kernel
theorem dL_law_1071 : decode cL_law 1071 = .ok (.iload_n 3, 1) := by decide +kernel
theorem dL_law_1072 : decode cL_law 1072 = .ok (.iconst 5, 1) := by decide +kernel
theorem dL_law_1073 : decode cL_law 1073 = .ok (.iadd, 1) := by decide +kernel
theorem dL_law_1074 : decode cL_law 1074 = .ok (.iaload, 1) := by decide +kernel
theorem dL_law_1075 : decode cL_law 1075 = .ok (.invokevirtual 125, 3) := by decide +kernel
theorem dL_law_1078 : decode cL_law 1078 = .ok (.if_icmp .eq 398, 3) := by decide +kernel
theorem dL_law_1081 : decode cL_law 1081 = .ok (.iconst 0, 1) := by decide +kernel
theorem dL_law_1082 : decode cL_law 1082 = .ok (.ireturn, 1) := by decide +kernel
theorem dL_law_1083 : decode cL_law 1083 = .ok (.aload_n 1, 1) := by decide +kernel
theorem dL_law_1084 : decode cL_law 1084 = .ok (.aload_n 0, 1) := by decide +kernel
theorem dL_law_1085 : decode cL_law 1085 = .ok (.iload_n 3, 1) := by decide +kernel
theorem dL_law_1086 : decode cL_law 1086 = .ok (.iconst 1, 1) := by decide +kernel
theorem dL_law_1087 : decode cL_law 1087 = .ok (.iadd, 1) := by decide +kernel
theorem dL_law_1088 : decode cL_law 1088 = .ok (.iaload, 1) := by decide +kernel
theorem dL_law_1089 : decode cL_law 1089 = .ok (.aload_n 0, 1) := by decide +kernel
theorem dL_law_1090 : decode cL_law 1090 = .ok (.iload_n 3, 1) := by decide +kernel
theorem dL_law_1091 : decode cL_law 1091 = .ok (.iconst 2, 1) := by decide +kernel
theorem dL_law_1092 : decode cL_law 1092 = .ok (.iadd, 1) := by decide +kernel
theorem dL_law_1093 : decode cL_law 1093 = .ok (.iaload, 1) := by decide +kernel
theorem dL_law_1094 : decode cL_law 1094 = .ok (.invokevirtual 126, 3) := by decide +kernel
theorem dL_law_1097 : decode cL_law 1097 = .ok (.aload_n 2, 1) := by decide +kernel
theorem dL_law_1098 : decode cL_law 1098 = .ok (.aload_n 0, 1) := by decide +kernel
theorem dL_law_1099 : decode cL_law 1099 = .ok (.iload_n 3, 1) := by decide +kernel
theorem dL_law_1100 : decode cL_law 1100 = .ok (.iconst 1, 1) := by decide +kernel
theorem dL_law_1101 : decode cL_law 1101 = .ok (.iadd, 1) := by decide +kernel
theorem dL_law_1102 : decode cL_law 1102 = .ok (.iaload, 1) := by decide +kernel
theorem dL_law_1103 : decode cL_law 1103 = .ok (.aload_n 0, 1) := by decide +kernel
theorem dL_law_1104 : decode cL_law 1104 = .ok (.iload_n 3, 1) := by decide +kernel
theorem dL_law_1105 : decode cL_law 1105 = .ok (.iconst 2, 1) := by decide +kernel
theorem dL_law_1106 : decode cL_law 1106 = .ok (.iadd, 1) := by decide +kernel
theorem dL_law_1107 : decode cL_law 1107 = .ok (.iaload, 1) := by decide +kernel
theorem dL_law_1108 : decode cL_law 1108 = .ok (.invokevirtual 129, 3) := by decide +kernel
theorem dL_law_1111 : decode cL_law 1111 = .ok (.if_icmp .eq 365, 3) := by decide +kernel
theorem dL_law_1114 : decode cL_law 1114 = .ok (.iconst 0, 1) := by decide +kernel
theorem dL_law_1115 : decode cL_law 1115 = .ok (.ireturn, 1) := by decide +kernel
theorem dL_law_1116 : decode cL_law 1116 = .ok (.aload_n 1, 1) := by decide +kernel
theorem dL_law_1117 : decode cL_law 1117 = .ok (.aload_n 0, 1) := by decide +kernel
theorem dL_law_1118 : decode cL_law 1118 = .ok (.iload_n 3, 1) := by decide +kernel
theorem dL_law_1119 : decode cL_law 1119 = .ok (.iconst 1, 1) := by decide +kernel
theorem dL_law_1120 : decode cL_law 1120 = .ok (.iadd, 1) := by decide +kernel
theorem dL_law_1121 : decode cL_law 1121 = .ok (.iaload, 1) := by decide +kernel
theorem dL_law_1122 : decode cL_law 1122 = .ok (.invokevirtual 130, 3) := by decide +kernel
theorem dL_law_1125 : decode cL_law 1125 = .ok (.aload_n 2, 1) := by decide +kernel
theorem dL_law_1126 : decode cL_law 1126 = .ok (.aload_n 0, 1) := by decide +kernel
theorem dL_law_1127 : decode cL_law 1127 = .ok (.iload_n 3, 1) := by decide +kernel
theorem dL_law_1128 : decode cL_law 1128 = .ok (.iconst 1, 1) := by decide +kernel
theorem dL_law_1129 : decode cL_law 1129 = .ok (.iadd, 1) := by decide +kernel
theorem dL_law_1130 : decode cL_law 1130 = .ok (.iaload, 1) := by decide +kernel
theorem dL_law_1131 : decode cL_law 1131 = .ok (.invokevirtual 133, 3) := by decide +kernel
theorem dL_law_1134 : decode cL_law 1134 = .ok (.if_icmp .eq 342, 3) := by decide +kernel
theorem dL_law_1137 : decode cL_law 1137 = .ok (.iconst 0, 1) := by decide +kernel
theorem dL_law_1138 : decode cL_law 1138 = .ok (.ireturn, 1) := by decide +kernel
theorem dL_law_1139 : decode cL_law 1139 = .ok (.aload_n 1, 1) := by decide +kernel
theorem dL_law_1140 : decode cL_law 1140 = .ok (.aload_n 0, 1) := by decide +kernel
theorem dL_law_1141 : decode cL_law 1141 = .ok (.iload_n 3, 1) := by decide +kernel
theorem dL_law_1142 : decode cL_law 1142 = .ok (.iconst 1, 1) := by decide +kernel
theorem dL_law_1143 : decode cL_law 1143 = .ok (.iadd, 1) := by decide +kernel
theorem dL_law_1144 : decode cL_law 1144 = .ok (.iaload, 1) := by decide +kernel
theorem dL_law_1145 : decode cL_law 1145 = .ok (.aload_n 0, 1) := by decide +kernel
theorem dL_law_1146 : decode cL_law 1146 = .ok (.iload_n 3, 1) := by decide +kernel
theorem dL_law_1147 : decode cL_law 1147 = .ok (.iconst 2, 1) := by decide +kernel
theorem dL_law_1148 : decode cL_law 1148 = .ok (.iadd, 1) := by decide +kernel
theorem dL_law_1149 : decode cL_law 1149 = .ok (.iaload, 1) := by decide +kernel
theorem dL_law_1150 : decode cL_law 1150 = .ok (.invokevirtual 134, 3) := by decide +kernel
theorem dL_law_1153 : decode cL_law 1153 = .ok (.aload_n 2, 1) := by decide +kernel
theorem dL_law_1154 : decode cL_law 1154 = .ok (.aload_n 0, 1) := by decide +kernel
theorem dL_law_1155 : decode cL_law 1155 = .ok (.iload_n 3, 1) := by decide +kernel
theorem dL_law_1156 : decode cL_law 1156 = .ok (.iconst 1, 1) := by decide +kernel
theorem dL_law_1157 : decode cL_law 1157 = .ok (.iadd, 1) := by decide +kernel
theorem dL_law_1158 : decode cL_law 1158 = .ok (.iaload, 1) := by decide +kernel
theorem dL_law_1159 : decode cL_law 1159 = .ok (.aload_n 0, 1) := by decide +kernel
theorem dL_law_1160 : decode cL_law 1160 = .ok (.iload_n 3, 1) := by decide +kernel
theorem dL_law_1161 : decode cL_law 1161 = .ok (.iconst 2, 1) := by decide +kernel
theorem dL_law_1162 : decode cL_law 1162 = .ok (.iadd, 1) := by decide +kernel
theorem dL_law_1163 : decode cL_law 1163 = .ok (.iaload, 1) := by decide +kernel
theorem dL_law_1164 : decode cL_law 1164 = .ok (.invokevirtual 137, 3) := by decide +kernel
theorem dL_law_1167 : decode cL_law 1167 = .ok (.if_icmp .eq 309, 3) := by decide +kernel
theorem dL_law_1170 : decode cL_law 1170 = .ok (.iconst 0, 1) := by decide +kernel
theorem dL_law_1171 : decode cL_law 1171 = .ok (.ireturn, 1) := by decide +kernel
theorem dL_law_1172 : decode cL_law 1172 = .ok (.aload_n 1, 1) := by decide +kernel
theorem dL_law_1173 : decode cL_law 1173 = .ok (.aload_n 0, 1) := by decide +kernel
theorem dL_law_1174 : decode cL_law 1174 = .ok (.iload_n 3, 1) := by decide +kernel
theorem dL_law_1175 : decode cL_law 1175 = .ok (.iconst 1, 1) := by decide +kernel
theorem dL_law_1176 : decode cL_law 1176 = .ok (.iadd, 1) := by decide +kernel
theorem dL_law_1177 : decode cL_law 1177 = .ok (.iaload, 1) := by decide +kernel
theorem dL_law_1178 : decode cL_law 1178 = .ok (.invokevirtual 138, 3) := by decide +kernel
theorem dL_law_1181 : decode cL_law 1181 = .ok (.aload_n 2, 1) := by decide +kernel
theorem dL_law_1182 : decode cL_law 1182 = .ok (.aload_n 0, 1) := by decide +kernel
theorem dL_law_1183 : decode cL_law 1183 = .ok (.iload_n 3, 1) := by decide +kernel
theorem dL_law_1184 : decode cL_law 1184 = .ok (.iconst 1, 1) := by decide +kernel
theorem dL_law_1185 : decode cL_law 1185 = .ok (.iadd, 1) := by decide +kernel
theorem dL_law_1186 : decode cL_law 1186 = .ok (.iaload, 1) := by decide +kernel
theorem dL_law_1187 : decode cL_law 1187 = .ok (.invokevirtual 141, 3) := by decide +kernel
theorem dL_law_1190 : decode cL_law 1190 = .ok (.if_icmp .eq 286, 3) := by decide +kernel
theorem dL_law_1193 : decode cL_law 1193 = .ok (.iconst 0, 1) := by decide +kernel
theorem dL_law_1194 : decode cL_law 1194 = .ok (.ireturn, 1) := by decide +kernel
theorem dL_law_1195 : decode cL_law 1195 = .ok (.aload_n 1, 1) := by decide +kernel
theorem dL_law_1196 : decode cL_law 1196 = .ok (.aload_n 0, 1) := by decide +kernel
theorem dL_law_1197 : decode cL_law 1197 = .ok (.iload_n 3, 1) := by decide +kernel
theorem dL_law_1198 : decode cL_law 1198 = .ok (.iconst 1, 1) := by decide +kernel
theorem dL_law_1199 : decode cL_law 1199 = .ok (.iadd, 1) := by decide +kernel
theorem dL_law_1200 : decode cL_law 1200 = .ok (.iaload, 1) := by decide +kernel
theorem dL_law_1201 : decode cL_law 1201 = .ok (.aload_n 0, 1) := by decide +kernel
theorem dL_law_1202 : decode cL_law 1202 = .ok (.iload_n 3, 1) := by decide +kernel
theorem dL_law_1203 : decode cL_law 1203 = .ok (.iconst 2, 1) := by decide +kernel
theorem dL_law_1204 : decode cL_law 1204 = .ok (.iadd, 1) := by decide +kernel
theorem dL_law_1205 : decode cL_law 1205 = .ok (.iaload, 1) := by decide +kernel
theorem dL_law_1206 : decode cL_law 1206 = .ok (.aload_n 0, 1) := by decide +kernel
theorem dL_law_1207 : decode cL_law 1207 = .ok (.iload_n 3, 1) := by decide +kernel
theorem dL_law_1208 : decode cL_law 1208 = .ok (.iconst 3, 1) := by decide +kernel
theorem dL_law_1209 : decode cL_law 1209 = .ok (.iadd, 1) := by decide +kernel
theorem dL_law_1210 : decode cL_law 1210 = .ok (.iaload, 1) := by decide +kernel
theorem dL_law_1211 : decode cL_law 1211 = .ok (.invokevirtual 142, 3) := by decide +kernel
theorem dL_law_1214 : decode cL_law 1214 = .ok (.aload_n 2, 1) := by decide +kernel
theorem dL_law_1215 : decode cL_law 1215 = .ok (.aload_n 0, 1) := by decide +kernel
theorem dL_law_1216 : decode cL_law 1216 = .ok (.iload_n 3, 1) := by decide +kernel
theorem dL_law_1217 : decode cL_law 1217 = .ok (.iconst 1, 1) := by decide +kernel
theorem dL_law_1218 : decode cL_law 1218 = .ok (.iadd, 1) := by decide +kernel
theorem dL_law_1219 : decode cL_law 1219 = .ok (.iaload, 1) := by decide +kernel
theorem dL_law_1220 : decode cL_law 1220 = .ok (.aload_n 0, 1) := by decide +kernel
theorem dL_law_1221 : decode cL_law 1221 = .ok (.iload_n 3, 1) := by decide +kernel
theorem dL_law_1222 : decode cL_law 1222 = .ok (.iconst 2, 1) := by decide +kernel
theorem dL_law_1223 : decode cL_law 1223 = .ok (.iadd, 1) := by decide +kernel
theorem dL_law_1224 : decode cL_law 1224 = .ok (.iaload, 1) := by decide +kernel
theorem dL_law_1225 : decode cL_law 1225 = .ok (.aload_n 0, 1) := by decide +kernel
theorem dL_law_1226 : decode cL_law 1226 = .ok (.iload_n 3, 1) := by decide +kernel
theorem dL_law_1227 : decode cL_law 1227 = .ok (.iconst 3, 1) := by decide +kernel
theorem dL_law_1228 : decode cL_law 1228 = .ok (.iadd, 1) := by decide +kernel
theorem dL_law_1229 : decode cL_law 1229 = .ok (.iaload, 1) := by decide +kernel
theorem dL_law_1230 : decode cL_law 1230 = .ok (.invokevirtual 146, 3) := by decide +kernel
theorem dL_law_1233 : decode cL_law 1233 = .ok (.lcmp, 1) := by decide +kernel
theorem dL_law_1234 : decode cL_law 1234 = .ok (.ifCond .eq 242, 3) := by decide +kernel
theorem dL_law_1237 : decode cL_law 1237 = .ok (.iconst 0, 1) := by decide +kernel
theorem dL_law_1238 : decode cL_law 1238 = .ok (.ireturn, 1) := by decide +kernel
theorem dL_law_1239 : decode cL_law 1239 = .ok (.aload_n 1, 1) := by decide +kernel
theorem dL_law_1240 : decode cL_law 1240 = .ok (.aload_n 0, 1) := by decide +kernel
theorem dL_law_1241 : decode cL_law 1241 = .ok (.iload_n 3, 1) := by decide +kernel
theorem dL_law_1242 : decode cL_law 1242 = .ok (.iconst 1, 1) := by decide +kernel
theorem dL_law_1243 : decode cL_law 1243 = .ok (.iadd, 1) := by decide +kernel
theorem dL_law_1244 : decode cL_law 1244 = .ok (.iaload, 1) := by decide +kernel
theorem dL_law_1245 : decode cL_law 1245 = .ok (.aload_n 0, 1) := by decide +kernel
theorem dL_law_1246 : decode cL_law 1246 = .ok (.iload_n 3, 1) := by decide +kernel
theorem dL_law_1247 : decode cL_law 1247 = .ok (.iconst 2, 1) := by decide +kernel
theorem dL_law_1248 : decode cL_law 1248 = .ok (.iadd, 1) := by decide +kernel
theorem dL_law_1249 : decode cL_law 1249 = .ok (.iaload, 1) := by decide +kernel
theorem dL_law_1250 : decode cL_law 1250 = .ok (.aload_n 0, 1) := by decide +kernel
theorem dL_law_1251 : decode cL_law 1251 = .ok (.iload_n 3, 1) := by decide +kernel
theorem dL_law_1252 : decode cL_law 1252 = .ok (.iconst 3, 1) := by decide +kernel
theorem dL_law_1253 : decode cL_law 1253 = .ok (.iadd, 1) := by decide +kernel
theorem dL_law_1254 : decode cL_law 1254 = .ok (.iaload, 1) := by decide +kernel
theorem dL_law_1255 : decode cL_law 1255 = .ok (.invokevirtual 147, 3) := by decide +kernel
theorem dL_law_1258 : decode cL_law 1258 = .ok (.aload_n 2, 1) := by decide +kernel
theorem dL_law_1259 : decode cL_law 1259 = .ok (.aload_n 0, 1) := by decide +kernel
theorem dL_law_1260 : decode cL_law 1260 = .ok (.iload_n 3, 1) := by decide +kernel
theorem dL_law_1261 : decode cL_law 1261 = .ok (.iconst 1, 1) := by decide +kernel
theorem dL_law_1262 : decode cL_law 1262 = .ok (.iadd, 1) := by decide +kernel
theorem dL_law_1263 : decode cL_law 1263 = .ok (.iaload, 1) := by decide +kernel
theorem dL_law_1264 : decode cL_law 1264 = .ok (.aload_n 0, 1) := by decide +kernel
theorem dL_law_1265 : decode cL_law 1265 = .ok (.iload_n 3, 1) := by decide +kernel
theorem dL_law_1266 : decode cL_law 1266 = .ok (.iconst 2, 1) := by decide +kernel
theorem dL_law_1267 : decode cL_law 1267 = .ok (.iadd, 1) := by decide +kernel
theorem dL_law_1268 : decode cL_law 1268 = .ok (.iaload, 1) := by decide +kernel
theorem dL_law_1269 : decode cL_law 1269 = .ok (.aload_n 0, 1) := by decide +kernel
theorem dL_law_1270 : decode cL_law 1270 = .ok (.iload_n 3, 1) := by decide +kernel
theorem dL_law_1271 : decode cL_law 1271 = .ok (.iconst 3, 1) := by decide +kernel
theorem dL_law_1272 : decode cL_law 1272 = .ok (.iadd, 1) := by decide +kernel
theorem dL_law_1273 : decode cL_law 1273 = .ok (.iaload, 1) := by decide +kernel
theorem dL_law_1274 : decode cL_law 1274 = .ok (.invokevirtual 150, 3) := by decide +kernel
theorem dL_law_1277 : decode cL_law 1277 = .ok (.if_icmp .eq 199, 3) := by decide +kernel
theorem dL_law_1280 : decode cL_law 1280 = .ok (.iconst 0, 1) := by decide +kernel
theorem dL_law_1281 : decode cL_law 1281 = .ok (.ireturn, 1) := by decide +kernel
theorem dL_law_1282 : decode cL_law 1282 = .ok (.aload_n 1, 1) := by decide +kernel
theorem dL_law_1283 : decode cL_law 1283 = .ok (.aload_n 0, 1) := by decide +kernel
theorem dL_law_1284 : decode cL_law 1284 = .ok (.iload_n 3, 1) := by decide +kernel
theorem dL_law_1285 : decode cL_law 1285 = .ok (.iconst 1, 1) := by decide +kernel
theorem dL_law_1286 : decode cL_law 1286 = .ok (.iadd, 1) := by decide +kernel
theorem dL_law_1287 : decode cL_law 1287 = .ok (.iaload, 1) := by decide +kernel
theorem dL_law_1288 : decode cL_law 1288 = .ok (.invokevirtual 151, 3) := by decide +kernel
theorem dL_law_1291 : decode cL_law 1291 = .ok (.aload_n 2, 1) := by decide +kernel
theorem dL_law_1292 : decode cL_law 1292 = .ok (.aload_n 0, 1) := by decide +kernel
theorem dL_law_1293 : decode cL_law 1293 = .ok (.iload_n 3, 1) := by decide +kernel
theorem dL_law_1294 : decode cL_law 1294 = .ok (.iconst 1, 1) := by decide +kernel
theorem dL_law_1295 : decode cL_law 1295 = .ok (.iadd, 1) := by decide +kernel
theorem dL_law_1296 : decode cL_law 1296 = .ok (.iaload, 1) := by decide +kernel
theorem dL_law_1297 : decode cL_law 1297 = .ok (.invokevirtual 154, 3) := by decide +kernel
theorem dL_law_1300 : decode cL_law 1300 = .ok (.if_icmp .eq 176, 3) := by decide +kernel
theorem dL_law_1303 : decode cL_law 1303 = .ok (.iconst 0, 1) := by decide +kernel
theorem dL_law_1304 : decode cL_law 1304 = .ok (.ireturn, 1) := by decide +kernel
theorem dL_law_1305 : decode cL_law 1305 = .ok (.aload_n 1, 1) := by decide +kernel
theorem dL_law_1306 : decode cL_law 1306 = .ok (.aload_n 0, 1) := by decide +kernel
theorem dL_law_1307 : decode cL_law 1307 = .ok (.iload_n 3, 1) := by decide +kernel
theorem dL_law_1308 : decode cL_law 1308 = .ok (.iconst 1, 1) := by decide +kernel
theorem dL_law_1309 : decode cL_law 1309 = .ok (.iadd, 1) := by decide +kernel
theorem dL_law_1310 : decode cL_law 1310 = .ok (.iaload, 1) := by decide +kernel
theorem dL_law_1311 : decode cL_law 1311 = .ok (.invokevirtual 155, 3) := by decide +kernel
theorem dL_law_1314 : decode cL_law 1314 = .ok (.aload_n 2, 1) := by decide +kernel
theorem dL_law_1315 : decode cL_law 1315 = .ok (.aload_n 0, 1) := by decide +kernel
theorem dL_law_1316 : decode cL_law 1316 = .ok (.iload_n 3, 1) := by decide +kernel
theorem dL_law_1317 : decode cL_law 1317 = .ok (.iconst 1, 1) := by decide +kernel
theorem dL_law_1318 : decode cL_law 1318 = .ok (.iadd, 1) := by decide +kernel
theorem dL_law_1319 : decode cL_law 1319 = .ok (.iaload, 1) := by decide +kernel
theorem dL_law_1320 : decode cL_law 1320 = .ok (.invokevirtual 158, 3) := by decide +kernel
theorem dL_law_1323 : decode cL_law 1323 = .ok (.if_icmp .eq 153, 3) := by decide +kernel
theorem dL_law_1326 : decode cL_law 1326 = .ok (.iconst 0, 1) := by decide +kernel
theorem dL_law_1327 : decode cL_law 1327 = .ok (.ireturn, 1) := by decide +kernel
theorem dL_law_1328 : decode cL_law 1328 = .ok (.aload_n 1, 1) := by decide +kernel
theorem dL_law_1329 : decode cL_law 1329 = .ok (.aload_n 0, 1) := by decide +kernel
theorem dL_law_1330 : decode cL_law 1330 = .ok (.iload_n 3, 1) := by decide +kernel
theorem dL_law_1331 : decode cL_law 1331 = .ok (.iconst 1, 1) := by decide +kernel
theorem dL_law_1332 : decode cL_law 1332 = .ok (.iadd, 1) := by decide +kernel
theorem dL_law_1333 : decode cL_law 1333 = .ok (.iaload, 1) := by decide +kernel
theorem dL_law_1334 : decode cL_law 1334 = .ok (.invokevirtual 159, 3) := by decide +kernel
theorem dL_law_1337 : decode cL_law 1337 = .ok (.aload_n 2, 1) := by decide +kernel
theorem dL_law_1338 : decode cL_law 1338 = .ok (.aload_n 0, 1) := by decide +kernel
theorem dL_law_1339 : decode cL_law 1339 = .ok (.iload_n 3, 1) := by decide +kernel
theorem dL_law_1340 : decode cL_law 1340 = .ok (.iconst 1, 1) := by decide +kernel
theorem dL_law_1341 : decode cL_law 1341 = .ok (.iadd, 1) := by decide +kernel
theorem dL_law_1342 : decode cL_law 1342 = .ok (.iaload, 1) := by decide +kernel
theorem dL_law_1343 : decode cL_law 1343 = .ok (.invokevirtual 162, 3) := by decide +kernel
theorem dL_law_1346 : decode cL_law 1346 = .ok (.if_icmp .eq 130, 3) := by decide +kernel
theorem dL_law_1349 : decode cL_law 1349 = .ok (.iconst 0, 1) := by decide +kernel
theorem dL_law_1350 : decode cL_law 1350 = .ok (.ireturn, 1) := by decide +kernel
theorem dL_law_1351 : decode cL_law 1351 = .ok (.aload_n 1, 1) := by decide +kernel
theorem dL_law_1352 : decode cL_law 1352 = .ok (.aload_n 0, 1) := by decide +kernel
theorem dL_law_1353 : decode cL_law 1353 = .ok (.iload_n 3, 1) := by decide +kernel
theorem dL_law_1354 : decode cL_law 1354 = .ok (.iconst 1, 1) := by decide +kernel
theorem dL_law_1355 : decode cL_law 1355 = .ok (.iadd, 1) := by decide +kernel
theorem dL_law_1356 : decode cL_law 1356 = .ok (.iaload, 1) := by decide +kernel
theorem dL_law_1357 : decode cL_law 1357 = .ok (.aload_n 0, 1) := by decide +kernel
theorem dL_law_1358 : decode cL_law 1358 = .ok (.iload_n 3, 1) := by decide +kernel
theorem dL_law_1359 : decode cL_law 1359 = .ok (.iconst 2, 1) := by decide +kernel
theorem dL_law_1360 : decode cL_law 1360 = .ok (.iadd, 1) := by decide +kernel
theorem dL_law_1361 : decode cL_law 1361 = .ok (.iaload, 1) := by decide +kernel
theorem dL_law_1362 : decode cL_law 1362 = .ok (.invokevirtual 163, 3) := by decide +kernel
theorem dL_law_1365 : decode cL_law 1365 = .ok (.aload_n 2, 1) := by decide +kernel
theorem dL_law_1366 : decode cL_law 1366 = .ok (.aload_n 0, 1) := by decide +kernel
theorem dL_law_1367 : decode cL_law 1367 = .ok (.iload_n 3, 1) := by decide +kernel
theorem dL_law_1368 : decode cL_law 1368 = .ok (.iconst 1, 1) := by decide +kernel
theorem dL_law_1369 : decode cL_law 1369 = .ok (.iadd, 1) := by decide +kernel
theorem dL_law_1370 : decode cL_law 1370 = .ok (.iaload, 1) := by decide +kernel
theorem dL_law_1371 : decode cL_law 1371 = .ok (.aload_n 0, 1) := by decide +kernel
theorem dL_law_1372 : decode cL_law 1372 = .ok (.iload_n 3, 1) := by decide +kernel
theorem dL_law_1373 : decode cL_law 1373 = .ok (.iconst 2, 1) := by decide +kernel
theorem dL_law_1374 : decode cL_law 1374 = .ok (.iadd, 1) := by decide +kernel
theorem dL_law_1375 : decode cL_law 1375 = .ok (.iaload, 1) := by decide +kernel
theorem dL_law_1376 : decode cL_law 1376 = .ok (.invokevirtual 166, 3) := by decide +kernel
theorem dL_law_1379 : decode cL_law 1379 = .ok (.if_icmp .eq 97, 3) := by decide +kernel
theorem dL_law_1382 : decode cL_law 1382 = .ok (.iconst 0, 1) := by decide +kernel
theorem dL_law_1383 : decode cL_law 1383 = .ok (.ireturn, 1) := by decide +kernel
theorem dL_law_1384 : decode cL_law 1384 = .ok (.aload_n 1, 1) := by decide +kernel
theorem dL_law_1385 : decode cL_law 1385 = .ok (.aload_n 0, 1) := by decide +kernel
theorem dL_law_1386 : decode cL_law 1386 = .ok (.iload_n 3, 1) := by decide +kernel
theorem dL_law_1387 : decode cL_law 1387 = .ok (.iconst 1, 1) := by decide +kernel
theorem dL_law_1388 : decode cL_law 1388 = .ok (.iadd, 1) := by decide +kernel
theorem dL_law_1389 : decode cL_law 1389 = .ok (.iaload, 1) := by decide +kernel
theorem dL_law_1390 : decode cL_law 1390 = .ok (.aload_n 0, 1) := by decide +kernel
theorem dL_law_1391 : decode cL_law 1391 = .ok (.iload_n 3, 1) := by decide +kernel
theorem dL_law_1392 : decode cL_law 1392 = .ok (.iconst 2, 1) := by decide +kernel
theorem dL_law_1393 : decode cL_law 1393 = .ok (.iadd, 1) := by decide +kernel
theorem dL_law_1394 : decode cL_law 1394 = .ok (.iaload, 1) := by decide +kernel
theorem dL_law_1395 : decode cL_law 1395 = .ok (.invokevirtual 167, 3) := by decide +kernel
theorem dL_law_1398 : decode cL_law 1398 = .ok (.aload_n 2, 1) := by decide +kernel
theorem dL_law_1399 : decode cL_law 1399 = .ok (.aload_n 0, 1) := by decide +kernel
theorem dL_law_1400 : decode cL_law 1400 = .ok (.iload_n 3, 1) := by decide +kernel
theorem dL_law_1401 : decode cL_law 1401 = .ok (.iconst 1, 1) := by decide +kernel
theorem dL_law_1402 : decode cL_law 1402 = .ok (.iadd, 1) := by decide +kernel
theorem dL_law_1403 : decode cL_law 1403 = .ok (.iaload, 1) := by decide +kernel
theorem dL_law_1404 : decode cL_law 1404 = .ok (.aload_n 0, 1) := by decide +kernel
theorem dL_law_1405 : decode cL_law 1405 = .ok (.iload_n 3, 1) := by decide +kernel
theorem dL_law_1406 : decode cL_law 1406 = .ok (.iconst 2, 1) := by decide +kernel
theorem dL_law_1407 : decode cL_law 1407 = .ok (.iadd, 1) := by decide +kernel
theorem dL_law_1408 : decode cL_law 1408 = .ok (.iaload, 1) := by decide +kernel
theorem dL_law_1409 : decode cL_law 1409 = .ok (.invokevirtual 170, 3) := by decide +kernel
theorem dL_law_1412 : decode cL_law 1412 = .ok (.if_icmp .eq 64, 3) := by decide +kernel
theorem dL_law_1415 : decode cL_law 1415 = .ok (.iconst 0, 1) := by decide +kernel
theorem dL_law_1416 : decode cL_law 1416 = .ok (.ireturn, 1) := by decide +kernel
theorem dL_law_1417 : decode cL_law 1417 = .ok (.aload_n 1, 1) := by decide +kernel
theorem dL_law_1418 : decode cL_law 1418 = .ok (.aload_n 0, 1) := by decide +kernel
theorem dL_law_1419 : decode cL_law 1419 = .ok (.iload_n 3, 1) := by decide +kernel
theorem dL_law_1420 : decode cL_law 1420 = .ok (.iconst 1, 1) := by decide +kernel
theorem dL_law_1421 : decode cL_law 1421 = .ok (.iadd, 1) := by decide +kernel
theorem dL_law_1422 : decode cL_law 1422 = .ok (.iaload, 1) := by decide +kernel
theorem dL_law_1423 : decode cL_law 1423 = .ok (.invokevirtual 171, 3) := by decide +kernel
theorem dL_law_1426 : decode cL_law 1426 = .ok (.aload_n 2, 1) := by decide +kernel
theorem dL_law_1427 : decode cL_law 1427 = .ok (.aload_n 0, 1) := by decide +kernel
theorem dL_law_1428 : decode cL_law 1428 = .ok (.iload_n 3, 1) := by decide +kernel
theorem dL_law_1429 : decode cL_law 1429 = .ok (.iconst 1, 1) := by decide +kernel
theorem dL_law_1430 : decode cL_law 1430 = .ok (.iadd, 1) := by decide +kernel
theorem dL_law_1431 : decode cL_law 1431 = .ok (.iaload, 1) := by decide +kernel
theorem dL_law_1432 : decode cL_law 1432 = .ok (.invokevirtual 174, 3) := by decide +kernel
theorem dL_law_1435 : decode cL_law 1435 = .ok (.if_icmp .eq 41, 3) := by decide +kernel
theorem dL_law_1438 : decode cL_law 1438 = .ok (.iconst 0, 1) := by decide +kernel
theorem dL_law_1439 : decode cL_law 1439 = .ok (.ireturn, 1) := by decide +kernel
theorem dL_law_1440 : decode cL_law 1440 = .ok (.aload_n 1, 1) := by decide +kernel
theorem dL_law_1441 : decode cL_law 1441 = .ok (.aload_n 0, 1) := by decide +kernel
theorem dL_law_1442 : decode cL_law 1442 = .ok (.iload_n 3, 1) := by decide +kernel
theorem dL_law_1443 : decode cL_law 1443 = .ok (.iconst 1, 1) := by decide +kernel
theorem dL_law_1444 : decode cL_law 1444 = .ok (.iadd, 1) := by decide +kernel
theorem dL_law_1445 : decode cL_law 1445 = .ok (.iaload, 1) := by decide +kernel
theorem dL_law_1446 : decode cL_law 1446 = .ok (.invokevirtual 175, 3) := by decide +kernel
theorem dL_law_1449 : decode cL_law 1449 = .ok (.aload_n 2, 1) := by decide +kernel
theorem dL_law_1450 : decode cL_law 1450 = .ok (.aload_n 0, 1) := by decide +kernel
theorem dL_law_1451 : decode cL_law 1451 = .ok (.iload_n 3, 1) := by decide +kernel
theorem dL_law_1452 : decode cL_law 1452 = .ok (.iconst 1, 1) := by decide +kernel
theorem dL_law_1453 : decode cL_law 1453 = .ok (.iadd, 1) := by decide +kernel
theorem dL_law_1454 : decode cL_law 1454 = .ok (.iaload, 1) := by decide +kernel
theorem dL_law_1455 : decode cL_law 1455 = .ok (.invokevirtual 178, 3) := by decide +kernel
theorem dL_law_1458 : decode cL_law 1458 = .ok (.if_icmp .eq 18, 3) := by decide +kernel
theorem dL_law_1461 : decode cL_law 1461 = .ok (.iconst 0, 1) := by decide +kernel
theorem dL_law_1462 : decode cL_law 1462 = .ok (.ireturn, 1) := by decide +kernel
theorem dL_law_1463 : decode cL_law 1463 = .ok (.aload_n 1, 1) := by decide +kernel
theorem dL_law_1464 : decode cL_law 1464 = .ok (.invokevirtual 179, 3) := by decide +kernel
theorem dL_law_1467 : decode cL_law 1467 = .ok (.aload_n 2, 1) := by decide +kernel
theorem dL_law_1468 : decode cL_law 1468 = .ok (.invokevirtual 182, 3) := by decide +kernel
theorem dL_law_1471 : decode cL_law 1471 = .ok (.if_icmp .eq 5, 3) := by decide +kernel
theorem dL_law_1474 : decode cL_law 1474 = .ok (.iconst 0, 1) := by decide +kernel
theorem dL_law_1475 : decode cL_law 1475 = .ok (.ireturn, 1) := by decide +kernel
theorem dL_law_1476 : decode cL_law 1476 = .ok (.iinc 3 6, 3) := by decide +kernel
theorem dL_law_1479 : decode cL_law 1479 = .ok (.goto (-1461), 3) := by decide +kernel
theorem dL_law_1482 : decode cL_law 1482 = .ok (.iconst 1, 1) := by decide +kernel
theorem dL_law_1483 : decode cL_law 1483 = .ok (.ireturn, 1) := by decide +kernel
end
section
/-! ===== THE ABSTRACT MACHINE: whole numbers for ints and longs, cells by their number in the order of making ===== -/
/-- a value: an int, a long, a cell of ours or null, a static array -/
abbrev AV : Type := Int ⊕ (Int ⊕ (Option Nat ⊕ Nat))
abbrev vi (z : Int) : AV := Sum.inl z
abbrev vl (z : Int) : AV := Sum.inr (Sum.inl z)
abbrev vr (a : Nat) : AV := Sum.inr (Sum.inr (Sum.inl (some a)))
abbrev vnul : AV := Sum.inr (Sum.inr (Sum.inl none))
abbrev vz (a : Nat) : AV := Sum.inr (Sum.inr (Sum.inr a))
/-- what a run of the law fixes: slots of classes, array classes, the first new address, the static arrays -/
abbrev EV : Type := va_G × (Nat → ClassId) × Nat × (Nat → Nat) × Nat × (Nat → Int32)
abbrev eD (E : EV) : va_G := E.1
abbrev eC (E : EV) : Nat → ClassId := E.2.1
abbrev eB (E : EV) : Nat := E.2.2.1
abbrev eZ (E : EV) : Nat → Nat := E.2.2.2.1
/-- the script: its length, its numbers; it lies at eZ E 3 -/
abbrev eL (E : EV) : Nat := E.2.2.2.2.1
abbrev eX (E : EV) : Nat → Int32 := E.2.2.2.2.2
abbrev eA (E : EV) : Nat → Prop := fun q => eB E ≤ q
def i32 (z : Int) : Int32 := Int32.ofInt z
def i64 (z : Int) : Int64 := Int64.ofInt z
abbrev R32 (z : Int) : Prop := -2147483648 ≤ z ∧ z < 2147483648
abbrev R64 (z : Int) : Prop := -9223372036854775808 ≤ z ∧ z < 9223372036854775808
def cvv (E : EV) : AV → Value
  | .inl z => .int (i32 z)
  | .inr (.inl z) => .long (i64 z)
  | .inr (.inr (.inl (some a))) => .ref (eB E + a)
  | .inr (.inr (.inl none)) => .null
  | .inr (.inr (.inr a)) => .ref (eZ E a)
/-- the graph: of each cell its kind (0 ints, 1 longs, 2 rows of Sky, 3 rows of int rows, 4 + class) and its fields (-1 an int, -2 a long, -3 null, else the cell); of a row of numbers its length -/
abbrev GG : Type := Nat → Nat × List Int
abbrev MM : Type := Nat → Int → Int
def fv (E : EV) (M : MM) (i k : Nat) (q : Int) : Value := if q = -1 then .int (i32 (M i (k : Int))) else if q = -2 then .long (i64 (M i (k : Int))) else if q = -3 then .null else .ref (eB E + q.toNat)
def fq (E : EV) (q : Int) : Option Nat := if q < 0 then none else some (eB E + q.toNat)
def cel (E : EV) (G : GG) (M : MM) (i : Nat) : va_E := match (G i).1 with
  | 0 => .inl (eC E 0, ((G i).2.headD 0).toNat, .inl (fun j => i32 (M i (j : Int))))
  | 1 => .inl (eC E 1, ((G i).2.headD 0).toNat, .inr (.inl (fun j => i64 (M i (j : Int)))))
  | 2 => .inl (eC E 2, (G i).2.length, .inr (.inr (.inr (.inr (fun j => fq E ((G i).2.getD j (-3)))))))
  | 3 => .inl (eC E 3, (G i).2.length, .inr (.inr (.inr (.inr (fun j => fq E ((G i).2.getD j (-3)))))))
  | c + 4 => .inr (c, (G i).2.mapIdx (fun k q => fv E M i k q))
def wsL (E : EV) (n : Nat) (G : GG) (M : MM) : va_W := (List.range n).map (fun i => (eB E + i, cel E G M i))
theorem wsL_at {E : EV} {n : Nat} {G : GG} {M : MM} {i : Nat} (h : i < n) : (wsL E n G M)[i]? = some (eB E + i, cel E G M i) := by
  simp [wsL, h]
theorem wsL_of {E : EV} {n : Nat} {G : GG} {M : MM} {i : Nat} {q : Nat × va_E} (h : (wsL E n G M)[i]? = some q) : i < n ∧ q = (eB E + i, cel E G M i) := by
  by_cases hi : i < n
  · rw [wsL_at hi] at h
    exact ⟨hi, (Option.some.inj h).symm⟩
  · exfalso
    have : (wsL E n G M)[i]? = none := by simp [wsL]; omega
    rw [this] at h
    cases h
theorem wsL_D (E : EV) (n : Nat) (G : GG) (M : MM) : va_D (eA E) (wsL E n G M) := by
  refine ⟨fun i j p q hi hj e => ?_, fun k q hk => ?_⟩
  · obtain ⟨-, rfl⟩ := wsL_of hi
    obtain ⟨-, rfl⟩ := wsL_of hj
    have : eB E + i = eB E + j := e
    omega
  · obtain ⟨-, rfl⟩ := wsL_of hk
    exact Nat.le_add_right _ _
def tyL (E : EV) : List (ClassId × FieldType) := [(eC E 0, .int), (eC E 1, .long), (eC E 2, .object RX6), (eC E 3, .array .int)]
/-- the numbers are such as an int, a long, can be -/
def RG (n : Nat) (G : GG) (M : MM) : Prop := ∀ i, i < n → ∀ j : Int, R64 (M i j) ∧ ((G i).1 = 1 ∨ (G i).1 = 6 ∨ R32 (M i j))
/-- how many cells there are once the law has made its two objects -/
def N0 : Nat := 250
/-- the size: exact while cells are made -/
def HZ (E : EV) (n : Nat) (H : Heap) : Prop := eB E + n ≤ H.size ∧ (n < N0 → H.size = eB E + n)
def HP (E : EV) (n : Nat) (G : GG) (M : MM) (H : Heap) : Prop := HZ E n H ∧ va_P (eD E) vwCl (wsL E n G M) H ∧ RG n G M
theorem HP.at {E : EV} {n : Nat} {G : GG} {M : MM} {H : Heap} (h : HP E n G M H) {i : Nat} (hi : i < n) : va_at (eD E) vwCl (eB E + i, cel E G M i) H := h.2.1 i _ (wsL_at hi)
theorem HP.mk {E : EV} {n : Nat} {G : GG} {M : MM} {H : Heap} (hs : HZ E n H) (hR : RG n G M) (h : ∀ i, i < n → va_at (eD E) vwCl (eB E + i, cel E G M i) H) : HP E n G M H := by
  refine ⟨hs, fun k q hk => ?_, hR⟩
  obtain ⟨hi, rfl⟩ := wsL_of hk
  exact h k hi
/-- one cell changes -/
theorem HP.put {E : EV} {n : Nat} {G G' : GG} {M M' : MM} {H H1 : Heap} (h : HP E n G M H) {a : Nat} (ha : a < n) (hz : H1.size = H.size) (hat : va_at (eD E) vwCl (eB E + a, cel E G' M' a) H1) (oq : ∀ q : Nat, q ≠ eB E + a → H1[q]? = H[q]?) (hn : ∀ i, i < n → i ≠ a → cel E G' M' i = cel E G M i) (hR : RG n G' M') : HP E n G' M' H1 := by
  refine HP.mk (by unfold HZ; rw [hz]; exact h.1) hR (fun i hi => ?_)
  by_cases e : i = a
  · subst e; exact hat
  · rw [hn i hi e]
    exact (h.at hi).kept (oq _ (by show eB E + i ≠ eB E + a; omega))
/-- a cell comes -/
theorem HP.push {E : EV} {n : Nat} {G G' : GG} {M M' : MM} {H H1 : Heap} (h : HP E n G M H) (hlt : n < N0) (hz : H1.size = H.size + 1) (hat : va_at (eD E) vwCl (eB E + n, cel E G' M' n) H1) (oq : ∀ q : Nat, q < H.size → H1[q]? = H[q]?) (hn : ∀ i, i < n → cel E G' M' i = cel E G M i) (hR : RG (n + 1) G' M') : HP E (n + 1) G' M' H1 := by
  have h9 := h.1.2 hlt
  refine HP.mk ⟨by omega, fun _ => by omega⟩ hR (fun i hi => ?_)
  by_cases e : i = n
  · subst e; exact hat
  · have hi' : i < n := by omega
    rw [hn i hi']
    exact (h.at hi').kept (oq _ (h.at hi').lt)
theorem HP.congr {E : EV} {n : Nat} {G G' : GG} {M M' : MM} {H : Heap} (h : HP E n G M H) (hc : ∀ i, i < n → cel E G' M' i = cel E G M i) (hR : RG n G' M') : HP E n G' M' H :=
  HP.mk h.1 hR (fun i hi => by rw [hc i hi]; exact h.at hi)
/-! locals: by place; a long has none behind it -/
abbrev LV : Type := List (Option AV)
def isL : Option AV → Bool
  | some (.inr (.inl _)) => true
  | _ => false
def LH (E : EV) (lsA : Array Slot) (nL : Nat) (ls : LV) : Prop := lsA.size = nL ∧ lv_wf lsA ∧ ∀ (i : Nat) (v : AV), ls[i]? = some (some v) → lsA[i]? = some (.val (cvv E v))
theorem LH.get {E : EV} {lsA : Array Slot} {nL : Nat} {ls : LV} (h : LH E lsA nL ls) {i : Nat} {v : AV} (hi : ls[i]? = some (some v)) : lsA[i]? = some (.val (cvv E v)) := h.2.2 i v hi
/-- a value of one slot is stored: a long ahead of it is gone -/
def ls1 (ls : LV) (i : Nat) (v : AV) : LV := match i with
  | 0 => ls.set 0 (some v)
  | k + 1 => (cond (isL ((ls[k]?).join)) (ls.set k none) ls).set (k + 1) (some v)
def ls2 (ls : LV) (i : Nat) (v : AV) : LV := match i with
  | 0 => (ls.set 0 (some v)).set 1 none
  | k + 1 => ((cond (isL ((ls[k]?).join)) (ls.set k none) ls).set (k + 1) (some v)).set (k + 2) none
theorem cvv_cat2 {E : EV} {v : AV} (h : (cvv E v).category = 2) : isL (some v) = true := by
  match v, h with
  | .inr (.inl _), _ => rfl
  | .inl _, h => simp [cvv, Value.category] at h
  | .inr (.inr (.inl (some _))), h => simp [cvv, Value.category] at h
  | .inr (.inr (.inl none)), h => simp [cvv, Value.category] at h
  | .inr (.inr (.inr _)), h => simp [cvv, Value.category] at h
def lsem (E : EV) (ls : LV) : List (Nat × Value) := (List.range ls.length).filterMap (fun i => match (ls[i]?).join with | some v => some (i, cvv E v) | none => none)
theorem lsem_mem {E : EV} {ls : LV} {i : Nat} {v : AV} (h : ls[i]? = some (some v)) : (i, cvv E v) ∈ lsem E ls := by
  refine List.mem_filterMap.mpr ⟨i, List.mem_range.mpr (List.getElem?_eq_some_iff.mp h).1, ?_⟩
  simp [h]
theorem lsem_of {E : EV} {ls : LV} {q : Nat × Value} (h : q ∈ lsem E ls) : ∃ v, ls[q.1]? = some (some v) ∧ q.2 = cvv E v := by
  obtain ⟨i, -, hi⟩ := List.mem_filterMap.mp h
  cases hl : (ls[i]?).join with
  | none => rw [hl] at hi; cases hi
  | some v =>
    rw [hl] at hi
    cases hi
    refine ⟨v, ?_, rfl⟩
    cases hx : ls[i]? with
    | none => rw [hx] at hl; cases hl
    | some o => rw [hx] at hl; show some o = _; rw [show o = some v from hl]
theorem LH.has {E : EV} {lsA : Array Slot} {nL : Nat} {ls : LV} (h : LH E lsA nL ls) : lv_has lsA nL (lsem E ls) := ⟨h.1, h.2.1, fun q hq => by
  obtain ⟨v, h1, h2⟩ := lsem_of hq
  rw [h2]
  exact h.2.2 _ _ h1⟩
theorem LH.of {E : EV} {lsA : Array Slot} {nL : Nat} {l : List (Nat × Value)} {ls : LV} (h : lv_has lsA nL l) (hs : ∀ (i : Nat) (v : AV), ls[i]? = some (some v) → (i, cvv E v) ∈ l) : LH E lsA nL ls := ⟨h.1, h.2.1, fun i v hv => h.2.2 (i, cvv E v) (hs i v hv)⟩
theorem LH.st1 {E : EV} {lsA : Array Slot} {nL : Nat} {ls : LV} {i : Nat} {v : AV} (h : lv_has lsA nL ((i, cvv E v) :: (lsem E ls).filter (fun q => !(q.1 == i) && !(q.1 + 1 == i && q.2.category == 2)))) : LH E lsA nL (ls1 ls i v) := by
  refine LH.of h (fun j w hj => ?_)
  by_cases e : j = i
  · subst e
    have : w = v := by
      cases j with
      | zero => simp [ls1, List.getElem?_set] at hj; exact hj.2.symm
      | succ k => simp [ls1, List.getElem?_set] at hj; exact hj.2.symm
    subst this
    exact List.mem_cons_self
  · refine List.mem_cons_of_mem _ (List.mem_filter.mpr ?_)
    have key : ls[j]? = some (some w) ∧ ¬ (j + 1 = i ∧ isL (some w) = true) := by
      cases i with
      | zero =>
        simp only [ls1, List.getElem?_set] at hj
        rw [if_neg (fun q => e q.symm)] at hj
        exact ⟨hj, fun q => by omega⟩
      | succ k =>
        simp only [ls1, List.getElem?_set] at hj
        rw [if_neg (fun q => e q.symm)] at hj
        cases hb : isL ((ls[k]?).join) with
        | true =>
          rw [hb] at hj
          simp only [cond, List.getElem?_set] at hj
          by_cases ek : k = j
          · rw [if_pos ek] at hj
            split at hj <;> cases hj
          · rw [if_neg ek] at hj
            exact ⟨hj, fun q => by omega⟩
        | false =>
          rw [hb] at hj
          simp only [cond] at hj
          refine ⟨hj, fun q => ?_⟩
          have : k = j := by omega
          subst this
          rw [hj] at hb
          exact absurd q.2 (by rw [show isL (some w) = false from hb]; decide)
    refine ⟨lsem_mem key.1, ?_⟩
    simp only [Bool.and_eq_true, Bool.not_eq_true', beq_eq_false_iff_ne, ne_eq, Bool.and_eq_false_iff]
    refine ⟨e, ?_⟩
    by_cases e2 : j + 1 = i
    · right
      intro hc
      exact key.2 ⟨e2, cvv_cat2 hc⟩
    · left; exact e2
theorem LH.st2 {E : EV} {lsA : Array Slot} {nL : Nat} {ls : LV} {i : Nat} {v : AV} (h : lv_has lsA nL ((i, cvv E v) :: (lsem E ls).filter (fun q => !(q.1 == i) && (!(q.1 == i + 1) && !(q.1 + 1 == i && q.2.category == 2))))) : LH E lsA nL (ls2 ls i v) := by
  refine LH.of h (fun j w hj => ?_)
  by_cases e : j = i
  · subst e
    have : w = v := by
      cases j with
      | zero => simp [ls2, List.getElem?_set] at hj; exact hj.2.symm
      | succ k => simp [ls2, List.getElem?_set] at hj; exact hj.2.symm
    subst this
    exact List.mem_cons_self
  · refine List.mem_cons_of_mem _ (List.mem_filter.mpr ?_)
    have key : ls[j]? = some (some w) ∧ ¬ j = i + 1 ∧ ¬ (j + 1 = i ∧ isL (some w) = true) := by
      cases i with
      | zero =>
        simp only [ls2, List.getElem?_set] at hj
        by_cases e1 : 1 = j
        · rw [if_pos e1] at hj
          split at hj <;> cases hj
        · rw [if_neg e1, if_neg (fun q => e q.symm)] at hj
          exact ⟨hj, fun q => e1 (by omega), fun q => by omega⟩
      | succ k =>
        simp only [ls2, List.getElem?_set] at hj
        by_cases e1 : k + 2 = j
        · rw [if_pos e1] at hj
          split at hj <;> cases hj
        · rw [if_neg e1, if_neg (fun q => e q.symm)] at hj
          cases hb : isL ((ls[k]?).join) with
          | true =>
            rw [hb] at hj
            simp only [cond, List.getElem?_set] at hj
            by_cases ek : k = j
            · rw [if_pos ek] at hj
              split at hj <;> cases hj
            · rw [if_neg ek] at hj
              exact ⟨hj, fun q => e1 (by omega), fun q => by omega⟩
          | false =>
            rw [hb] at hj
            simp only [cond] at hj
            refine ⟨hj, fun q => e1 (by omega), fun q => ?_⟩
            have : k = j := by omega
            subst this
            rw [hj] at hb
            exact absurd q.2 (by rw [show isL (some w) = false from hb]; decide)
    refine ⟨lsem_mem key.1, ?_⟩
    simp only [Bool.and_eq_true, Bool.not_eq_true', beq_eq_false_iff_ne, ne_eq, Bool.and_eq_false_iff]
    refine ⟨e, key.2.1, ?_⟩
    by_cases e2 : j + 1 = i
    · right
      intro hc
      exact key.2.2 ⟨e2, cvv_cat2 hc⟩
    · left; exact e2
/-- the locals at a method's entry -/
def entL : List AV → LV
  | [] => []
  | v :: r => cond (isL (some v)) (some v :: none :: entL r) (some v :: entL r)
theorem entL_args (E : EV) : ∀ (av : List AV) (k i : Nat) (v : AV), (entL av)[i]? = some (some v) → (k + i, cvv E v) ∈ lv_args k (av.map (cvv E))
  | [], k, i, v, h => by simp [entL] at h
  | a :: r, k, i, v, h => by
    show _ ∈ (k, cvv E a) :: lv_args (if (cvv E a).category = 2 then k + 2 else k + 1) (r.map (cvv E))
    cases hb : isL (some a) with
    | true =>
      have hc : (cvv E a).category = 2 := by
        match a, hb with
        | .inr (.inl _), _ => rfl
        | .inl _, h => cases h
        | .inr (.inr _), h => cases h
      rw [if_pos hc]
      simp only [entL, hb, cond] at h
      match i, h with
      | 0, h => cases h; exact List.mem_cons_self
      | 1, h => cases h
      | i + 2, h =>
        have := entL_args E r (k + 2) i v h
        rw [show k + (i + 2) = k + 2 + i by omega]
        exact List.mem_cons_of_mem _ this
    | false =>
      have hc : ¬ (cvv E a).category = 2 := fun q => by
        have := cvv_cat2 q
        rw [hb] at this
        cases this
      rw [if_neg hc]
      simp only [entL, hb, cond] at h
      match i, h with
      | 0, h => cases h; exact List.mem_cons_self
      | i + 1, h =>
        have := entL_args E r (k + 1) i v h
        rw [show k + (i + 1) = k + 1 + i by omega]
        exact List.mem_cons_of_mem _ this
theorem entL_len (E : EV) : ∀ (av : List AV), (lg_sl (av.map (cvv E))).length = (entL av).length
  | [] => rfl
  | a :: r => by
    have ih := entL_len E r
    cases hb : isL (some a) with
    | true =>
      have hc : (cvv E a).category = 2 := by
        match a, hb with
        | .inr (.inl _), _ => rfl
        | .inl _, h => cases h
        | .inr (.inr _), h => cases h
      simp only [entL, hb, cond, List.length_cons, List.map_cons]
      simp only [lg_sl, List.flatMap_cons, List.length_append] at ih ⊢
      rw [if_pos hc, ih]
      simp only [List.length_cons, List.length_nil]
      omega
    | false =>
      have hc : ¬ (cvv E a).category = 2 := fun q => by
        have := cvv_cat2 q
        rw [hb] at this
        cases this
      simp only [entL, hb, cond, List.length_cons, List.map_cons]
      simp only [lg_sl, List.flatMap_cons, List.length_append] at ih ⊢
      rw [if_neg hc, ih]
      simp only [List.length_cons, List.length_nil]
      omega
theorem LH.pad {E : EV} {lsA : Array Slot} {nL : Nat} {ls : LV} (h : LH E lsA nL ls) (k : Nat) : LH E lsA nL (ls ++ List.replicate k none) := ⟨h.1, h.2.1, fun i v hv => by
  refine h.2.2 i v ?_
  by_cases hi : i < ls.length
  · rwa [List.getElem?_append_left hi] at hv
  · rw [List.getElem?_append_right (by omega), List.getElem?_replicate] at hv
    split at hv <;> cases hv⟩
theorem LH.drop {E : EV} {lsA : Array Slot} {nL : Nat} {ls ls' : LV} (h : LH E lsA nL ls) (hs : ∀ (i : Nat) (v : AV), ls'[i]? = some (some v) → ls[i]? = some (some v)) : LH E lsA nL ls' := ⟨h.1, h.2.1, fun i v hv => h.2.2 i v (hs i v hv)⟩
end
section
/-! ===== CONTRACTS (Ct) AND WALKS (Wp) OVER THE ABSTRACT MACHINE ===== -/
abbrev MD : Type := Nat × MethodName × ByteArray × Nat × Option FieldType × Nat
abbrev mO (X : MD) : Nat := X.1
abbrev mY (X : MD) : MethodName := X.2.1
abbrev mB (X : MD) : ByteArray := X.2.2.1
abbrev mL (X : MD) : Nat := X.2.2.2.1
abbrev mR (X : MD) : Option FieldType := X.2.2.2.2.1
abbrev mN (X : MD) : Nat := X.2.2.2.2.2
def RR : Nat → String
  | 0 => RX0 | 1 => RX1 | 2 => RX2 | 3 => RX3 | 4 => RX4 | 5 => RX5 | 6 => RX6 | 7 => RX7 | 8 => RX8 | 9 => RX9 | 10 => RX10
  | 11 => "SignedCloudsLaw" | 12 => "java/lang/Math" | _ => "java/lang/Integer"
def wG : List Cond := lw_tbl.filter goodWord
theorem wG_in {w : Cond} (i : Nat) (h : lw_tbl[i]? = some w) (hg : goodWord w = true) : w ∈ wG := List.mem_filter.mpr ⟨List.mem_of_getElem? h, hg⟩
theorem wG_tbl {w : Cond} (h : w ∈ wG) : w ∈ lw_tbl := (List.mem_filter.mp h).1
def wsY (X : MD) : List Cond := Cond.code (mY X) (mB X) (mL X) (mR X) :: wG
theorem wsY_good {X Y : MD} (h : Cond.code (mY Y) (mB Y) (mL Y) (mR Y) ∈ wG) : GoodIn wG (wsY Y) := by
  intro w hw
  rcases List.mem_cons.mp hw with rfl | hw
  · exact ⟨h, good_of_word (List.mem_filter.mp h).2⟩
  · exact ⟨hw, good_of_word (List.mem_filter.mp hw).2⟩
def rmD (d mc ms : Nat) : Room := { frames := d, cells := mc, slots := ms, locals := 60 * d }
def nestM : List (String × Nat × MethodName) := [(RX9, 18, yX7_init), (RX4, 11, yX6_init), (RX9, 34, yX6_init), (RX0, 19, yX6_init), (RX3, 11, yX6_init), (RX8, 17, yX6_init), (RX9, 70, yX2_init), (RX4, 75, yX9_within), (RX6, 87, yX9_ring), (RX6, 57, yX9_turned), (RX8, 70, yX9_turned)]
def va_AOI (U : State) : Prop := (Cond.arrayOver (.array .int)).before #[] U = true
def zC : Nat → String | 0 => RX9 | _ => RX1
def zN : Nat → String | 0 => "NEAREST" | 1 => "SIZES" | _ => "MARKS"
def zV : Nat → Nat → Int | 0, j => ([-1, 0, 1, 1, 0, 4] : List Int).getD j 0 | 1, j => ([10, 11, 12, 0, 13, 14] : List Int).getD j 0 | _, j => ([20, 21, 24, 22, 23, 0] : List Int).getD j 0
def K0 (E : EV) (s : State) : Prop := va_K (eD E) vwCl (tyL E) s ∧ (∀ q ∈ nestM, va_Nw (.methodLinkNest q.1 q.2.1 q.2.2 RX9) s) ∧ va_Nw (.fieldLinkNest RX1 45 RX9 "NEAREST" "[I" RX9) s ∧ va_AO RX6 s ∧ va_AOI s
theorem va_AOI.moved {u U : State} (hvm : u.vm.Alike U.vm) (h : va_AOI u) : va_AOI U := (Cond.arrayOver_setVmC (args := #[]) hvm (.array .int)).trans h
def Z0 (E : EV) (s : State) (H : Heap) : Prop := ∀ z, z < 3 → va_Z (zC z) (zN z) "[I" (.ref (eZ E z)) (eA E) s H ∧ va_T .int (eZ E z) 6 (fun j => .int (i32 (zV z j))) (eA E) s H
def X0 (E : EV) (s : State) (H : Heap) : Prop := va_X (eZ E 3) (eL E) (eX E) s H ∧ ¬ eA E (eZ E 3)
def K1 (E : EV) (s : State) : Prop := K0 E s ∧ Z0 E s s.heap ∧ X0 E s s.heap
theorem K1.to {E : EV} {s U : State} {H : Heap} {locs : List Loc} (h : K1 E s) (hS : va_S (eA E) s.heap H locs) (hU : U.heap = H) (hW : s.WarmedH U.vm) : K1 E U := by
  obtain ⟨⟨h1, h2, h3, h5, h6⟩, h4, h7, h8⟩ := h
  have h9 : eZ E 3 < s.heap.size := by
    obtain ⟨cell, q, -⟩ := h7
    exact (Array.getElem?_eq_some_iff.mp q).1
  refine ⟨⟨va_K.moved hW.alike h1, fun q hq => va_Nw.warmM hW (h2 q hq), va_Nw.warmF hW h3, va_AO.moved hW.alike h5, va_AOI.moved hW.alike h6⟩, fun z hz => ?_, (va_X.moved hW.alike h7).kept (by rw [hU]; exact hS.2.1 _ h9 h8), h8⟩
  obtain ⟨a, b⟩ := h4 z hz
  have hk : ∀ a : Nat, a < s.heap.size → ¬ eA E a → U.heap[a]? = s.heap[a]? := fun a q1 q2 => by rw [hU]; exact hS.2.1 a q1 q2
  exact ⟨(va_Z.moved hW.alike a).kept hk, (va_T.moved hW.alike b).kept hk⟩
theorem K1.call {E : EV} {U : State} {g : JFrame} {mk : MethodId} {a : Array Value} (h : K1 E U) : K1 E (U.calling g mk a) := by
  obtain ⟨⟨h1, h2, h3, h5, h6⟩, h4, h7, h8⟩ := h
  have hv : U.vm.Alike (U.calling g mk a).vm := Vm.Alike.refl U.vm
  refine ⟨⟨va_K.moved hv h1, fun q hq => va_Nw.same rfl rfl (h2 q hq), va_Nw.same rfl rfl h3, va_AO.moved hv h5, va_AOI.moved hv h6⟩, fun z hz => ?_, va_X.moved hv h7, h8⟩
  obtain ⟨x, y⟩ := h4 z hz
  exact ⟨va_Z.moved hv x, va_T.moved hv y⟩
abbrev PP : Type := Option AV → Nat → GG → MM → Prop
def PcE (E : EV) (av : List AV) (n : Nat) (G : GG) (M : MM) : Array Value → State → Prop := va_Pc (av.map (cvv E)) (fun U => K1 E U ∧ HP E n G M U.heap)
/-- a number that is answered is such as an int, a long, can be -/
def RV (r : Option AV) : Prop := (∀ z : Int, r = some (vi z) → R32 z) ∧ ∀ z : Int, r = some (vl z) → R64 z
def QcE (E : EV) (Q : PP) : Array Value → State → Outcome → State → Prop := fun _ st oc t => (∃ (r : Option AV) (n : Nat) (G : GG) (M : MM), oc = .returned (r.map (cvv E)) ∧ Q r n G M ∧ RV r ∧ HP E n G M t.heap) ∧ va_F (eA E) st t
theorem PcE_blind (E : EV) (av : List AV) (n : Nat) (G : GG) (M : MM) : FrameBlind (PcE E av n G M) := by
  intro a U g mk h
  obtain ⟨h0, h1, h2⟩ := h
  exact ⟨h0, h1.call, h2⟩
/-- a method's contract: with these arguments, in this memory, it returns, and what it returns and leaves meets Q; d frames below it at most, mc new cells of ms slots -/
def Ct (E : EV) (Y : MD) (d mc ms : Nat) (av : List AV) (n : Nat) (G : GG) (M : MM) (Q : PP) : Prop := ∀ l : Launch, Met l (mY Y) (wsY Y) (rmD d mc ms) (PcE E av n G M) (QcE E Q) mc ms (eA E)
def CX (X : MD) (p : Program) (s : State) (m : MethodId) (args : Array Value) (meth : Method) (c : Code) : Prop :=
  p.tables.exec = Jvm.exec ∧ c.code = mB X ∧ meth.sig.returnType = mR X ∧ c.maxLocals = mL X ∧ s.vm.findClass (RR (mO X)) = some m.cls ∧ (∀ w ∈ wG, w.before args s = true) ∧ meth.locks = false ∧ meth.name = (mY X).name
/-- frames, cells and slots: what the method may take, what it has taken -/
abbrev KK : Type := Nat × Nat × Nat × Nat × Nat
def Wp (E : EV) (X : MD) (k : KK) (pc : Nat) (ls : LV) (st : List AV) (n : Nat) (G : GG) (M : MM) (Q : PP) : Prop :=
  ∀ (p : Program) (l : Launch) (e : Env) (s : State) (m : MethodId) (args : Array Value) (below : List Frame) (meth : Method) (c : Code) (H : Heap) (locs : List Loc) (lsA : Array Slot),
    CX X p s m args meth c → K1 E s → va_S (eA E) s.heap H locs → HP E n G M H → LH E lsA (mL X) ls → eB E ≤ s.heap.size →
    W p l e (rmD k.1 k.2.1 k.2.2.1) s m args below meth c H locs k.2.2.2.1 k.2.2.2.2 (MQ below (QcE E Q) args s k.2.1 k.2.2.1 (eA E)) (F0 m pc lsA (st.map (cvv E)))
theorem Ct.of {E : EV} {X : MD} {d mc ms : Nat} {av : List AV} {n : Nat} {G : GG} {M : MM} {Q : PP} (ls : LV) (hy : plainName (mY X).cls = true) (hc : (mY X).cls = RR (mO X)) (hls : entL av ++ List.replicate (mL X - (entL av).length) none = ls) (hle : (entL av).length ≤ mL X)
    (h : Wp E X (d, mc, ms, 0, 0) 0 ls [] n G M Q) : Ct E X d mc ms av n G M Q := by
  intro l
  refine Met.ofW (cc := mB X) (maxL := mL X) (ret := mR X) hy rfl ?_
  intro p e s m args below meth c s₁ B hml hv
  obtain ⟨rfl, hK, hP⟩ := hv
  have hx := B.exec
  have hb := B.bytes
  have hr := B.returns
  have hts := atoms_spec (ws := wsY X) B.pre
  have hown : s.vm.findClass (RR (mO X)) = some m.cls := by rw [← hc]; exact findClass_of_methodNamed B.named
  have hlocks := B.notSynchronized
  have hin : meth.name = (mY X).name := (name_of_methodNamed B.named B.method).1
  have hl := lv_entry (av.map (cvv E)) (n := mL X) (by rw [entL_len]; exact hle)
  rw [lg_entry_eq]
  generalize (lg_sl (av.map (cvv E)) ++ List.replicate (mL X - (lg_sl (av.map (cvv E))).length) Slot.unset).toArray = lsA at hl ⊢
  have hL : LH E lsA (mL X) ls := by
    rw [← hls]
    refine LH.pad ?_ _
    exact LH.of hl (fun i v hv => by have := entL_args E av 0 i v hv; rwa [Nat.zero_add] at this)
  exact h p l e s m _ below meth c s.heap [] lsA ⟨hx, hb, hr, hml, hown, fun w hw => hts w (List.mem_cons_of_mem _ hw), hlocks, hin⟩ hK va_S.rf hP hL (Nat.le_trans (Nat.le_add_right _ _) hP.1.1)
theorem Ct.mono {E : EV} {X : MD} {d mc ms : Nat} {av : List AV} {n : Nat} {G : GG} {M : MM} {Q Q' : PP} (h : Ct E X d mc ms av n G M Q) (hq : ∀ r n G M, Q r n G M → Q' r n G M) : Ct E X d mc ms av n G M Q' := by
  intro l p e ha hc hk s m args below hf hs hP ht
  obtain ⟨t, o, h1, h2, h3, ⟨⟨⟨r, n', G', M', e1, e2, e3⟩, hF⟩, hL⟩⟩ := h l p e ha hc hk s m args below hf hs hP ht
  exact ⟨t, o, h1, h2, h3, ⟨⟨r, n', G', M', e1, hq _ _ _ _ e2, e3⟩, hF⟩, hL⟩
theorem Wp.mono {E : EV} {X : MD} {k : KK} {pc : Nat} {ls : LV} {st : List AV} {n : Nat} {G : GG} {M : MM} {Q Q' : PP} (h : Wp E X k pc ls st n G M Q) (hq : ∀ r n G M, Q r n G M → Q' r n G M) : Wp E X k pc ls st n G M Q' := by
  intro p l e s m args below meth c H locs lsA c1 c2 c3 c4 c5 c6 T hT X
  obtain ⟨t, a1, o, b1, b2, ⟨⟨r, n', G', M', e1, e2, e3⟩, hF⟩, hL⟩ := h p l e s m args below meth c H locs lsA c1 c2 c3 c4 c5 c6 T hT X
  exact ⟨t, a1, o, b1, b2, ⟨⟨r, n', G', M', e1, hq _ _ _ _ e2, e3⟩, hF⟩, hL⟩
/-- the locals said otherwise, or fewer of them -/
theorem Wp.loc {E : EV} {X : MD} {k : KK} {pc : Nat} {ls ls' : LV} {st : List AV} {n : Nat} {G : GG} {M : MM} {Q : PP} (h : Wp E X k pc ls' st n G M Q) (hs : ∀ (i : Nat) (v : AV), ls'[i]? = some (some v) → ls[i]? = some (some v)) : Wp E X k pc ls st n G M Q :=
  fun p l e s m args below meth c H locs lsA c1 c2 c3 c4 c5 c6 => h p l e s m args below meth c H locs lsA c1 c2 c3 c4 (c5.drop hs) c6
theorem Wp.mem {E : EV} {X : MD} {k : KK} {pc : Nat} {ls : LV} {st : List AV} {n : Nat} {G G' : GG} {M M' : MM} {Q : PP} (h : Wp E X k pc ls st n G' M' Q) (hc : ∀ i, i < n → cel E G' M' i = cel E G M i) (hR : RG n G M → RG n G' M') : Wp E X k pc ls st n G M Q :=
  fun p l e s m args below meth c H locs lsA c1 c2 c3 c4 c5 c6 => h p l e s m args below meth c H locs lsA c1 c2 c3 (c4.congr hc (hR c4.2.2)) c5 c6
end
