-- ===== PART A: goes FIRST, ahead of the names: the tables' words, and 'selects' of the private methods out of them =====
/-- a private method of a class that the tables say can be made, by its rows of tables_1 -/
def lw_okq (q : MethodName × Nat) : Prop := (q.1.cls ≠ "java/lang/invoke/MethodHandle" ∧ q.1.cls ≠ "java/lang/invoke/VarHandle") ∧ Cond.instantiable q.1.cls q.2 ∈ tables_1 ∧ Cond.privateMethod q.1 ∈ tables_1 ∧ Cond.instanceMethod q.1 ∈ tables_1
theorem lw_p0 : lw_okq (⟨"PocketHole", "finding", "(I)I"⟩, 9) := ⟨⟨by decide +kernel, by decide +kernel⟩, List.mem_of_getElem? (i := 16) (by decide +kernel), List.mem_of_getElem? (i := 194) (by decide +kernel), List.mem_of_getElem? (i := 195) (by decide +kernel)⟩
theorem lw_p1 : lw_okq (⟨"PocketHole", "isTooFar", "(I)Z"⟩, 9) := ⟨⟨by decide +kernel, by decide +kernel⟩, List.mem_of_getElem? (i := 16) (by decide +kernel), List.mem_of_getElem? (i := 287) (by decide +kernel), List.mem_of_getElem? (i := 288) (by decide +kernel)⟩
theorem lw_p2 : lw_okq (⟨"PocketHole$Coat", "stirOne", "(LPocketHole$Coin;)Z"⟩, 8) := ⟨⟨by decide +kernel, by decide +kernel⟩, List.mem_of_getElem? (i := 24) (by decide +kernel), List.mem_of_getElem? (i := 299) (by decide +kernel), List.mem_of_getElem? (i := 300) (by decide +kernel)⟩
theorem lw_p3 : lw_okq (⟨"PocketHole$Coat", "goLining", "(II)V"⟩, 8) := ⟨⟨by decide +kernel, by decide +kernel⟩, List.mem_of_getElem? (i := 24) (by decide +kernel), List.mem_of_getElem? (i := 309) (by decide +kernel), List.mem_of_getElem? (i := 310) (by decide +kernel)⟩
theorem lw_p4 : lw_okq (⟨"PocketHole", "goneInTrial", "()I"⟩, 9) := ⟨⟨by decide +kernel, by decide +kernel⟩, List.mem_of_getElem? (i := 16) (by decide +kernel), List.mem_of_getElem? (i := 354) (by decide +kernel), List.mem_of_getElem? (i := 355) (by decide +kernel)⟩
theorem lw_p5 : lw_okq (⟨"PocketHole", "lostInTrial", "()I"⟩, 9) := ⟨⟨by decide +kernel, by decide +kernel⟩, List.mem_of_getElem? (i := 16) (by decide +kernel), List.mem_of_getElem? (i := 358) (by decide +kernel), List.mem_of_getElem? (i := 359) (by decide +kernel)⟩
theorem lw_p6 : lw_okq (⟨"PocketHole", "stayInTrial", "(I)I"⟩, 9) := ⟨⟨by decide +kernel, by decide +kernel⟩, List.mem_of_getElem? (i := 16) (by decide +kernel), List.mem_of_getElem? (i := 366) (by decide +kernel), List.mem_of_getElem? (i := 367) (by decide +kernel)⟩
theorem lw_p7 : lw_okq (⟨"PocketHole", "goneWithHole", "(II)I"⟩, 9) := ⟨⟨by decide +kernel, by decide +kernel⟩, List.mem_of_getElem? (i := 16) (by decide +kernel), List.mem_of_getElem? (i := 390) (by decide +kernel), List.mem_of_getElem? (i := 391) (by decide +kernel)⟩
theorem lw_p8 : lw_okq (⟨"PocketHole", "lostBehind", "(I)I"⟩, 9) := ⟨⟨by decide +kernel, by decide +kernel⟩, List.mem_of_getElem? (i := 16) (by decide +kernel), List.mem_of_getElem? (i := 398) (by decide +kernel), List.mem_of_getElem? (i := 399) (by decide +kernel)⟩
theorem lw_p9 : lw_okq (⟨"PocketHole", "richestStaying", "(I)I"⟩, 9) := ⟨⟨by decide +kernel, by decide +kernel⟩, List.mem_of_getElem? (i := 16) (by decide +kernel), List.mem_of_getElem? (i := 407) (by decide +kernel), List.mem_of_getElem? (i := 408) (by decide +kernel)⟩
theorem lw_p10 : lw_okq (⟨"PocketHole", "stays", "(III)Z"⟩, 9) := ⟨⟨by decide +kernel, by decide +kernel⟩, List.mem_of_getElem? (i := 16) (by decide +kernel), List.mem_of_getElem? (i := 415) (by decide +kernel), List.mem_of_getElem? (i := 416) (by decide +kernel)⟩
theorem lw_p11 : lw_okq (⟨"PocketHole", "markSumsWith", "(I)V"⟩, 9) := ⟨⟨by decide +kernel, by decide +kernel⟩, List.mem_of_getElem? (i := 16) (by decide +kernel), List.mem_of_getElem? (i := 460) (by decide +kernel), List.mem_of_getElem? (i := 461) (by decide +kernel)⟩
theorem lw_p12 : lw_okq (⟨"PocketHole$Tape", "toNextToken", "()V"⟩, 6) := ⟨⟨by decide +kernel, by decide +kernel⟩, List.mem_of_getElem? (i := 112) (by decide +kernel), List.mem_of_getElem? (i := 542) (by decide +kernel), List.mem_of_getElem? (i := 543) (by decide +kernel)⟩
theorem lw_p13 : lw_okq (⟨"PocketHole$Tape", "takesWord", "(Ljava/lang/String;)Z"⟩, 6) := ⟨⟨by decide +kernel, by decide +kernel⟩, List.mem_of_getElem? (i := 112) (by decide +kernel), List.mem_of_getElem? (i := 554) (by decide +kernel), List.mem_of_getElem? (i := 555) (by decide +kernel)⟩
theorem lw_p14 : lw_okq (⟨"PocketHole$Tape", "isWord", "(Ljava/lang/String;)Z"⟩, 6) := ⟨⟨by decide +kernel, by decide +kernel⟩, List.mem_of_getElem? (i := 112) (by decide +kernel), List.mem_of_getElem? (i := 558) (by decide +kernel), List.mem_of_getElem? (i := 559) (by decide +kernel)⟩
theorem lw_p15 : lw_okq (⟨"PocketHole$Tape", "readsHole", "(LPocketHole$Coat;)Z"⟩, 6) := ⟨⟨by decide +kernel, by decide +kernel⟩, List.mem_of_getElem? (i := 112) (by decide +kernel), List.mem_of_getElem? (i := 610) (by decide +kernel), List.mem_of_getElem? (i := 611) (by decide +kernel)⟩
def lw_privs_1 : List (MethodName × Nat) := [(⟨"PocketHole", "finding", "(I)I"⟩, 9), (⟨"PocketHole", "isTooFar", "(I)Z"⟩, 9), (⟨"PocketHole$Coat", "stirOne", "(LPocketHole$Coin;)Z"⟩, 8), (⟨"PocketHole$Coat", "goLining", "(II)V"⟩, 8), (⟨"PocketHole", "goneInTrial", "()I"⟩, 9), (⟨"PocketHole", "lostInTrial", "()I"⟩, 9), (⟨"PocketHole", "stayInTrial", "(I)I"⟩, 9), (⟨"PocketHole", "goneWithHole", "(II)I"⟩, 9), (⟨"PocketHole", "lostBehind", "(I)I"⟩, 9), (⟨"PocketHole", "richestStaying", "(I)I"⟩, 9), (⟨"PocketHole", "stays", "(III)Z"⟩, 9), (⟨"PocketHole", "markSumsWith", "(I)V"⟩, 9), (⟨"PocketHole$Tape", "toNextToken", "()V"⟩, 6), (⟨"PocketHole$Tape", "takesWord", "(Ljava/lang/String;)Z"⟩, 6), (⟨"PocketHole$Tape", "isWord", "(Ljava/lang/String;)Z"⟩, 6), (⟨"PocketHole$Tape", "readsHole", "(LPocketHole$Coat;)Z"⟩, 6)]
theorem lw_r1 : ∀ q ∈ lw_privs_1, lw_okq q := List.forall_mem_cons.mpr ⟨lw_p0, List.forall_mem_cons.mpr ⟨lw_p1, List.forall_mem_cons.mpr ⟨lw_p2, List.forall_mem_cons.mpr ⟨lw_p3, List.forall_mem_cons.mpr ⟨lw_p4, List.forall_mem_cons.mpr ⟨lw_p5, List.forall_mem_cons.mpr ⟨lw_p6, List.forall_mem_cons.mpr ⟨lw_p7, List.forall_mem_cons.mpr ⟨lw_p8, List.forall_mem_cons.mpr ⟨lw_p9, List.forall_mem_cons.mpr ⟨lw_p10, List.forall_mem_cons.mpr ⟨lw_p11, List.forall_mem_cons.mpr ⟨lw_p12, List.forall_mem_cons.mpr ⟨lw_p13, List.forall_mem_cons.mpr ⟨lw_p14, List.forall_mem_cons.mpr ⟨lw_p15, fun _ h => absurd h List.not_mem_nil⟩⟩⟩⟩⟩⟩⟩⟩⟩⟩⟩⟩⟩⟩⟩⟩
theorem lw_p16 : lw_okq (⟨"PocketHole$Tape", "takenNumber", "(II)I"⟩, 6) := ⟨⟨by decide +kernel, by decide +kernel⟩, List.mem_of_getElem? (i := 112) (by decide +kernel), List.mem_of_getElem? (i := 614) (by decide +kernel), List.mem_of_getElem? (i := 615) (by decide +kernel)⟩
theorem lw_p17 : lw_okq (⟨"PocketHole$Tape", "readsGap", "(LPocketHole$Coat;)Z"⟩, 6) := ⟨⟨by decide +kernel, by decide +kernel⟩, List.mem_of_getElem? (i := 112) (by decide +kernel), List.mem_of_getElem? (i := 620) (by decide +kernel), List.mem_of_getElem? (i := 621) (by decide +kernel)⟩
theorem lw_p18 : lw_okq (⟨"PocketHole$Tape", "readsCoin", "(LPocketHole$Coat;)Z"⟩, 6) := ⟨⟨by decide +kernel, by decide +kernel⟩, List.mem_of_getElem? (i := 112) (by decide +kernel), List.mem_of_getElem? (i := 625) (by decide +kernel), List.mem_of_getElem? (i := 626) (by decide +kernel)⟩
theorem lw_p19 : lw_okq (⟨"PocketHole$Tape", "kindTold", "()I"⟩, 6) := ⟨⟨by decide +kernel, by decide +kernel⟩, List.mem_of_getElem? (i := 112) (by decide +kernel), List.mem_of_getElem? (i := 629) (by decide +kernel), List.mem_of_getElem? (i := 630) (by decide +kernel)⟩
theorem lw_p20 : lw_okq (⟨"PocketHole$Tape", "readsPart", "(LPocketHole$Coin;Ljava/lang/String;III)Z"⟩, 6) := ⟨⟨by decide +kernel, by decide +kernel⟩, List.mem_of_getElem? (i := 112) (by decide +kernel), List.mem_of_getElem? (i := 645) (by decide +kernel), List.mem_of_getElem? (i := 646) (by decide +kernel)⟩
theorem lw_p21 : lw_okq (⟨"PocketHoleModel", "finding", "(I)I"⟩, 27) := ⟨⟨by decide +kernel, by decide +kernel⟩, List.mem_of_getElem? (i := 731) (by decide +kernel), List.mem_of_getElem? (i := 840) (by decide +kernel), List.mem_of_getElem? (i := 841) (by decide +kernel)⟩
theorem lw_p22 : lw_okq (⟨"PocketHoleModel", "comes", "(IIIII)I"⟩, 27) := ⟨⟨by decide +kernel, by decide +kernel⟩, List.mem_of_getElem? (i := 731) (by decide +kernel), List.mem_of_getElem? (i := 845) (by decide +kernel), List.mem_of_getElem? (i := 846) (by decide +kernel)⟩
theorem lw_p23 : lw_okq (⟨"PocketHoleModel", "goesTo", "(II)I"⟩, 27) := ⟨⟨by decide +kernel, by decide +kernel⟩, List.mem_of_getElem? (i := 731) (by decide +kernel), List.mem_of_getElem? (i := 852) (by decide +kernel), List.mem_of_getElem? (i := 853) (by decide +kernel)⟩
theorem lw_p24 : lw_okq (⟨"PocketHoleModel", "become", "(II)I"⟩, 27) := ⟨⟨by decide +kernel, by decide +kernel⟩, List.mem_of_getElem? (i := 731) (by decide +kernel), List.mem_of_getElem? (i := 856) (by decide +kernel), List.mem_of_getElem? (i := 857) (by decide +kernel)⟩
theorem lw_p25 : lw_okq (⟨"PocketHoleModel", "isCoin", "(I)Z"⟩, 27) := ⟨⟨by decide +kernel, by decide +kernel⟩, List.mem_of_getElem? (i := 731) (by decide +kernel), List.mem_of_getElem? (i := 864) (by decide +kernel), List.mem_of_getElem? (i := 865) (by decide +kernel)⟩
theorem lw_p26 : lw_okq (⟨"PocketHoleModel", "thick", "(I)I"⟩, 27) := ⟨⟨by decide +kernel, by decide +kernel⟩, List.mem_of_getElem? (i := 731) (by decide +kernel), List.mem_of_getElem? (i := 868) (by decide +kernel), List.mem_of_getElem? (i := 869) (by decide +kernel)⟩
theorem lw_p27 : lw_okq (⟨"PocketHoleModel", "coinIs", "(II)I"⟩, 27) := ⟨⟨by decide +kernel, by decide +kernel⟩, List.mem_of_getElem? (i := 731) (by decide +kernel), List.mem_of_getElem? (i := 872) (by decide +kernel), List.mem_of_getElem? (i := 873) (by decide +kernel)⟩
theorem lw_p28 : lw_okq (⟨"PocketHoleModel", "goes", "(I)I"⟩, 27) := ⟨⟨by decide +kernel, by decide +kernel⟩, List.mem_of_getElem? (i := 731) (by decide +kernel), List.mem_of_getElem? (i := 883) (by decide +kernel), List.mem_of_getElem? (i := 884) (by decide +kernel)⟩
theorem lw_p29 : lw_okq (⟨"PocketHoleModel", "wears", "(I)I"⟩, 27) := ⟨⟨by decide +kernel, by decide +kernel⟩, List.mem_of_getElem? (i := 731) (by decide +kernel), List.mem_of_getElem? (i := 887) (by decide +kernel), List.mem_of_getElem? (i := 888) (by decide +kernel)⟩
theorem lw_p30 : lw_okq (⟨"PocketHoleModel", "lieIn", "(I)I"⟩, 27) := ⟨⟨by decide +kernel, by decide +kernel⟩, List.mem_of_getElem? (i := 731) (by decide +kernel), List.mem_of_getElem? (i := 914) (by decide +kernel), List.mem_of_getElem? (i := 915) (by decide +kernel)⟩
theorem lw_p31 : lw_okq (⟨"PocketHoleModel", "isIn", "(II)Z"⟩, 27) := ⟨⟨by decide +kernel, by decide +kernel⟩, List.mem_of_getElem? (i := 731) (by decide +kernel), List.mem_of_getElem? (i := 918) (by decide +kernel), List.mem_of_getElem? (i := 919) (by decide +kernel)⟩
def lw_privs_2 : List (MethodName × Nat) := [(⟨"PocketHole$Tape", "takenNumber", "(II)I"⟩, 6), (⟨"PocketHole$Tape", "readsGap", "(LPocketHole$Coat;)Z"⟩, 6), (⟨"PocketHole$Tape", "readsCoin", "(LPocketHole$Coat;)Z"⟩, 6), (⟨"PocketHole$Tape", "kindTold", "()I"⟩, 6), (⟨"PocketHole$Tape", "readsPart", "(LPocketHole$Coin;Ljava/lang/String;III)Z"⟩, 6), (⟨"PocketHoleModel", "finding", "(I)I"⟩, 27), (⟨"PocketHoleModel", "comes", "(IIIII)I"⟩, 27), (⟨"PocketHoleModel", "goesTo", "(II)I"⟩, 27), (⟨"PocketHoleModel", "become", "(II)I"⟩, 27), (⟨"PocketHoleModel", "isCoin", "(I)Z"⟩, 27), (⟨"PocketHoleModel", "thick", "(I)I"⟩, 27), (⟨"PocketHoleModel", "coinIs", "(II)I"⟩, 27), (⟨"PocketHoleModel", "goes", "(I)I"⟩, 27), (⟨"PocketHoleModel", "wears", "(I)I"⟩, 27), (⟨"PocketHoleModel", "lieIn", "(I)I"⟩, 27), (⟨"PocketHoleModel", "isIn", "(II)Z"⟩, 27)]
theorem lw_r2 : ∀ q ∈ lw_privs_2, lw_okq q := List.forall_mem_cons.mpr ⟨lw_p16, List.forall_mem_cons.mpr ⟨lw_p17, List.forall_mem_cons.mpr ⟨lw_p18, List.forall_mem_cons.mpr ⟨lw_p19, List.forall_mem_cons.mpr ⟨lw_p20, List.forall_mem_cons.mpr ⟨lw_p21, List.forall_mem_cons.mpr ⟨lw_p22, List.forall_mem_cons.mpr ⟨lw_p23, List.forall_mem_cons.mpr ⟨lw_p24, List.forall_mem_cons.mpr ⟨lw_p25, List.forall_mem_cons.mpr ⟨lw_p26, List.forall_mem_cons.mpr ⟨lw_p27, List.forall_mem_cons.mpr ⟨lw_p28, List.forall_mem_cons.mpr ⟨lw_p29, List.forall_mem_cons.mpr ⟨lw_p30, List.forall_mem_cons.mpr ⟨lw_p31, fun _ h => absurd h List.not_mem_nil⟩⟩⟩⟩⟩⟩⟩⟩⟩⟩⟩⟩⟩⟩⟩⟩
theorem lw_p32 : lw_okq (⟨"PocketHoleModel", "sumOf", "(II)I"⟩, 27) := ⟨⟨by decide +kernel, by decide +kernel⟩, List.mem_of_getElem? (i := 731) (by decide +kernel), List.mem_of_getElem? (i := 926) (by decide +kernel), List.mem_of_getElem? (i := 927) (by decide +kernel)⟩
theorem lw_p33 : lw_okq (⟨"PocketHoleModel", "isTooLate", "(I)Z"⟩, 27) := ⟨⟨by decide +kernel, by decide +kernel⟩, List.mem_of_getElem? (i := 731) (by decide +kernel), List.mem_of_getElem? (i := 937) (by decide +kernel), List.mem_of_getElem? (i := 938) (by decide +kernel)⟩
theorem lw_p34 : lw_okq (⟨"PocketHoleModel", "stepsGo", "(I)I"⟩, 27) := ⟨⟨by decide +kernel, by decide +kernel⟩, List.mem_of_getElem? (i := 731) (by decide +kernel), List.mem_of_getElem? (i := 942) (by decide +kernel), List.mem_of_getElem? (i := 943) (by decide +kernel)⟩
theorem lw_p35 : lw_okq (⟨"PocketHoleModel", "inPocket", "(I)V"⟩, 27) := ⟨⟨by decide +kernel, by decide +kernel⟩, List.mem_of_getElem? (i := 731) (by decide +kernel), List.mem_of_getElem? (i := 949) (by decide +kernel), List.mem_of_getElem? (i := 950) (by decide +kernel)⟩
theorem lw_p36 : lw_okq (⟨"PocketHoleModel", "wider", "(I)V"⟩, 27) := ⟨⟨by decide +kernel, by decide +kernel⟩, List.mem_of_getElem? (i := 731) (by decide +kernel), List.mem_of_getElem? (i := 954) (by decide +kernel), List.mem_of_getElem? (i := 955) (by decide +kernel)⟩
theorem lw_p37 : lw_okq (⟨"PocketHoleModel", "inLining", "(I)V"⟩, 27) := ⟨⟨by decide +kernel, by decide +kernel⟩, List.mem_of_getElem? (i := 731) (by decide +kernel), List.mem_of_getElem? (i := 958) (by decide +kernel), List.mem_of_getElem? (i := 959) (by decide +kernel)⟩
theorem lw_p38 : lw_okq (⟨"PocketHoleModel", "hasCompany", "(I)Z"⟩, 27) := ⟨⟨by decide +kernel, by decide +kernel⟩, List.mem_of_getElem? (i := 731) (by decide +kernel), List.mem_of_getElem? (i := 962) (by decide +kernel), List.mem_of_getElem? (i := 963) (by decide +kernel)⟩
theorem lw_p39 : lw_okq (⟨"PocketHoleModel", "clinks", "()I"⟩, 27) := ⟨⟨by decide +kernel, by decide +kernel⟩, List.mem_of_getElem? (i := 731) (by decide +kernel), List.mem_of_getElem? (i := 970) (by decide +kernel), List.mem_of_getElem? (i := 971) (by decide +kernel)⟩
theorem lw_p40 : lw_okq (⟨"PocketHoleModel", "putBack", "(I)I"⟩, 27) := ⟨⟨by decide +kernel, by decide +kernel⟩, List.mem_of_getElem? (i := 731) (by decide +kernel), List.mem_of_getElem? (i := 981) (by decide +kernel), List.mem_of_getElem? (i := 982) (by decide +kernel)⟩
theorem lw_p41 : lw_okq (⟨"PocketHoleModel", "tillTold", "(IZ)I"⟩, 27) := ⟨⟨by decide +kernel, by decide +kernel⟩, List.mem_of_getElem? (i := 731) (by decide +kernel), List.mem_of_getElem? (i := 989) (by decide +kernel), List.mem_of_getElem? (i := 990) (by decide +kernel)⟩
theorem lw_p42 : lw_okq (⟨"PocketHoleModel", "isLate", "()Z"⟩, 27) := ⟨⟨by decide +kernel, by decide +kernel⟩, List.mem_of_getElem? (i := 731) (by decide +kernel), List.mem_of_getElem? (i := 993) (by decide +kernel), List.mem_of_getElem? (i := 994) (by decide +kernel)⟩
theorem lw_p43 : lw_okq (⟨"PocketHoleModel", "till", "(IZ)I"⟩, 27) := ⟨⟨by decide +kernel, by decide +kernel⟩, List.mem_of_getElem? (i := 731) (by decide +kernel), List.mem_of_getElem? (i := 997) (by decide +kernel), List.mem_of_getElem? (i := 998) (by decide +kernel)⟩
theorem lw_p44 : lw_okq (⟨"PocketHoleModel", "refuses", "(ZII)I"⟩, 27) := ⟨⟨by decide +kernel, by decide +kernel⟩, List.mem_of_getElem? (i := 731) (by decide +kernel), List.mem_of_getElem? (i := 1022) (by decide +kernel), List.mem_of_getElem? (i := 1023) (by decide +kernel)⟩
theorem lw_p45 : lw_okq (⟨"PocketHoleModel", "lostThen", "(II)I"⟩, 27) := ⟨⟨by decide +kernel, by decide +kernel⟩, List.mem_of_getElem? (i := 731) (by decide +kernel), List.mem_of_getElem? (i := 1026) (by decide +kernel), List.mem_of_getElem? (i := 1027) (by decide +kernel)⟩
theorem lw_p46 : lw_okq (⟨"PocketHoleModel", "findCarry", "(I)V"⟩, 27) := ⟨⟨by decide +kernel, by decide +kernel⟩, List.mem_of_getElem? (i := 731) (by decide +kernel), List.mem_of_getElem? (i := 1034) (by decide +kernel), List.mem_of_getElem? (i := 1035) (by decide +kernel)⟩
theorem lw_p47 : lw_okq (⟨"PocketHoleModel", "payWith", "(IIZ)I"⟩, 27) := ⟨⟨by decide +kernel, by decide +kernel⟩, List.mem_of_getElem? (i := 731) (by decide +kernel), List.mem_of_getElem? (i := 1058) (by decide +kernel), List.mem_of_getElem? (i := 1059) (by decide +kernel)⟩
def lw_privs_3 : List (MethodName × Nat) := [(⟨"PocketHoleModel", "sumOf", "(II)I"⟩, 27), (⟨"PocketHoleModel", "isTooLate", "(I)Z"⟩, 27), (⟨"PocketHoleModel", "stepsGo", "(I)I"⟩, 27), (⟨"PocketHoleModel", "inPocket", "(I)V"⟩, 27), (⟨"PocketHoleModel", "wider", "(I)V"⟩, 27), (⟨"PocketHoleModel", "inLining", "(I)V"⟩, 27), (⟨"PocketHoleModel", "hasCompany", "(I)Z"⟩, 27), (⟨"PocketHoleModel", "clinks", "()I"⟩, 27), (⟨"PocketHoleModel", "putBack", "(I)I"⟩, 27), (⟨"PocketHoleModel", "tillTold", "(IZ)I"⟩, 27), (⟨"PocketHoleModel", "isLate", "()Z"⟩, 27), (⟨"PocketHoleModel", "till", "(IZ)I"⟩, 27), (⟨"PocketHoleModel", "refuses", "(ZII)I"⟩, 27), (⟨"PocketHoleModel", "lostThen", "(II)I"⟩, 27), (⟨"PocketHoleModel", "findCarry", "(I)V"⟩, 27), (⟨"PocketHoleModel", "payWith", "(IIZ)I"⟩, 27)]
theorem lw_r3 : ∀ q ∈ lw_privs_3, lw_okq q := List.forall_mem_cons.mpr ⟨lw_p32, List.forall_mem_cons.mpr ⟨lw_p33, List.forall_mem_cons.mpr ⟨lw_p34, List.forall_mem_cons.mpr ⟨lw_p35, List.forall_mem_cons.mpr ⟨lw_p36, List.forall_mem_cons.mpr ⟨lw_p37, List.forall_mem_cons.mpr ⟨lw_p38, List.forall_mem_cons.mpr ⟨lw_p39, List.forall_mem_cons.mpr ⟨lw_p40, List.forall_mem_cons.mpr ⟨lw_p41, List.forall_mem_cons.mpr ⟨lw_p42, List.forall_mem_cons.mpr ⟨lw_p43, List.forall_mem_cons.mpr ⟨lw_p44, List.forall_mem_cons.mpr ⟨lw_p45, List.forall_mem_cons.mpr ⟨lw_p46, List.forall_mem_cons.mpr ⟨lw_p47, fun _ h => absurd h List.not_mem_nil⟩⟩⟩⟩⟩⟩⟩⟩⟩⟩⟩⟩⟩⟩⟩⟩
theorem lw_p48 : lw_okq (⟨"PocketHoleModel", "thin", "()I"⟩, 27) := ⟨⟨by decide +kernel, by decide +kernel⟩, List.mem_of_getElem? (i := 731) (by decide +kernel), List.mem_of_getElem? (i := 1066) (by decide +kernel), List.mem_of_getElem? (i := 1067) (by decide +kernel)⟩
theorem lw_p49 : lw_okq (⟨"PocketHoleModel", "isSet", "(I)Z"⟩, 27) := ⟨⟨by decide +kernel, by decide +kernel⟩, List.mem_of_getElem? (i := 731) (by decide +kernel), List.mem_of_getElem? (i := 1074) (by decide +kernel), List.mem_of_getElem? (i := 1075) (by decide +kernel)⟩
theorem lw_p50 : lw_okq (⟨"PocketHoleModel", "holesFor", "(II)I"⟩, 27) := ⟨⟨by decide +kernel, by decide +kernel⟩, List.mem_of_getElem? (i := 731) (by decide +kernel), List.mem_of_getElem? (i := 1086) (by decide +kernel), List.mem_of_getElem? (i := 1087) (by decide +kernel)⟩
theorem lw_p51 : lw_okq (⟨"PocketHoleModel", "hasFallen", "(I)Z"⟩, 27) := ⟨⟨by decide +kernel, by decide +kernel⟩, List.mem_of_getElem? (i := 731) (by decide +kernel), List.mem_of_getElem? (i := 1110) (by decide +kernel), List.mem_of_getElem? (i := 1111) (by decide +kernel)⟩
theorem lw_p52 : lw_okq (⟨"PocketHoleModel", "backCell", "(II)I"⟩, 27) := ⟨⟨by decide +kernel, by decide +kernel⟩, List.mem_of_getElem? (i := 731) (by decide +kernel), List.mem_of_getElem? (i := 1114) (by decide +kernel), List.mem_of_getElem? (i := 1115) (by decide +kernel)⟩
theorem lw_p53 : lw_okq (⟨"PocketHoleModel", "drawn", "(I)I"⟩, 27) := ⟨⟨by decide +kernel, by decide +kernel⟩, List.mem_of_getElem? (i := 731) (by decide +kernel), List.mem_of_getElem? (i := 1126) (by decide +kernel), List.mem_of_getElem? (i := 1127) (by decide +kernel)⟩
theorem lw_p54 : lw_okq (⟨"PocketHoleModel", "next", "()V"⟩, 27) := ⟨⟨by decide +kernel, by decide +kernel⟩, List.mem_of_getElem? (i := 731) (by decide +kernel), List.mem_of_getElem? (i := 1147) (by decide +kernel), List.mem_of_getElem? (i := 1148) (by decide +kernel)⟩
theorem lw_p55 : lw_okq (⟨"PocketHoleModel", "byteAt", "(I)I"⟩, 27) := ⟨⟨by decide +kernel, by decide +kernel⟩, List.mem_of_getElem? (i := 731) (by decide +kernel), List.mem_of_getElem? (i := 1151) (by decide +kernel), List.mem_of_getElem? (i := 1152) (by decide +kernel)⟩
theorem lw_p56 : lw_okq (⟨"PocketHoleModel", "readItem", "()V"⟩, 27) := ⟨⟨by decide +kernel, by decide +kernel⟩, List.mem_of_getElem? (i := 731) (by decide +kernel), List.mem_of_getElem? (i := 1155) (by decide +kernel), List.mem_of_getElem? (i := 1156) (by decide +kernel)⟩
theorem lw_p57 : lw_okq (⟨"PocketHoleModel", "kindTold", "()I"⟩, 27) := ⟨⟨by decide +kernel, by decide +kernel⟩, List.mem_of_getElem? (i := 731) (by decide +kernel), List.mem_of_getElem? (i := 1159) (by decide +kernel), List.mem_of_getElem? (i := 1160) (by decide +kernel)⟩
theorem lw_p58 : lw_okq (⟨"PocketHoleModel", "isWord", "(Ljava/lang/String;)Z"⟩, 27) := ⟨⟨by decide +kernel, by decide +kernel⟩, List.mem_of_getElem? (i := 731) (by decide +kernel), List.mem_of_getElem? (i := 1163) (by decide +kernel), List.mem_of_getElem? (i := 1164) (by decide +kernel)⟩
theorem lw_p59 : lw_okq (⟨"PocketHoleModel", "must", "(Z)V"⟩, 27) := ⟨⟨by decide +kernel, by decide +kernel⟩, List.mem_of_getElem? (i := 731) (by decide +kernel), List.mem_of_getElem? (i := 1169) (by decide +kernel), List.mem_of_getElem? (i := 1170) (by decide +kernel)⟩
theorem lw_p60 : lw_okq (⟨"PocketHoleModel", "isNext", "(Ljava/lang/String;)Z"⟩, 27) := ⟨⟨by decide +kernel, by decide +kernel⟩, List.mem_of_getElem? (i := 731) (by decide +kernel), List.mem_of_getElem? (i := 1174) (by decide +kernel), List.mem_of_getElem? (i := 1175) (by decide +kernel)⟩
theorem lw_p61 : lw_okq (⟨"PocketHoleModel", "number", "(II)I"⟩, 27) := ⟨⟨by decide +kernel, by decide +kernel⟩, List.mem_of_getElem? (i := 731) (by decide +kernel), List.mem_of_getElem? (i := 1178) (by decide +kernel), List.mem_of_getElem? (i := 1179) (by decide +kernel)⟩
theorem lw_p62 : lw_okq (⟨"PocketHoleModel", "item", "(IIIII)V"⟩, 27) := ⟨⟨by decide +kernel, by decide +kernel⟩, List.mem_of_getElem? (i := 731) (by decide +kernel), List.mem_of_getElem? (i := 1185) (by decide +kernel), List.mem_of_getElem? (i := 1186) (by decide +kernel)⟩
theorem lw_p63 : lw_okq (⟨"PocketHoleModel", "isSo", "(I)I"⟩, 27) := ⟨⟨by decide +kernel, by decide +kernel⟩, List.mem_of_getElem? (i := 731) (by decide +kernel), List.mem_of_getElem? (i := 1192) (by decide +kernel), List.mem_of_getElem? (i := 1193) (by decide +kernel)⟩
def lw_privs_4 : List (MethodName × Nat) := [(⟨"PocketHoleModel", "thin", "()I"⟩, 27), (⟨"PocketHoleModel", "isSet", "(I)Z"⟩, 27), (⟨"PocketHoleModel", "holesFor", "(II)I"⟩, 27), (⟨"PocketHoleModel", "hasFallen", "(I)Z"⟩, 27), (⟨"PocketHoleModel", "backCell", "(II)I"⟩, 27), (⟨"PocketHoleModel", "drawn", "(I)I"⟩, 27), (⟨"PocketHoleModel", "next", "()V"⟩, 27), (⟨"PocketHoleModel", "byteAt", "(I)I"⟩, 27), (⟨"PocketHoleModel", "readItem", "()V"⟩, 27), (⟨"PocketHoleModel", "kindTold", "()I"⟩, 27), (⟨"PocketHoleModel", "isWord", "(Ljava/lang/String;)Z"⟩, 27), (⟨"PocketHoleModel", "must", "(Z)V"⟩, 27), (⟨"PocketHoleModel", "isNext", "(Ljava/lang/String;)Z"⟩, 27), (⟨"PocketHoleModel", "number", "(II)I"⟩, 27), (⟨"PocketHoleModel", "item", "(IIIII)V"⟩, 27), (⟨"PocketHoleModel", "isSo", "(I)I"⟩, 27)]
theorem lw_r4 : ∀ q ∈ lw_privs_4, lw_okq q := List.forall_mem_cons.mpr ⟨lw_p48, List.forall_mem_cons.mpr ⟨lw_p49, List.forall_mem_cons.mpr ⟨lw_p50, List.forall_mem_cons.mpr ⟨lw_p51, List.forall_mem_cons.mpr ⟨lw_p52, List.forall_mem_cons.mpr ⟨lw_p53, List.forall_mem_cons.mpr ⟨lw_p54, List.forall_mem_cons.mpr ⟨lw_p55, List.forall_mem_cons.mpr ⟨lw_p56, List.forall_mem_cons.mpr ⟨lw_p57, List.forall_mem_cons.mpr ⟨lw_p58, List.forall_mem_cons.mpr ⟨lw_p59, List.forall_mem_cons.mpr ⟨lw_p60, List.forall_mem_cons.mpr ⟨lw_p61, List.forall_mem_cons.mpr ⟨lw_p62, List.forall_mem_cons.mpr ⟨lw_p63, fun _ h => absurd h List.not_mem_nil⟩⟩⟩⟩⟩⟩⟩⟩⟩⟩⟩⟩⟩⟩⟩⟩
def lw_privs : List (MethodName × Nat) := lw_privs_1 ++ (lw_privs_2 ++ (lw_privs_3 ++ (lw_privs_4)))
def lw_tbl : List Cond := k2_sels lw_privs ++ tables_1
theorem lw_privs_ok : ∀ q ∈ lw_privs, lw_okq q := by
  show ∀ q ∈ lw_privs_1 ++ (lw_privs_2 ++ (lw_privs_3 ++ (lw_privs_4))), lw_okq q
  exact List.forall_mem_append.mpr ⟨lw_r1, List.forall_mem_append.mpr ⟨lw_r2, List.forall_mem_append.mpr ⟨lw_r3, lw_r4⟩⟩⟩
theorem goodIn_r {big : List Cond} (ws : List Cond) (ps : List Nat) (hp : ws = ps.filterMap (fun i => big[i]?)) (h : ws.all goodWord = true) : GoodIn big ws := by
  intro w hw
  have h1 := List.all_eq_true.mp h w hw
  rw [hp] at hw
  obtain ⟨i, -, hi⟩ := List.mem_filterMap.mp hw
  have hm : w ∈ big := by first | exact List.mem_of_getElem? hi | exact List.getElem?_mem hi
  exact ⟨hm, good_of_word h1⟩
theorem goodIn_app {big a b : List Cond} (ha : GoodIn big a) (hb : GoodIn big b) : GoodIn big (a ++ b) := fun w h => (List.mem_append.mp h).elim (ha w) (hb w)
theorem goodIn_ca {big a b : List Cond} {c : Cond} (ha : GoodIn big (c :: a)) (hb : GoodIn big b) : GoodIn big (c :: (a ++ b)) := fun w h => (List.mem_cons.mp h).elim (fun e => ha w (List.mem_cons.mpr (Or.inl e))) (fun h => (List.mem_append.mp h).elim (fun h => ha w (List.mem_cons.mpr (Or.inr h))) (hb w))
theorem goodIn_sub {big ws : List Cond} (hm : ∀ w ∈ ws, w ∈ big) (h : ws.all goodWord = true) : GoodIn big ws := fun w hw => ⟨hm w hw, good_of_word (List.all_eq_true.mp h w hw)⟩
def RX0 : String := "PocketHole$Coat"
def TX0 : u_T := fun k => match k with
  | 0 => ("PocketHole$Coat", "hole", "I", false)
  | 1 => ("PocketHole$Coat", "gap", "I", false)
  | 2 => ("PocketHole$Coat", "at", "I", false)
  | 3 => ("PocketHole$Coat", "step", "I", false)
  | 4 => ("PocketHole$Coat", "z", "I", false)
  | 5 => ("PocketHole$Coat", "coins", "I", false)
  | 6 => ("PocketHole$Coat", "row", "[LPocketHole$Coin;", true)
  | _ => ("PocketHole$Coat", "spots", "[I", true)
def tyX0 : Nat → FieldType := fun k => match k with
  | 0 => .int
  | 1 => .int
  | 2 => .int
  | 3 => .int
  | 4 => .int
  | 5 => .int
  | 6 => .array (.object "PocketHole$Coin")
  | _ => .array .int
abbrev wsX00 : List Cond := u_ws RX0 TX0 8
theorem nmX0 : ∀ a, a < 8 → ∀ b, b < 8 → a ≠ b → (TX0 a).2.1 ≠ (TX0 b).2.1 := by decide +kernel
theorem tyX0_ok : ∀ k, k < 8 → parseFieldDescriptor (TX0 k).2.2.1 = some (tyX0 k) := by decide +kernel
abbrev cX0_init : ByteArray := prog_2_method_1_code
def yX0_init : MethodName := ⟨RX0, "<init>", "()V"⟩
abbrev cX0_become : ByteArray := prog_2_method_2_code
def yX0_become : MethodName := ⟨RX0, "become", "(LPocketHole$Coat;)V"⟩
abbrev cX0_newCoin : ByteArray := prog_2_method_3_code
def yX0_newCoin : MethodName := ⟨RX0, "newCoin", "(I)LPocketHole$Coin;"⟩
abbrev cX0_has : ByteArray := prog_2_method_4_code
def yX0_has : MethodName := ⟨RX0, "has", "(I)Z"⟩
abbrev cX0_sets : ByteArray := prog_2_method_5_code
def yX0_sets : MethodName := ⟨RX0, "sets", "()I"⟩
abbrev cX0_isSet : ByteArray := prog_2_method_6_code
def yX0_isSet : MethodName := ⟨RX0, "isSet", "(I)Z"⟩
abbrev cX0_in : ByteArray := prog_2_method_7_code
def yX0_in : MethodName := ⟨RX0, "in", "(I)I"⟩
abbrev cX0_thinOnes : ByteArray := prog_2_method_8_code
def yX0_thinOnes : MethodName := ⟨RX0, "thinOnes", "()I"⟩
abbrev cX0_penceOf : ByteArray := prog_2_method_9_code
def yX0_penceOf : MethodName := ⟨RX0, "penceOf", "(I)I"⟩
abbrev cX0_penceIn : ByteArray := prog_2_method_10_code
def yX0_penceIn : MethodName := ⟨RX0, "penceIn", "(I)I"⟩
abbrev cX0_weightOf : ByteArray := prog_2_method_11_code
def yX0_weightOf : MethodName := ⟨RX0, "weightOf", "(I)I"⟩
abbrev cX0_clink : ByteArray := prog_2_method_12_code
def yX0_clink : MethodName := ⟨RX0, "clink", "(II)Z"⟩
abbrev cX0_clinkingPairs : ByteArray := prog_2_method_13_code
def yX0_clinkingPairs : MethodName := ⟨RX0, "clinkingPairs", "()I"⟩
abbrev cX0_clinksNow : ByteArray := prog_2_method_14_code
def yX0_clinksNow : MethodName := ⟨RX0, "clinksNow", "(I)Z"⟩
abbrev cX0_hasFallen : ByteArray := prog_2_method_15_code
def yX0_hasFallen : MethodName := ⟨RX0, "hasFallen", "(I)Z"⟩
abbrev cX0_wayCell : ByteArray := prog_2_method_16_code
def yX0_wayCell : MethodName := ⟨RX0, "wayCell", "(II)I"⟩
abbrev cX0_spotsInUse : ByteArray := prog_2_method_17_code
def yX0_spotsInUse : MethodName := ⟨RX0, "spotsInUse", "()I"⟩
abbrev cX0_draw : ByteArray := prog_2_method_18_code
def yX0_draw : MethodName := ⟨RX0, "draw", "()I"⟩
abbrev cX0_go : ByteArray := prog_2_method_19_code
def yX0_go : MethodName := ⟨RX0, "go", "(I)V"⟩
abbrev cX0_goPocket : ByteArray := prog_2_method_20_code
def yX0_goPocket : MethodName := ⟨RX0, "goPocket", "()Z"⟩
abbrev cX0_stirOne : ByteArray := prog_2_method_21_code
def yX0_stirOne : MethodName := ⟨RX0, "stirOne", "(LPocketHole$Coin;)Z"⟩
abbrev cX0_goLining : ByteArray := prog_2_method_22_code
def yX0_goLining : MethodName := ⟨RX0, "goLining", "(II)V"⟩
def RX1 : String := "PocketHole$Coin"
def TX1 : u_T := fun k => match k with
  | 0 => ("PocketHole$Coin", "kind", "I", false)
  | 1 => ("PocketHole$Coin", "size", "I", false)
  | 2 => ("PocketHole$Coin", "weight", "I", false)
  | 3 => ("PocketHole$Coin", "pence", "I", false)
  | 4 => ("PocketHole$Coin", "place", "I", false)
  | 5 => ("PocketHole$Coin", "near", "I", false)
  | 6 => ("PocketHole$Coin", "cell", "I", false)
  | _ => ("PocketHole$Coin", "fall", "I", false)
def tyX1 : Nat → FieldType := fun k => match k with
  | 0 => .int
  | 1 => .int
  | 2 => .int
  | 3 => .int
  | 4 => .int
  | 5 => .int
  | 6 => .int
  | _ => .int
abbrev wsX10 : List Cond := u_ws RX1 TX1 8
theorem nmX1 : ∀ a, a < 8 → ∀ b, b < 8 → a ≠ b → (TX1 a).2.1 ≠ (TX1 b).2.1 := by decide +kernel
theorem tyX1_ok : ∀ k, k < 8 → parseFieldDescriptor (TX1 k).2.2.1 = some (tyX1 k) := by decide +kernel
abbrev cX1_init : ByteArray := prog_3_method_1_code
def yX1_init : MethodName := ⟨RX1, "<init>", "()V"⟩
abbrev cX1_renew : ByteArray := prog_3_method_2_code
def yX1_renew : MethodName := ⟨RX1, "renew", "(I)V"⟩
abbrev cX1_become : ByteArray := prog_3_method_3_code
def yX1_become : MethodName := ⟨RX1, "become", "(LPocketHole$Coin;)V"⟩
abbrev cX1_moveTo : ByteArray := prog_3_method_4_code
def yX1_moveTo : MethodName := ⟨RX1, "moveTo", "(I)V"⟩
abbrev cX1_is : ByteArray := prog_3_method_5_code
def yX1_is : MethodName := ⟨RX1, "is", "(I)Z"⟩
abbrev cX1_thickness : ByteArray := prog_3_method_6_code
def yX1_thickness : MethodName := ⟨RX1, "thickness", "()I"⟩
abbrev cX1_pace : ByteArray := prog_3_method_7_code
def yX1_pace : MethodName := ⟨RX1, "pace", "()I"⟩
abbrev cX1_wear : ByteArray := prog_3_method_8_code
def yX1_wear : MethodName := ⟨RX1, "wear", "(I)I"⟩
abbrev cX1_told : ByteArray := prog_3_method_9_code
def yX1_told : MethodName := ⟨RX1, "told", "(II)I"⟩
abbrev cX1_set : ByteArray := prog_3_method_10_code
def yX1_set : MethodName := ⟨RX1, "set", "(II)V"⟩
def RX2 : String := "PocketHole$Sheet"
def TX2 : u_T := fun k => match k with
  | 0 => ("PocketHole$Sheet", "bits", "I", false)
  | 1 => ("PocketHole$Sheet", "length", "I", false)
  | _ => ("PocketHole$Sheet", "numbers", "[I", true)
def tyX2 : Nat → FieldType := fun k => match k with
  | 0 => .int
  | 1 => .int
  | _ => .array .int
abbrev wsX20 : List Cond := u_ws RX2 TX2 3
theorem nmX2 : ∀ a, a < 3 → ∀ b, b < 3 → a ≠ b → (TX2 a).2.1 ≠ (TX2 b).2.1 := by decide +kernel
theorem tyX2_ok : ∀ k, k < 3 → parseFieldDescriptor (TX2 k).2.2.1 = some (tyX2 k) := by decide +kernel
abbrev cX2_init : ByteArray := prog_4_method_1_code
def yX2_init : MethodName := ⟨RX2, "<init>", "()V"⟩
abbrev cX2_renew : ByteArray := prog_4_method_2_code
def yX2_renew : MethodName := ⟨RX2, "renew", "(II)V"⟩
abbrev cX2_isMissing : ByteArray := prog_4_method_3_code
def yX2_isMissing : MethodName := ⟨RX2, "isMissing", "()Z"⟩
abbrev cX2_hasRange : ByteArray := prog_4_method_4_code
def yX2_hasRange : MethodName := ⟨RX2, "hasRange", "(II)Z"⟩
abbrev cX2_set : ByteArray := prog_4_method_5_code
def yX2_set : MethodName := ⟨RX2, "set", "(II)V"⟩
def RX3 : String := "PocketHole$Tape"
def TX3 : u_T := fun k => match k with
  | 0 => ("PocketHole$Tape", "bytes", "[I", true)
  | 1 => ("PocketHole$Tape", "length", "I", false)
  | 2 => ("PocketHole$Tape", "begin", "I", false)
  | 3 => ("PocketHole$Tape", "end", "I", false)
  | 4 => ("PocketHole$Tape", "sort", "I", false)
  | _ => ("PocketHole$Tape", "value", "I", false)
def tyX3 : Nat → FieldType := fun k => match k with
  | 0 => .array .int
  | 1 => .int
  | 2 => .int
  | 3 => .int
  | 4 => .int
  | _ => .int
abbrev wsX30 : List Cond := u_ws RX3 TX3 6
theorem nmX3 : ∀ a, a < 6 → ∀ b, b < 6 → a ≠ b → (TX3 a).2.1 ≠ (TX3 b).2.1 := by decide +kernel
theorem tyX3_ok : ∀ k, k < 6 → parseFieldDescriptor (TX3 k).2.2.1 = some (tyX3 k) := by decide +kernel
abbrev cX3_init : ByteArray := prog_5_method_1_code
def yX3_init : MethodName := ⟨RX3, "<init>", "()V"⟩
abbrev cX3_add : ByteArray := prog_5_method_2_code
def yX3_add : MethodName := ⟨RX3, "add", "(I)V"⟩
abbrev cX3_readInto : ByteArray := prog_5_method_3_code
def yX3_readInto : MethodName := ⟨RX3, "readInto", "(LPocketHole$Coat;)I"⟩
abbrev cX3_readsHole : ByteArray := prog_5_method_4_code
def yX3_readsHole : MethodName := ⟨RX3, "readsHole", "(LPocketHole$Coat;)Z"⟩
abbrev cX3_readsGap : ByteArray := prog_5_method_5_code
def yX3_readsGap : MethodName := ⟨RX3, "readsGap", "(LPocketHole$Coat;)Z"⟩
abbrev cX3_readsCoin : ByteArray := prog_5_method_6_code
def yX3_readsCoin : MethodName := ⟨RX3, "readsCoin", "(LPocketHole$Coat;)Z"⟩
abbrev cX3_readsPart : ByteArray := prog_5_method_7_code
def yX3_readsPart : MethodName := ⟨RX3, "readsPart", "(LPocketHole$Coin;Ljava/lang/String;III)Z"⟩
abbrev cX3_kindTold : ByteArray := prog_5_method_8_code
def yX3_kindTold : MethodName := ⟨RX3, "kindTold", "()I"⟩
abbrev cX3_nameOf : ByteArray := prog_5_method_9_code
def yX3_nameOf : MethodName := ⟨RX3, "nameOf", "(I)Ljava/lang/String;"⟩
abbrev cX3_takesWord : ByteArray := prog_5_method_10_code
def yX3_takesWord : MethodName := ⟨RX3, "takesWord", "(Ljava/lang/String;)Z"⟩
abbrev cX3_isWord : ByteArray := prog_5_method_11_code
def yX3_isWord : MethodName := ⟨RX3, "isWord", "(Ljava/lang/String;)Z"⟩
abbrev cX3_takenNumber : ByteArray := prog_5_method_12_code
def yX3_takenNumber : MethodName := ⟨RX3, "takenNumber", "(II)I"⟩
abbrev cX3_toNextToken : ByteArray := prog_5_method_13_code
def yX3_toNextToken : MethodName := ⟨RX3, "toNextToken", "()V"⟩
abbrev cX3_isLetter : ByteArray := prog_5_method_14_code
def yX3_isLetter : MethodName := ⟨RX3, "isLetter", "(I)Z"⟩
abbrev cX3_isDigit : ByteArray := prog_5_method_15_code
def yX3_isDigit : MethodName := ⟨RX3, "isDigit", "(I)Z"⟩
def RX4 : String := "PocketHole"
def TX4 : u_T := fun k => match k with
  | 0 => ("PocketHole", "coat", "LPocketHole$Coat;", true)
  | 1 => ("PocketHole", "trial", "LPocketHole$Coat;", true)
  | 2 => ("PocketHole", "kept", "LPocketHole$Coat;", true)
  | 3 => ("PocketHole", "isKept", "Z", false)
  | 4 => ("PocketHole", "tape", "LPocketHole$Tape;", true)
  | 5 => ("PocketHole", "sheets", "[LPocketHole$Sheet;", true)
  | 6 => ("PocketHole", "findingsTold", "[I", true)
  | 7 => ("PocketHole", "sumMarks", "[J", true)
  | _ => ("PocketHole", "wayPence", "[I", true)
def tyX4 : Nat → FieldType := fun k => match k with
  | 0 => .object "PocketHole$Coat"
  | 1 => .object "PocketHole$Coat"
  | 2 => .object "PocketHole$Coat"
  | 3 => .boolean
  | 4 => .object "PocketHole$Tape"
  | 5 => .array (.object "PocketHole$Sheet")
  | 6 => .array .int
  | 7 => .array .long
  | _ => .array .int
abbrev wsX40 : List Cond := u_ws RX4 TX4 9
theorem nmX4 : ∀ a, a < 9 → ∀ b, b < 9 → a ≠ b → (TX4 a).2.1 ≠ (TX4 b).2.1 := by decide +kernel
theorem tyX4_ok : ∀ k, k < 9 → parseFieldDescriptor (TX4 k).2.2.1 = some (tyX4 k) := by decide +kernel
abbrev cX4_init : ByteArray := prog_1_method_1_code
def yX4_init : MethodName := ⟨RX4, "<init>", "()V"⟩
abbrev cX4_coin : ByteArray := prog_1_method_2_code
def yX4_coin : MethodName := ⟨RX4, "coin", "(I)I"⟩
abbrev cX4_of : ByteArray := prog_1_method_3_code
def yX4_of : MethodName := ⟨RX4, "of", "(II)I"⟩
abbrev cX4_change : ByteArray := prog_1_method_4_code
def yX4_change : MethodName := ⟨RX4, "change", "(III)I"⟩
abbrev cX4_put : ByteArray := prog_1_method_5_code
def yX4_put : MethodName := ⟨RX4, "put", "(II)I"⟩
abbrev cX4_rule : ByteArray := prog_1_method_6_code
def yX4_rule : MethodName := ⟨RX4, "rule", "(II)I"⟩
abbrev cX4_sew : ByteArray := prog_1_method_7_code
def yX4_sew : MethodName := ⟨RX4, "sew", "()I"⟩
abbrev cX4_lie : ByteArray := prog_1_method_8_code
def yX4_lie : MethodName := ⟨RX4, "lie", "(I)I"⟩
abbrev cX4_pence : ByteArray := prog_1_method_9_code
def yX4_pence : MethodName := ⟨RX4, "pence", "(I)I"⟩
abbrev cX4_steps : ByteArray := prog_1_method_10_code
def yX4_steps : MethodName := ⟨RX4, "steps", "(I)I"⟩
abbrev cX4_now : ByteArray := prog_1_method_11_code
def yX4_now : MethodName := ⟨RX4, "now", "(I)I"⟩
abbrev cX4_ahead : ByteArray := prog_1_method_12_code
def yX4_ahead : MethodName := ⟨RX4, "ahead", "(II)I"⟩
abbrev cX4_when : ByteArray := prog_1_method_13_code
def yX4_when : MethodName := ⟨RX4, "when", "(I)I"⟩
abbrev cX4_falls : ByteArray := prog_1_method_14_code
def yX4_falls : MethodName := ⟨RX4, "falls", "(I)I"⟩
abbrev cX4_first : ByteArray := prog_1_method_15_code
def yX4_first : MethodName := ⟨RX4, "first", "()I"⟩
abbrev cX4_cell : ByteArray := prog_1_method_16_code
def yX4_cell : MethodName := ⟨RX4, "cell", "(II)I"⟩
abbrev cX4_bears : ByteArray := prog_1_method_17_code
def yX4_bears : MethodName := ⟨RX4, "bears", "(II)I"⟩
abbrev cX4_latest : ByteArray := prog_1_method_18_code
def yX4_latest : MethodName := ⟨RX4, "latest", "(II)I"⟩
abbrev cX4_carry : ByteArray := prog_1_method_19_code
def yX4_carry : MethodName := ⟨RX4, "carry", "(I)I"⟩
abbrev cX4_carried : ByteArray := prog_1_method_20_code
def yX4_carried : MethodName := ⟨RX4, "carried", "(I)I"⟩
abbrev cX4_kindFor : ByteArray := prog_1_method_21_code
def yX4_kindFor : MethodName := ⟨RX4, "kindFor", "(I)I"⟩
abbrev cX4_worst : ByteArray := prog_1_method_22_code
def yX4_worst : MethodName := ⟨RX4, "worst", "(I)I"⟩
abbrev cX4_hem : ByteArray := prog_1_method_23_code
def yX4_hem : MethodName := ⟨RX4, "hem", "(I)I"⟩
abbrev cX4_pay : ByteArray := prog_1_method_24_code
def yX4_pay : MethodName := ⟨RX4, "pay", "(I)I"⟩
abbrev cX4_small : ByteArray := prog_1_method_25_code
def yX4_small : MethodName := ⟨RX4, "small", "(I)I"⟩
abbrev cX4_paid : ByteArray := prog_1_method_26_code
def yX4_paid : MethodName := ⟨RX4, "paid", "(I)I"⟩
abbrev cX4_sums : ByteArray := prog_1_method_27_code
def yX4_sums : MethodName := ⟨RX4, "sums", "()I"⟩
abbrev cX4_fits : ByteArray := prog_1_method_28_code
def yX4_fits : MethodName := ⟨RX4, "fits", "(II)I"⟩
abbrev cX4_size : ByteArray := prog_1_method_29_code
def yX4_size : MethodName := ⟨RX4, "size", "(II)I"⟩
abbrev cX4_began : ByteArray := prog_1_method_30_code
def yX4_began : MethodName := ⟨RX4, "began", "(I)I"⟩
abbrev cX4_boy : ByteArray := prog_1_method_31_code
def yX4_boy : MethodName := ⟨RX4, "boy", "(II)I"⟩
abbrev cX4_lining : ByteArray := prog_1_method_32_code
def yX4_lining : MethodName := ⟨RX4, "lining", "(I)I"⟩
abbrev cX4_back : ByteArray := prog_1_method_33_code
def yX4_back : MethodName := ⟨RX4, "back", "(II)I"⟩
abbrev cX4_richest : ByteArray := prog_1_method_34_code
def yX4_richest : MethodName := ⟨RX4, "richest", "(I)I"⟩
abbrev cX4_days : ByteArray := prog_1_method_35_code
def yX4_days : MethodName := ⟨RX4, "days", "(I)I"⟩
abbrev cX4_seed : ByteArray := prog_1_method_36_code
def yX4_seed : MethodName := ⟨RX4, "seed", "(I)I"⟩
abbrev cX4_feed : ByteArray := prog_1_method_37_code
def yX4_feed : MethodName := ⟨RX4, "feed", "(II)I"⟩
abbrev cX4_wipe : ByteArray := prog_1_method_38_code
def yX4_wipe : MethodName := ⟨RX4, "wipe", "()I"⟩
abbrev cX4_text : ByteArray := prog_1_method_39_code
def yX4_text : MethodName := ⟨RX4, "text", "()I"⟩
abbrev cX4_hold : ByteArray := prog_1_method_40_code
def yX4_hold : MethodName := ⟨RX4, "hold", "(II)I"⟩
abbrev cX4_as : ByteArray := prog_1_method_41_code
def yX4_as : MethodName := ⟨RX4, "as", "(II)I"⟩
abbrev cX4_sheet : ByteArray := prog_1_method_42_code
def yX4_sheet : MethodName := ⟨RX4, "sheet", "(III)I"⟩
abbrev cX4_write : ByteArray := prog_1_method_43_code
def yX4_write : MethodName := ⟨RX4, "write", "(III)I"⟩
abbrev cX4_copy : ByteArray := prog_1_method_44_code
def yX4_copy : MethodName := ⟨RX4, "copy", "(IIIII)I"⟩
abbrev cX4_load : ByteArray := prog_1_method_45_code
def yX4_load : MethodName := ⟨RX4, "load", "(I)I"⟩
abbrev cX4_judge : ByteArray := prog_1_method_46_code
def yX4_judge : MethodName := ⟨RX4, "judge", "(II)I"⟩
abbrev cX4_image : ByteArray := prog_1_method_47_code
def yX4_image : MethodName := ⟨RX4, "image", "()I"⟩
abbrev cX4_undo : ByteArray := prog_1_method_48_code
def yX4_undo : MethodName := ⟨RX4, "undo", "()I"⟩
abbrev cX4_tear : ByteArray := prog_1_method_49_code
def yX4_tear : MethodName := ⟨RX4, "tear", "()I"⟩
abbrev cX4_count : ByteArray := prog_1_method_50_code
def yX4_count : MethodName := ⟨RX4, "count", "(I)I"⟩
abbrev cX4_status : ByteArray := prog_1_method_51_code
def yX4_status : MethodName := ⟨RX4, "status", "(I)I"⟩
abbrev cX4_finding : ByteArray := prog_1_method_52_code
def yX4_finding : MethodName := ⟨RX4, "finding", "(I)I"⟩
abbrev cX4_isWithin : ByteArray := prog_1_method_53_code
def yX4_isWithin : MethodName := ⟨RX4, "isWithin", "(III)Z"⟩
abbrev cX4_isPlace : ByteArray := prog_1_method_54_code
def yX4_isPlace : MethodName := ⟨RX4, "isPlace", "(I)Z"⟩
abbrev cX4_isSheet : ByteArray := prog_1_method_55_code
def yX4_isSheet : MethodName := ⟨RX4, "isSheet", "(I)Z"⟩
abbrev cX4_mayBecome : ByteArray := prog_1_method_56_code
def yX4_mayBecome : MethodName := ⟨RX4, "mayBecome", "(II)Z"⟩
abbrev cX4_leastOf : ByteArray := prog_1_method_57_code
def yX4_leastOf : MethodName := ⟨RX4, "leastOf", "(I)I"⟩
abbrev cX4_isTooFar : ByteArray := prog_1_method_58_code
def yX4_isTooFar : MethodName := ⟨RX4, "isTooFar", "(I)Z"⟩
abbrev cX4_goneInTrial : ByteArray := prog_1_method_59_code
def yX4_goneInTrial : MethodName := ⟨RX4, "goneInTrial", "()I"⟩
abbrev cX4_lostInTrial : ByteArray := prog_1_method_60_code
def yX4_lostInTrial : MethodName := ⟨RX4, "lostInTrial", "()I"⟩
abbrev cX4_stayInTrial : ByteArray := prog_1_method_61_code
def yX4_stayInTrial : MethodName := ⟨RX4, "stayInTrial", "(I)I"⟩
abbrev cX4_goneWithHole : ByteArray := prog_1_method_62_code
def yX4_goneWithHole : MethodName := ⟨RX4, "goneWithHole", "(II)I"⟩
abbrev cX4_lostBehind : ByteArray := prog_1_method_63_code
def yX4_lostBehind : MethodName := ⟨RX4, "lostBehind", "(I)I"⟩
abbrev cX4_richestStaying : ByteArray := prog_1_method_64_code
def yX4_richestStaying : MethodName := ⟨RX4, "richestStaying", "(I)I"⟩
abbrev cX4_stays : ByteArray := prog_1_method_65_code
def yX4_stays : MethodName := ⟨RX4, "stays", "(III)Z"⟩
abbrev cX4_markSumsWith : ByteArray := prog_1_method_66_code
def yX4_markSumsWith : MethodName := ⟨RX4, "markSumsWith", "(I)V"⟩
def RX5 : String := "PocketHoleModel"
def TX5 : u_T := fun k => match k with
  | 0 => ("PocketHoleModel", "now", "[I", true)
  | 1 => ("PocketHoleModel", "kept", "[I", true)
  | 2 => ("PocketHoleModel", "aside", "[I", true)
  | 3 => ("PocketHoleModel", "isKept", "Z", false)
  | 4 => ("PocketHoleModel", "found", "[I", true)
  | 5 => ("PocketHoleModel", "leasts", "[I", true)
  | 6 => ("PocketHoleModel", "mosts", "[I", true)
  | 7 => ("PocketHoleModel", "bestSet", "I", false)
  | 8 => ("PocketHoleModel", "mostPence", "I", false)
  | 9 => ("PocketHoleModel", "summed", "[Z", true)
  | 10 => ("PocketHoleModel", "leastHole", "I", false)
  | 11 => ("PocketHoleModel", "tape", "[I", true)
  | 12 => ("PocketHoleModel", "taped", "I", false)
  | 13 => ("PocketHoleModel", "begins", "I", false)
  | 14 => ("PocketHoleModel", "ends", "I", false)
  | 15 => ("PocketHoleModel", "sort", "I", false)
  | 16 => ("PocketHoleModel", "value", "I", false)
  | 17 => ("PocketHoleModel", "isWrong", "Z", false)
  | 18 => ("PocketHoleModel", "kinds", "[Ljava/lang/String;", true)
  | 19 => ("PocketHoleModel", "kindOf", "[I", true)
  | 20 => ("PocketHoleModel", "items", "[I", true)
  | 21 => ("PocketHoleModel", "itemMany", "I", false)
  | 22 => ("PocketHoleModel", "coinThen", "I", false)
  | 23 => ("PocketHoleModel", "widths", "[I", true)
  | 24 => ("PocketHoleModel", "sizes", "[I", true)
  | 25 => ("PocketHoleModel", "numbers", "[I", true)
  | _ => ("PocketHoleModel", "moved", "[I", true)
def tyX5 : Nat → FieldType := fun k => match k with
  | 0 => .array .int
  | 1 => .array .int
  | 2 => .array .int
  | 3 => .boolean
  | 4 => .array .int
  | 5 => .array .int
  | 6 => .array .int
  | 7 => .int
  | 8 => .int
  | 9 => .array .boolean
  | 10 => .int
  | 11 => .array .int
  | 12 => .int
  | 13 => .int
  | 14 => .int
  | 15 => .int
  | 16 => .int
  | 17 => .boolean
  | 18 => .array (.object "java/lang/String")
  | 19 => .array .int
  | 20 => .array .int
  | 21 => .int
  | 22 => .int
  | 23 => .array .int
  | 24 => .array .int
  | 25 => .array .int
  | _ => .array .int
abbrev wsX50 : List Cond := u_ws RX5 TX5 27
theorem nmX5 : ∀ a, a < 27 → ∀ b, b < 27 → a ≠ b → (TX5 a).2.1 ≠ (TX5 b).2.1 := by decide +kernel
theorem tyX5_ok : ∀ k, k < 27 → parseFieldDescriptor (TX5 k).2.2.1 = some (tyX5 k) := by decide +kernel
abbrev cX5_init : ByteArray := prog_7_method_1_code
def yX5_init : MethodName := ⟨RX5, "<init>", "()V"⟩
abbrev cX5_finding : ByteArray := prog_7_method_2_code
def yX5_finding : MethodName := ⟨RX5, "finding", "(I)I"⟩
abbrev cX5_within : ByteArray := prog_7_method_3_code
def yX5_within : MethodName := ⟨RX5, "within", "(III)Z"⟩
abbrev cX5_become : ByteArray := prog_7_method_4_code
def yX5_become : MethodName := ⟨RX5, "become", "(II)I"⟩
abbrev cX5_copyRow : ByteArray := prog_7_method_5_code
def yX5_copyRow : MethodName := ⟨RX5, "copyRow", "([I[I)V"⟩
abbrev cX5_putBack : ByteArray := prog_7_method_6_code
def yX5_putBack : MethodName := ⟨RX5, "putBack", "(I)I"⟩
abbrev cX5_has : ByteArray := prog_7_method_7_code
def yX5_has : MethodName := ⟨RX5, "has", "(II)Z"⟩
abbrev cX5_bits : ByteArray := prog_7_method_8_code
def yX5_bits : MethodName := ⟨RX5, "bits", "(I)I"⟩
abbrev cX5_isCoin : ByteArray := prog_7_method_9_code
def yX5_isCoin : MethodName := ⟨RX5, "isCoin", "(I)Z"⟩
abbrev cX5_isKind : ByteArray := prog_7_method_10_code
def yX5_isKind : MethodName := ⟨RX5, "isKind", "(I)Z"⟩
abbrev cX5_isPlace : ByteArray := prog_7_method_11_code
def yX5_isPlace : MethodName := ⟨RX5, "isPlace", "(I)Z"⟩
abbrev cX5_at : ByteArray := prog_7_method_12_code
def yX5_at : MethodName := ⟨RX5, "at", "(II)I"⟩
abbrev cX5_coinIs : ByteArray := prog_7_method_13_code
def yX5_coinIs : MethodName := ⟨RX5, "coinIs", "(II)I"⟩
abbrev cX5_comes : ByteArray := prog_7_method_14_code
def yX5_comes : MethodName := ⟨RX5, "comes", "(IIIII)I"⟩
abbrev cX5_coin : ByteArray := prog_7_method_15_code
def yX5_coin : MethodName := ⟨RX5, "coin", "(I)I"⟩
abbrev cX5_above : ByteArray := prog_7_method_16_code
def yX5_above : MethodName := ⟨RX5, "above", "(I)I"⟩
abbrev cX5_isUnder : ByteArray := prog_7_method_17_code
def yX5_isUnder : MethodName := ⟨RX5, "isUnder", "(II)Z"⟩
abbrev cX5_thick : ByteArray := prog_7_method_18_code
def yX5_thick : MethodName := ⟨RX5, "thick", "(I)I"⟩
abbrev cX5_goes : ByteArray := prog_7_method_19_code
def yX5_goes : MethodName := ⟨RX5, "goes", "(I)I"⟩
abbrev cX5_wears : ByteArray := prog_7_method_20_code
def yX5_wears : MethodName := ⟨RX5, "wears", "(I)I"⟩
abbrev cX5_of : ByteArray := prog_7_method_21_code
def yX5_of : MethodName := ⟨RX5, "of", "(II)I"⟩
abbrev cX5_change : ByteArray := prog_7_method_22_code
def yX5_change : MethodName := ⟨RX5, "change", "(III)I"⟩
abbrev cX5_goesTo : ByteArray := prog_7_method_23_code
def yX5_goesTo : MethodName := ⟨RX5, "goesTo", "(II)I"⟩
abbrev cX5_put : ByteArray := prog_7_method_24_code
def yX5_put : MethodName := ⟨RX5, "put", "(II)I"⟩
abbrev cX5_rule : ByteArray := prog_7_method_25_code
def yX5_rule : MethodName := ⟨RX5, "rule", "(II)I"⟩
abbrev cX5_sew : ByteArray := prog_7_method_26_code
def yX5_sew : MethodName := ⟨RX5, "sew", "()I"⟩
abbrev cX5_isIn : ByteArray := prog_7_method_27_code
def yX5_isIn : MethodName := ⟨RX5, "isIn", "(II)Z"⟩
abbrev cX5_lieIn : ByteArray := prog_7_method_28_code
def yX5_lieIn : MethodName := ⟨RX5, "lieIn", "(I)I"⟩
abbrev cX5_sumOf : ByteArray := prog_7_method_29_code
def yX5_sumOf : MethodName := ⟨RX5, "sumOf", "(II)I"⟩
abbrev cX5_lie : ByteArray := prog_7_method_30_code
def yX5_lie : MethodName := ⟨RX5, "lie", "(I)I"⟩
abbrev cX5_pence : ByteArray := prog_7_method_31_code
def yX5_pence : MethodName := ⟨RX5, "pence", "(I)I"⟩
abbrev cX5_wider : ByteArray := prog_7_method_32_code
def yX5_wider : MethodName := ⟨RX5, "wider", "(I)V"⟩
abbrev cX5_inPocket : ByteArray := prog_7_method_33_code
def yX5_inPocket : MethodName := ⟨RX5, "inPocket", "(I)V"⟩
abbrev cX5_hasCompany : ByteArray := prog_7_method_34_code
def yX5_hasCompany : MethodName := ⟨RX5, "hasCompany", "(I)Z"⟩
abbrev cX5_inLining : ByteArray := prog_7_method_35_code
def yX5_inLining : MethodName := ⟨RX5, "inLining", "(I)V"⟩
abbrev cX5_stepsGo : ByteArray := prog_7_method_36_code
def yX5_stepsGo : MethodName := ⟨RX5, "stepsGo", "(I)I"⟩
abbrev cX5_isTooLate : ByteArray := prog_7_method_37_code
def yX5_isTooLate : MethodName := ⟨RX5, "isTooLate", "(I)Z"⟩
abbrev cX5_steps : ByteArray := prog_7_method_38_code
def yX5_steps : MethodName := ⟨RX5, "steps", "(I)I"⟩
abbrev cX5_clinks : ByteArray := prog_7_method_39_code
def yX5_clinks : MethodName := ⟨RX5, "clinks", "()I"⟩
abbrev cX5_now : ByteArray := prog_7_method_40_code
def yX5_now : MethodName := ⟨RX5, "now", "(I)I"⟩
abbrev cX5_ahead : ByteArray := prog_7_method_41_code
def yX5_ahead : MethodName := ⟨RX5, "ahead", "(II)I"⟩
abbrev cX5_isLate : ByteArray := prog_7_method_42_code
def yX5_isLate : MethodName := ⟨RX5, "isLate", "()Z"⟩
abbrev cX5_till : ByteArray := prog_7_method_43_code
def yX5_till : MethodName := ⟨RX5, "till", "(IZ)I"⟩
abbrev cX5_tillTold : ByteArray := prog_7_method_44_code
def yX5_tillTold : MethodName := ⟨RX5, "tillTold", "(IZ)I"⟩
abbrev cX5_when : ByteArray := prog_7_method_45_code
def yX5_when : MethodName := ⟨RX5, "when", "(I)I"⟩
abbrev cX5_falls : ByteArray := prog_7_method_46_code
def yX5_falls : MethodName := ⟨RX5, "falls", "(I)I"⟩
abbrev cX5_first : ByteArray := prog_7_method_47_code
def yX5_first : MethodName := ⟨RX5, "first", "()I"⟩
abbrev cX5_cell : ByteArray := prog_7_method_48_code
def yX5_cell : MethodName := ⟨RX5, "cell", "(II)I"⟩
abbrev cX5_refuses : ByteArray := prog_7_method_49_code
def yX5_refuses : MethodName := ⟨RX5, "refuses", "(ZII)I"⟩
abbrev cX5_bears : ByteArray := prog_7_method_50_code
def yX5_bears : MethodName := ⟨RX5, "bears", "(II)I"⟩
abbrev cX5_lostThen : ByteArray := prog_7_method_51_code
def yX5_lostThen : MethodName := ⟨RX5, "lostThen", "(II)I"⟩
abbrev cX5_latest : ByteArray := prog_7_method_52_code
def yX5_latest : MethodName := ⟨RX5, "latest", "(II)I"⟩
abbrev cX5_findCarry : ByteArray := prog_7_method_53_code
def yX5_findCarry : MethodName := ⟨RX5, "findCarry", "(I)V"⟩
abbrev cX5_carry : ByteArray := prog_7_method_54_code
def yX5_carry : MethodName := ⟨RX5, "carry", "(I)I"⟩
abbrev cX5_carried : ByteArray := prog_7_method_55_code
def yX5_carried : MethodName := ⟨RX5, "carried", "(I)I"⟩
abbrev cX5_kindFor : ByteArray := prog_7_method_56_code
def yX5_kindFor : MethodName := ⟨RX5, "kindFor", "(I)I"⟩
abbrev cX5_worst : ByteArray := prog_7_method_57_code
def yX5_worst : MethodName := ⟨RX5, "worst", "(I)I"⟩
abbrev cX5_hem : ByteArray := prog_7_method_58_code
def yX5_hem : MethodName := ⟨RX5, "hem", "(I)I"⟩
abbrev cX5_thin : ByteArray := prog_7_method_59_code
def yX5_thin : MethodName := ⟨RX5, "thin", "()I"⟩
abbrev cX5_payWith : ByteArray := prog_7_method_60_code
def yX5_payWith : MethodName := ⟨RX5, "payWith", "(IIZ)I"⟩
abbrev cX5_pay : ByteArray := prog_7_method_61_code
def yX5_pay : MethodName := ⟨RX5, "pay", "(I)I"⟩
abbrev cX5_small : ByteArray := prog_7_method_62_code
def yX5_small : MethodName := ⟨RX5, "small", "(I)I"⟩
abbrev cX5_isSet : ByteArray := prog_7_method_63_code
def yX5_isSet : MethodName := ⟨RX5, "isSet", "(I)Z"⟩
abbrev cX5_paid : ByteArray := prog_7_method_64_code
def yX5_paid : MethodName := ⟨RX5, "paid", "(I)I"⟩
abbrev cX5_sums : ByteArray := prog_7_method_65_code
def yX5_sums : MethodName := ⟨RX5, "sums", "()I"⟩
abbrev cX5_holesFor : ByteArray := prog_7_method_66_code
def yX5_holesFor : MethodName := ⟨RX5, "holesFor", "(II)I"⟩
abbrev cX5_fits : ByteArray := prog_7_method_67_code
def yX5_fits : MethodName := ⟨RX5, "fits", "(II)I"⟩
abbrev cX5_size : ByteArray := prog_7_method_68_code
def yX5_size : MethodName := ⟨RX5, "size", "(II)I"⟩
abbrev cX5_began : ByteArray := prog_7_method_69_code
def yX5_began : MethodName := ⟨RX5, "began", "(I)I"⟩
abbrev cX5_boy : ByteArray := prog_7_method_70_code
def yX5_boy : MethodName := ⟨RX5, "boy", "(II)I"⟩
abbrev cX5_lining : ByteArray := prog_7_method_71_code
def yX5_lining : MethodName := ⟨RX5, "lining", "(I)I"⟩
abbrev cX5_hasFallen : ByteArray := prog_7_method_72_code
def yX5_hasFallen : MethodName := ⟨RX5, "hasFallen", "(I)Z"⟩
abbrev cX5_backCell : ByteArray := prog_7_method_73_code
def yX5_backCell : MethodName := ⟨RX5, "backCell", "(II)I"⟩
abbrev cX5_back : ByteArray := prog_7_method_74_code
def yX5_back : MethodName := ⟨RX5, "back", "(II)I"⟩
abbrev cX5_richest : ByteArray := prog_7_method_75_code
def yX5_richest : MethodName := ⟨RX5, "richest", "(I)I"⟩
abbrev cX5_drawn : ByteArray := prog_7_method_76_code
def yX5_drawn : MethodName := ⟨RX5, "drawn", "(I)I"⟩
abbrev cX5_days : ByteArray := prog_7_method_77_code
def yX5_days : MethodName := ⟨RX5, "days", "(I)I"⟩
abbrev cX5_seed : ByteArray := prog_7_method_78_code
def yX5_seed : MethodName := ⟨RX5, "seed", "(I)I"⟩
abbrev cX5_feed : ByteArray := prog_7_method_79_code
def yX5_feed : MethodName := ⟨RX5, "feed", "(II)I"⟩
abbrev cX5_wipe : ByteArray := prog_7_method_80_code
def yX5_wipe : MethodName := ⟨RX5, "wipe", "()I"⟩
abbrev cX5_byteAt : ByteArray := prog_7_method_81_code
def yX5_byteAt : MethodName := ⟨RX5, "byteAt", "(I)I"⟩
abbrev cX5_next : ByteArray := prog_7_method_82_code
def yX5_next : MethodName := ⟨RX5, "next", "()V"⟩
abbrev cX5_isWord : ByteArray := prog_7_method_83_code
def yX5_isWord : MethodName := ⟨RX5, "isWord", "(Ljava/lang/String;)Z"⟩
abbrev cX5_must : ByteArray := prog_7_method_84_code
def yX5_must : MethodName := ⟨RX5, "must", "(Z)V"⟩
abbrev cX5_number : ByteArray := prog_7_method_85_code
def yX5_number : MethodName := ⟨RX5, "number", "(II)I"⟩
abbrev cX5_item : ByteArray := prog_7_method_86_code
def yX5_item : MethodName := ⟨RX5, "item", "(IIIII)V"⟩
abbrev cX5_kindTold : ByteArray := prog_7_method_87_code
def yX5_kindTold : MethodName := ⟨RX5, "kindTold", "()I"⟩
abbrev cX5_isNext : ByteArray := prog_7_method_88_code
def yX5_isNext : MethodName := ⟨RX5, "isNext", "(Ljava/lang/String;)Z"⟩
abbrev cX5_readItem : ByteArray := prog_7_method_89_code
def yX5_readItem : MethodName := ⟨RX5, "readItem", "()V"⟩
abbrev cX5_isSo : ByteArray := prog_7_method_90_code
def yX5_isSo : MethodName := ⟨RX5, "isSo", "(I)I"⟩
abbrev cX5_text : ByteArray := prog_7_method_91_code
def yX5_text : MethodName := ⟨RX5, "text", "()I"⟩
abbrev cX5_isSpot : ByteArray := prog_7_method_92_code
def yX5_isSpot : MethodName := ⟨RX5, "isSpot", "(I)Z"⟩
abbrev cX5_hold : ByteArray := prog_7_method_93_code
def yX5_hold : MethodName := ⟨RX5, "hold", "(II)I"⟩
abbrev cX5_as : ByteArray := prog_7_method_94_code
def yX5_as : MethodName := ⟨RX5, "as", "(II)I"⟩
abbrev cX5_isSheet : ByteArray := prog_7_method_95_code
def yX5_isSheet : MethodName := ⟨RX5, "isSheet", "(I)Z"⟩
abbrev cX5_cutTo : ByteArray := prog_7_method_96_code
def yX5_cutTo : MethodName := ⟨RX5, "cutTo", "(II)I"⟩
abbrev cX5_sheet : ByteArray := prog_7_method_97_code
def yX5_sheet : MethodName := ⟨RX5, "sheet", "(III)I"⟩
abbrev cX5_write : ByteArray := prog_7_method_98_code
def yX5_write : MethodName := ⟨RX5, "write", "(III)I"⟩
abbrev cX5_copy : ByteArray := prog_7_method_99_code
def yX5_copy : MethodName := ⟨RX5, "copy", "(IIIII)I"⟩
abbrev cX5_load : ByteArray := prog_7_method_100_code
def yX5_load : MethodName := ⟨RX5, "load", "(I)I"⟩
abbrev cX5_judge : ByteArray := prog_7_method_101_code
def yX5_judge : MethodName := ⟨RX5, "judge", "(II)I"⟩
abbrev cX5_image : ByteArray := prog_7_method_102_code
def yX5_image : MethodName := ⟨RX5, "image", "()I"⟩
abbrev cX5_undo : ByteArray := prog_7_method_103_code
def yX5_undo : MethodName := ⟨RX5, "undo", "()I"⟩
abbrev cX5_tear : ByteArray := prog_7_method_104_code
def yX5_tear : MethodName := ⟨RX5, "tear", "()I"⟩
abbrev cX5_count : ByteArray := prog_7_method_105_code
def yX5_count : MethodName := ⟨RX5, "count", "(I)I"⟩
abbrev cX5_status : ByteArray := prog_7_method_106_code
def yX5_status : MethodName := ⟨RX5, "status", "(I)I"⟩
def RJ6 : String := "java/lang/Integer"
def TJ6 : u_T := fun k => match k with
  | _ => ("", "", "", false)
def tyJ6 : Nat → FieldType := fun k => match k with
  | _ => .int
abbrev wsJ60 : List Cond := u_ws RJ6 TJ6 0
theorem nmJ6 : ∀ a, a < 0 → ∀ b, b < 0 → a ≠ b → (TJ6 a).2.1 ≠ (TJ6 b).2.1 := by decide +kernel
theorem tyJ6_ok : ∀ k, k < 0 → parseFieldDescriptor (TJ6 k).2.2.1 = some (tyJ6 k) := by decide +kernel
abbrev cJ6_bitCount_0f7a4 : ByteArray := prog_8_method_49_code
def yJ6_bitCount_0f7a4 : MethodName := ⟨RJ6, "bitCount", "(I)I"⟩
def RJ13 : String := "java/lang/Long"
def TJ13 : u_T := fun k => match k with
  | _ => ("", "", "", false)
def tyJ13 : Nat → FieldType := fun k => match k with
  | _ => .int
abbrev wsJ130 : List Cond := u_ws RJ13 TJ13 0
theorem nmJ13 : ∀ a, a < 0 → ∀ b, b < 0 → a ≠ b → (TJ13 a).2.1 ≠ (TJ13 b).2.1 := by decide +kernel
theorem tyJ13_ok : ∀ k, k < 0 → parseFieldDescriptor (TJ13 k).2.2.1 = some (tyJ13 k) := by decide +kernel
abbrev cJ13_bitCount_95d88 : ByteArray := prog_9_method_50_code
def yJ13_bitCount_95d88 : MethodName := ⟨RJ13, "bitCount", "(J)I"⟩
def RJ9 : String := "java/lang/Math"
def TJ9 : u_T := fun k => match k with
  | _ => ("", "", "", false)
def tyJ9 : Nat → FieldType := fun k => match k with
  | _ => .int
abbrev wsJ90 : List Cond := u_ws RJ9 TJ9 0
theorem nmJ9 : ∀ a, a < 0 → ∀ b, b < 0 → a ≠ b → (TJ9 a).2.1 ≠ (TJ9 b).2.1 := by decide +kernel
theorem tyJ9_ok : ∀ k, k < 0 → parseFieldDescriptor (TJ9 k).2.2.1 = some (tyJ9 k) := by decide +kernel
abbrev cJ9_max_7cf53 : ByteArray := prog_10_method_65_code
def yJ9_max_7cf53 : MethodName := ⟨RJ9, "max", "(II)I"⟩
abbrev cJ9_min_7cf53 : ByteArray := prog_10_method_69_code
def yJ9_min_7cf53 : MethodName := ⟨RJ9, "min", "(II)I"⟩
def RJ0 : String := "java/lang/String"
def TJ0 : u_T := fun k => match k with
  | _ => ("", "", "", false)
def tyJ0 : Nat → FieldType := fun k => match k with
  | _ => .int
abbrev wsJ00 : List Cond := u_ws RJ0 TJ0 0
theorem nmJ0 : ∀ a, a < 0 → ∀ b, b < 0 → a ≠ b → (TJ0 a).2.1 ≠ (TJ0 b).2.1 := by decide +kernel
theorem tyJ0_ok : ∀ k, k < 0 → parseFieldDescriptor (TJ0 k).2.2.1 = some (tyJ0 k) := by decide +kernel
abbrev cJ0_length_8abf5 : ByteArray := prog_11_method_54_code
def yJ0_length_8abf5 : MethodName := ⟨RJ0, "length", "()I"⟩
abbrev cJ0_charAt_5068e : ByteArray := prog_11_method_56_code
def yJ0_charAt_5068e : MethodName := ⟨RJ0, "charAt", "(I)C"⟩
abbrev cJ0_coder_7d493 : ByteArray := prog_11_method_152_code
def yJ0_coder_7d493 : MethodName := ⟨RJ0, "coder", "()B"⟩
abbrev cJ0_isLatin1_aae02 : ByteArray := prog_11_method_154_code
def yJ0_isLatin1_aae02 : MethodName := ⟨RJ0, "isLatin1", "()Z"⟩
abbrev cJ0_checkIndex_df160 : ByteArray := prog_11_method_155_code
def yJ0_checkIndex_df160 : MethodName := ⟨RJ0, "checkIndex", "(II)V"⟩
def RJ1 : String := "java/lang/StringLatin1"
def TJ1 : u_T := fun k => match k with
  | _ => ("", "", "", false)
def tyJ1 : Nat → FieldType := fun k => match k with
  | _ => .int
abbrev wsJ10 : List Cond := u_ws RJ1 TJ1 0
theorem nmJ1 : ∀ a, a < 0 → ∀ b, b < 0 → a ≠ b → (TJ1 a).2.1 ≠ (TJ1 b).2.1 := by decide +kernel
theorem tyJ1_ok : ∀ k, k < 0 → parseFieldDescriptor (TJ1 k).2.2.1 = some (tyJ1 k) := by decide +kernel
abbrev cJ1_charAt_3b067 : ByteArray := prog_12_method_2_code
def yJ1_charAt_3b067 : MethodName := ⟨RJ1, "charAt", "([BI)C"⟩
def RJ2 : String := "java/lang/StringUTF16"
def TJ2 : u_T := fun k => match k with
  | _ => ("", "", "", false)
def tyJ2 : Nat → FieldType := fun k => match k with
  | _ => .int
abbrev wsJ20 : List Cond := u_ws RJ2 TJ2 0
theorem nmJ2 : ∀ a, a < 0 → ∀ b, b < 0 → a ≠ b → (TJ2 a).2.1 ≠ (TJ2 b).2.1 := by decide +kernel
theorem tyJ2_ok : ∀ k, k < 0 → parseFieldDescriptor (TJ2 k).2.2.1 = some (tyJ2 k) := by decide +kernel
abbrev cJ2_getChar_3b067 : ByteArray := prog_13_method_5_code
def yJ2_getChar_3b067 : MethodName := ⟨RJ2, "getChar", "([BI)C"⟩
abbrev cJ2_length_9d52b : ByteArray := prog_13_method_6_code
def yJ2_length_9d52b : MethodName := ⟨RJ2, "length", "([B)I"⟩
abbrev cJ2_charAt_3b067 : ByteArray := prog_13_method_83_code
def yJ2_charAt_3b067 : MethodName := ⟨RJ2, "charAt", "([BI)C"⟩
abbrev cJ2_checkIndex_2214a : ByteArray := prog_13_method_91_code
def yJ2_checkIndex_2214a : MethodName := ⟨RJ2, "checkIndex", "(I[B)V"⟩
def RJ10 : String := "java/lang/System"
def TJ10 : u_T := fun k => match k with
  | _ => ("", "", "", false)
def tyJ10 : Nat → FieldType := fun k => match k with
  | _ => .int
abbrev wsJ100 : List Cond := u_ws RJ10 TJ10 0
theorem nmJ10 : ∀ a, a < 0 → ∀ b, b < 0 → a ≠ b → (TJ10 a).2.1 ≠ (TJ10 b).2.1 := by decide +kernel
theorem tyJ10_ok : ∀ k, k < 0 → parseFieldDescriptor (TJ10 k).2.2.1 = some (tyJ10 k) := by decide +kernel
def RJ3 : String := "jdk/internal/util/Preconditions"
def TJ3 : u_T := fun k => match k with
  | _ => ("", "", "", false)
def tyJ3 : Nat → FieldType := fun k => match k with
  | _ => .int
abbrev wsJ30 : List Cond := u_ws RJ3 TJ3 0
theorem nmJ3 : ∀ a, a < 0 → ∀ b, b < 0 → a ≠ b → (TJ3 a).2.1 ≠ (TJ3 b).2.1 := by decide +kernel
theorem tyJ3_ok : ∀ k, k < 0 → parseFieldDescriptor (TJ3 k).2.2.1 = some (tyJ3 k) := by decide +kernel
abbrev cJ3_checkIndex_8e157 : ByteArray := prog_15_method_11_code
def yJ3_checkIndex_8e157 : MethodName := ⟨RJ3, "checkIndex", "(IILjava/util/function/BiFunction;)I"⟩
def RL : String := "PocketHoleLaw"
abbrev cL_law : ByteArray := code
def yL_law : MethodName := ⟨RL, "law", "([I)Z"⟩
abbrev vwCl : List vw_C := [(RX0, TX0, 8), (RX1, TX1, 8), (RX2, TX2, 3), (RX3, TX3, 6), (RX4, TX4, 9), (RX5, TX5, 27)]
