section
-- ===== PART A: goes FIRST, ahead of the names: the tables' words, and 'selects' of the private methods out of them =====
/-- a private method of a class that the tables say can be made, by its rows of tables_1 -/
def lw_okq (q : MethodName × Nat) : Prop := (q.1.cls ≠ "java/lang/invoke/MethodHandle" ∧ q.1.cls ≠ "java/lang/invoke/VarHandle") ∧ Cond.instantiable q.1.cls q.2 ∈ tables_1 ∧ Cond.privateMethod q.1 ∈ tables_1 ∧ Cond.instanceMethod q.1 ∈ tables_1
theorem lw_p0 : lw_okq (⟨"ThirdSon$Tape", "byteAt", "(I)I"⟩, 6) := ⟨⟨by decide +kernel, by decide +kernel⟩, List.mem_of_getElem? (i := 22) (by decide +kernel), List.mem_of_getElem? (i := 235) (by decide +kernel), List.mem_of_getElem? (i := 236) (by decide +kernel)⟩
theorem lw_p1 : lw_okq (⟨"ThirdSon$Tape", "readName", "()V"⟩, 6) := ⟨⟨by decide +kernel, by decide +kernel⟩, List.mem_of_getElem? (i := 22) (by decide +kernel), List.mem_of_getElem? (i := 242) (by decide +kernel), List.mem_of_getElem? (i := 243) (by decide +kernel)⟩
theorem lw_p2 : lw_okq (⟨"ThirdSon$Tape", "readNumber", "()V"⟩, 6) := ⟨⟨by decide +kernel, by decide +kernel⟩, List.mem_of_getElem? (i := 22) (by decide +kernel), List.mem_of_getElem? (i := 249) (by decide +kernel), List.mem_of_getElem? (i := 250) (by decide +kernel)⟩
theorem lw_p3 : lw_okq (⟨"ThirdSon$Teller", "tellLine", "(LThirdSon$Tape;LThirdSon$Duchy;)Z"⟩, 4) := ⟨⟨by decide +kernel, by decide +kernel⟩, List.mem_of_getElem? (i := 53) (by decide +kernel), List.mem_of_getElem? (i := 253) (by decide +kernel), List.mem_of_getElem? (i := 254) (by decide +kernel)⟩
theorem lw_p4 : lw_okq (⟨"ThirdSon$Teller", "tellOne", "(LThirdSon$Tape;LThirdSon$Duchy;)Z"⟩, 4) := ⟨⟨by decide +kernel, by decide +kernel⟩, List.mem_of_getElem? (i := 53) (by decide +kernel), List.mem_of_getElem? (i := 310) (by decide +kernel), List.mem_of_getElem? (i := 311) (by decide +kernel)⟩
theorem lw_p5 : lw_okq (⟨"ThirdSon$Teller", "fail", "(II)Z"⟩, 4) := ⟨⟨by decide +kernel, by decide +kernel⟩, List.mem_of_getElem? (i := 53) (by decide +kernel), List.mem_of_getElem? (i := 314) (by decide +kernel), List.mem_of_getElem? (i := 315) (by decide +kernel)⟩
theorem lw_p6 : lw_okq (⟨"ThirdSon$Teller", "misplaced", "(LThirdSon$Tape;)Z"⟩, 4) := ⟨⟨by decide +kernel, by decide +kernel⟩, List.mem_of_getElem? (i := 53) (by decide +kernel), List.mem_of_getElem? (i := 327) (by decide +kernel), List.mem_of_getElem? (i := 328) (by decide +kernel)⟩
theorem lw_p7 : lw_okq (⟨"ThirdSon$Teller", "tellFact", "(LThirdSon$Tape;LThirdSon$Duchy;)Z"⟩, 4) := ⟨⟨by decide +kernel, by decide +kernel⟩, List.mem_of_getElem? (i := 53) (by decide +kernel), List.mem_of_getElem? (i := 332) (by decide +kernel), List.mem_of_getElem? (i := 333) (by decide +kernel)⟩
theorem lw_p8 : lw_okq (⟨"ThirdSon$Teller", "number", "(LThirdSon$Tape;II)Z"⟩, 4) := ⟨⟨by decide +kernel, by decide +kernel⟩, List.mem_of_getElem? (i := 53) (by decide +kernel), List.mem_of_getElem? (i := 336) (by decide +kernel), List.mem_of_getElem? (i := 337) (by decide +kernel)⟩
theorem lw_p9 : lw_okq (⟨"ThirdSon$Teller", "stop", "(LThirdSon$Tape;)Z"⟩, 4) := ⟨⟨by decide +kernel, by decide +kernel⟩, List.mem_of_getElem? (i := 53) (by decide +kernel), List.mem_of_getElem? (i := 340) (by decide +kernel), List.mem_of_getElem? (i := 341) (by decide +kernel)⟩
theorem lw_p10 : lw_okq (⟨"ThirdSon$Teller", "tellGone", "(LThirdSon$Tape;LThirdSon$Duchy;)Z"⟩, 4) := ⟨⟨by decide +kernel, by decide +kernel⟩, List.mem_of_getElem? (i := 53) (by decide +kernel), List.mem_of_getElem? (i := 345) (by decide +kernel), List.mem_of_getElem? (i := 346) (by decide +kernel)⟩
theorem lw_p11 : lw_okq (⟨"ThirdSon$Teller", "tellOdds", "(LThirdSon$Tape;LThirdSon$Duchy;)Z"⟩, 4) := ⟨⟨by decide +kernel, by decide +kernel⟩, List.mem_of_getElem? (i := 53) (by decide +kernel), List.mem_of_getElem? (i := 354) (by decide +kernel), List.mem_of_getElem? (i := 355) (by decide +kernel)⟩
theorem lw_p12 : lw_okq (⟨"ThirdSon$Teller", "tellRule", "(LThirdSon$Tape;LThirdSon$Duchy;)Z"⟩, 4) := ⟨⟨by decide +kernel, by decide +kernel⟩, List.mem_of_getElem? (i := 53) (by decide +kernel), List.mem_of_getElem? (i := 362) (by decide +kernel), List.mem_of_getElem? (i := 363) (by decide +kernel)⟩
theorem lw_p13 : lw_okq (⟨"ThirdSon$Teller", "checkWhole", "(LThirdSon$Tape;LThirdSon$Duchy;)V"⟩, 4) := ⟨⟨by decide +kernel, by decide +kernel⟩, List.mem_of_getElem? (i := 53) (by decide +kernel), List.mem_of_getElem? (i := 387) (by decide +kernel), List.mem_of_getElem? (i := 388) (by decide +kernel)⟩
theorem lw_p14 : lw_okq (⟨"ThirdSon", "shortestRow", "(III)I"⟩, 15) := ⟨⟨by decide +kernel, by decide +kernel⟩, List.mem_of_getElem? (i := 14) (by decide +kernel), List.mem_of_getElem? (i := 520) (by decide +kernel), List.mem_of_getElem? (i := 521) (by decide +kernel)⟩
theorem lw_p15 : lw_okq (⟨"ThirdSon", "givingSomewhere", "()I"⟩, 15) := ⟨⟨by decide +kernel, by decide +kernel⟩, List.mem_of_getElem? (i := 14) (by decide +kernel), List.mem_of_getElem? (i := 557) (by decide +kernel), List.mem_of_getElem? (i := 558) (by decide +kernel)⟩
def lw_privs_1 : List (MethodName × Nat) := [(⟨"ThirdSon$Tape", "byteAt", "(I)I"⟩, 6), (⟨"ThirdSon$Tape", "readName", "()V"⟩, 6), (⟨"ThirdSon$Tape", "readNumber", "()V"⟩, 6), (⟨"ThirdSon$Teller", "tellLine", "(LThirdSon$Tape;LThirdSon$Duchy;)Z"⟩, 4), (⟨"ThirdSon$Teller", "tellOne", "(LThirdSon$Tape;LThirdSon$Duchy;)Z"⟩, 4), (⟨"ThirdSon$Teller", "fail", "(II)Z"⟩, 4), (⟨"ThirdSon$Teller", "misplaced", "(LThirdSon$Tape;)Z"⟩, 4), (⟨"ThirdSon$Teller", "tellFact", "(LThirdSon$Tape;LThirdSon$Duchy;)Z"⟩, 4), (⟨"ThirdSon$Teller", "number", "(LThirdSon$Tape;II)Z"⟩, 4), (⟨"ThirdSon$Teller", "stop", "(LThirdSon$Tape;)Z"⟩, 4), (⟨"ThirdSon$Teller", "tellGone", "(LThirdSon$Tape;LThirdSon$Duchy;)Z"⟩, 4), (⟨"ThirdSon$Teller", "tellOdds", "(LThirdSon$Tape;LThirdSon$Duchy;)Z"⟩, 4), (⟨"ThirdSon$Teller", "tellRule", "(LThirdSon$Tape;LThirdSon$Duchy;)Z"⟩, 4), (⟨"ThirdSon$Teller", "checkWhole", "(LThirdSon$Tape;LThirdSon$Duchy;)V"⟩, 4), (⟨"ThirdSon", "shortestRow", "(III)I"⟩, 15), (⟨"ThirdSon", "givingSomewhere", "()I"⟩, 15)]
theorem lw_r1 : ∀ q ∈ lw_privs_1, lw_okq q := List.forall_mem_cons.mpr ⟨lw_p0, List.forall_mem_cons.mpr ⟨lw_p1, List.forall_mem_cons.mpr ⟨lw_p2, List.forall_mem_cons.mpr ⟨lw_p3, List.forall_mem_cons.mpr ⟨lw_p4, List.forall_mem_cons.mpr ⟨lw_p5, List.forall_mem_cons.mpr ⟨lw_p6, List.forall_mem_cons.mpr ⟨lw_p7, List.forall_mem_cons.mpr ⟨lw_p8, List.forall_mem_cons.mpr ⟨lw_p9, List.forall_mem_cons.mpr ⟨lw_p10, List.forall_mem_cons.mpr ⟨lw_p11, List.forall_mem_cons.mpr ⟨lw_p12, List.forall_mem_cons.mpr ⟨lw_p13, List.forall_mem_cons.mpr ⟨lw_p14, List.forall_mem_cons.mpr ⟨lw_p15, fun _ h => absurd h List.not_mem_nil⟩⟩⟩⟩⟩⟩⟩⟩⟩⟩⟩⟩⟩⟩⟩⟩
theorem lw_p16 : lw_okq (⟨"ThirdSon", "givingEverywhere", "()I"⟩, 15) := ⟨⟨by decide +kernel, by decide +kernel⟩, List.mem_of_getElem? (i := 14) (by decide +kernel), List.mem_of_getElem? (i := 569) (by decide +kernel), List.mem_of_getElem? (i := 570) (by decide +kernel)⟩
theorem lw_p17 : lw_okq (⟨"ThirdSon", "rulesAtWork", "(II)I"⟩, 15) := ⟨⟨by decide +kernel, by decide +kernel⟩, List.mem_of_getElem? (i := 14) (by decide +kernel), List.mem_of_getElem? (i := 574) (by decide +kernel), List.mem_of_getElem? (i := 575) (by decide +kernel)⟩
theorem lw_p18 : lw_okq (⟨"ThirdSon", "sameOwnersBy", "(I)Z"⟩, 15) := ⟨⟨by decide +kernel, by decide +kernel⟩, List.mem_of_getElem? (i := 14) (by decide +kernel), List.mem_of_getElem? (i := 588) (by decide +kernel), List.mem_of_getElem? (i := 589) (by decide +kernel)⟩
theorem lw_p19 : lw_okq (⟨"ThirdSon", "waysTo", "(II)J"⟩, 15) := ⟨⟨by decide +kernel, by decide +kernel⟩, List.mem_of_getElem? (i := 14) (by decide +kernel), List.mem_of_getElem? (i := 605) (by decide +kernel), List.mem_of_getElem? (i := 606) (by decide +kernel)⟩
theorem lw_p20 : lw_okq (⟨"ThirdSon", "waysTryingFor", "(IIII)J"⟩, 15) := ⟨⟨by decide +kernel, by decide +kernel⟩, List.mem_of_getElem? (i := 14) (by decide +kernel), List.mem_of_getElem? (i := 623) (by decide +kernel), List.mem_of_getElem? (i := 624) (by decide +kernel)⟩
theorem lw_p21 : lw_okq (⟨"ThirdSon", "waysAtBest", "(III)J"⟩, 15) := ⟨⟨by decide +kernel, by decide +kernel⟩, List.mem_of_getElem? (i := 14) (by decide +kernel), List.mem_of_getElem? (i := 628) (by decide +kernel), List.mem_of_getElem? (i := 629) (by decide +kernel)⟩
theorem lw_p22 : lw_okq (⟨"ThirdSon", "isAsSeen", "(I)Z"⟩, 15) := ⟨⟨by decide +kernel, by decide +kernel⟩, List.mem_of_getElem? (i := 14) (by decide +kernel), List.mem_of_getElem? (i := 647) (by decide +kernel), List.mem_of_getElem? (i := 648) (by decide +kernel)⟩
theorem lw_p23 : lw_okq (⟨"ThirdSon", "image", "(I)LThirdSon$Duchy;"⟩, 15) := ⟨⟨by decide +kernel, by decide +kernel⟩, List.mem_of_getElem? (i := 14) (by decide +kernel), List.mem_of_getElem? (i := 666) (by decide +kernel), List.mem_of_getElem? (i := 667) (by decide +kernel)⟩
theorem lw_p24 : lw_okq (⟨"ThirdSon$Sheets", "isCell", "(II)Z"⟩, 3) := ⟨⟨by decide +kernel, by decide +kernel⟩, List.mem_of_getElem? (i := 74) (by decide +kernel), List.mem_of_getElem? (i := 704) (by decide +kernel), List.mem_of_getElem? (i := 705) (by decide +kernel)⟩
theorem lw_p25 : lw_okq (⟨"ThirdSonModel", "step", "()V"⟩, 34) := ⟨⟨by decide +kernel, by decide +kernel⟩, List.mem_of_getElem? (i := 746) (by decide +kernel), List.mem_of_getElem? (i := 873) (by decide +kernel), List.mem_of_getElem? (i := 874) (by decide +kernel)⟩
theorem lw_p26 : lw_okq (⟨"ThirdSonModel", "byteAt", "(I)I"⟩, 34) := ⟨⟨by decide +kernel, by decide +kernel⟩, List.mem_of_getElem? (i := 746) (by decide +kernel), List.mem_of_getElem? (i := 877) (by decide +kernel), List.mem_of_getElem? (i := 878) (by decide +kernel)⟩
theorem lw_p27 : lw_okq (⟨"ThirdSonModel", "fails", "(I)V"⟩, 34) := ⟨⟨by decide +kernel, by decide +kernel⟩, List.mem_of_getElem? (i := 746) (by decide +kernel), List.mem_of_getElem? (i := 885) (by decide +kernel), List.mem_of_getElem? (i := 886) (by decide +kernel)⟩
theorem lw_p28 : lw_okq (⟨"ThirdSonModel", "readLine", "()V"⟩, 34) := ⟨⟨by decide +kernel, by decide +kernel⟩, List.mem_of_getElem? (i := 746) (by decide +kernel), List.mem_of_getElem? (i := 889) (by decide +kernel), List.mem_of_getElem? (i := 890) (by decide +kernel)⟩
theorem lw_p29 : lw_okq (⟨"ThirdSonModel", "nameHere", "()I"⟩, 34) := ⟨⟨by decide +kernel, by decide +kernel⟩, List.mem_of_getElem? (i := 746) (by decide +kernel), List.mem_of_getElem? (i := 893) (by decide +kernel), List.mem_of_getElem? (i := 894) (by decide +kernel)⟩
theorem lw_p30 : lw_okq (⟨"ThirdSonModel", "readMore", "(I)V"⟩, 34) := ⟨⟨by decide +kernel, by decide +kernel⟩, List.mem_of_getElem? (i := 746) (by decide +kernel), List.mem_of_getElem? (i := 898) (by decide +kernel), List.mem_of_getElem? (i := 899) (by decide +kernel)⟩
theorem lw_p31 : lw_okq (⟨"ThirdSonModel", "other", "(III)I"⟩, 34) := ⟨⟨by decide +kernel, by decide +kernel⟩, List.mem_of_getElem? (i := 746) (by decide +kernel), List.mem_of_getElem? (i := 902) (by decide +kernel), List.mem_of_getElem? (i := 903) (by decide +kernel)⟩
def lw_privs_2 : List (MethodName × Nat) := [(⟨"ThirdSon", "givingEverywhere", "()I"⟩, 15), (⟨"ThirdSon", "rulesAtWork", "(II)I"⟩, 15), (⟨"ThirdSon", "sameOwnersBy", "(I)Z"⟩, 15), (⟨"ThirdSon", "waysTo", "(II)J"⟩, 15), (⟨"ThirdSon", "waysTryingFor", "(IIII)J"⟩, 15), (⟨"ThirdSon", "waysAtBest", "(III)J"⟩, 15), (⟨"ThirdSon", "isAsSeen", "(I)Z"⟩, 15), (⟨"ThirdSon", "image", "(I)LThirdSon$Duchy;"⟩, 15), (⟨"ThirdSon$Sheets", "isCell", "(II)Z"⟩, 3), (⟨"ThirdSonModel", "step", "()V"⟩, 34), (⟨"ThirdSonModel", "byteAt", "(I)I"⟩, 34), (⟨"ThirdSonModel", "fails", "(I)V"⟩, 34), (⟨"ThirdSonModel", "readLine", "()V"⟩, 34), (⟨"ThirdSonModel", "nameHere", "()I"⟩, 34), (⟨"ThirdSonModel", "readMore", "(I)V"⟩, 34), (⟨"ThirdSonModel", "other", "(III)I"⟩, 34)]
theorem lw_r2 : ∀ q ∈ lw_privs_2, lw_okq q := List.forall_mem_cons.mpr ⟨lw_p16, List.forall_mem_cons.mpr ⟨lw_p17, List.forall_mem_cons.mpr ⟨lw_p18, List.forall_mem_cons.mpr ⟨lw_p19, List.forall_mem_cons.mpr ⟨lw_p20, List.forall_mem_cons.mpr ⟨lw_p21, List.forall_mem_cons.mpr ⟨lw_p22, List.forall_mem_cons.mpr ⟨lw_p23, List.forall_mem_cons.mpr ⟨lw_p24, List.forall_mem_cons.mpr ⟨lw_p25, List.forall_mem_cons.mpr ⟨lw_p26, List.forall_mem_cons.mpr ⟨lw_p27, List.forall_mem_cons.mpr ⟨lw_p28, List.forall_mem_cons.mpr ⟨lw_p29, List.forall_mem_cons.mpr ⟨lw_p30, List.forall_mem_cons.mpr ⟨lw_p31, fun _ h => absurd h List.not_mem_nil⟩⟩⟩⟩⟩⟩⟩⟩⟩⟩⟩⟩⟩⟩⟩⟩
theorem lw_p32 : lw_okq (⟨"ThirdSonModel", "person", "(I)I"⟩, 34) := ⟨⟨by decide +kernel, by decide +kernel⟩, List.mem_of_getElem? (i := 746) (by decide +kernel), List.mem_of_getElem? (i := 906) (by decide +kernel), List.mem_of_getElem? (i := 907) (by decide +kernel)⟩
theorem lw_p33 : lw_okq (⟨"ThirdSonModel", "readRule", "()V"⟩, 34) := ⟨⟨by decide +kernel, by decide +kernel⟩, List.mem_of_getElem? (i := 746) (by decide +kernel), List.mem_of_getElem? (i := 910) (by decide +kernel), List.mem_of_getElem? (i := 911) (by decide +kernel)⟩
theorem lw_p34 : lw_okq (⟨"ThirdSonModel", "claimHere", "()I"⟩, 34) := ⟨⟨by decide +kernel, by decide +kernel⟩, List.mem_of_getElem? (i := 746) (by decide +kernel), List.mem_of_getElem? (i := 914) (by decide +kernel), List.mem_of_getElem? (i := 915) (by decide +kernel)⟩
theorem lw_p35 : lw_okq (⟨"ThirdSonModel", "areAlike", "()Z"⟩, 34) := ⟨⟨by decide +kernel, by decide +kernel⟩, List.mem_of_getElem? (i := 746) (by decide +kernel), List.mem_of_getElem? (i := 920) (by decide +kernel), List.mem_of_getElem? (i := 921) (by decide +kernel)⟩
theorem lw_p36 : lw_okq (⟨"ThirdSonModel", "isOne", "(I)Z"⟩, 34) := ⟨⟨by decide +kernel, by decide +kernel⟩, List.mem_of_getElem? (i := 746) (by decide +kernel), List.mem_of_getElem? (i := 936) (by decide +kernel), List.mem_of_getElem? (i := 937) (by decide +kernel)⟩
theorem lw_p37 : lw_okq (⟨"ThirdSonModel", "bornAs", "(II)I"⟩, 34) := ⟨⟨by decide +kernel, by decide +kernel⟩, List.mem_of_getElem? (i := 746) (by decide +kernel), List.mem_of_getElem? (i := 941) (by decide +kernel), List.mem_of_getElem? (i := 942) (by decide +kernel)⟩
theorem lw_p38 : lw_okq (⟨"ThirdSonModel", "childrenOf", "(II)I"⟩, 34) := ⟨⟨by decide +kernel, by decide +kernel⟩, List.mem_of_getElem? (i := 746) (by decide +kernel), List.mem_of_getElem? (i := 948) (by decide +kernel), List.mem_of_getElem? (i := 949) (by decide +kernel)⟩
theorem lw_p39 : lw_okq (⟨"ThirdSonModel", "isRule", "(I)Z"⟩, 34) := ⟨⟨by decide +kernel, by decide +kernel⟩, List.mem_of_getElem? (i := 746) (by decide +kernel), List.mem_of_getElem? (i := 963) (by decide +kernel), List.mem_of_getElem? (i := 964) (by decide +kernel)⟩
theorem lw_p40 : lw_okq (⟨"ThirdSonModel", "whoMeet", "(II)I"⟩, 34) := ⟨⟨by decide +kernel, by decide +kernel⟩, List.mem_of_getElem? (i := 746) (by decide +kernel), List.mem_of_getElem? (i := 968) (by decide +kernel), List.mem_of_getElem? (i := 969) (by decide +kernel)⟩
theorem lw_p41 : lw_okq (⟨"ThirdSonModel", "meets", "(III)Z"⟩, 34) := ⟨⟨by decide +kernel, by decide +kernel⟩, List.mem_of_getElem? (i := 746) (by decide +kernel), List.mem_of_getElem? (i := 972) (by decide +kernel), List.mem_of_getElem? (i := 973) (by decide +kernel)⟩
theorem lw_p42 : lw_okq (⟨"ThirdSonModel", "isAbove", "(II)Z"⟩, 34) := ⟨⟨by decide +kernel, by decide +kernel⟩, List.mem_of_getElem? (i := 746) (by decide +kernel), List.mem_of_getElem? (i := 976) (by decide +kernel), List.mem_of_getElem? (i := 977) (by decide +kernel)⟩
theorem lw_p43 : lw_okq (⟨"ThirdSonModel", "gives", "(II)I"⟩, 34) := ⟨⟨by decide +kernel, by decide +kernel⟩, List.mem_of_getElem? (i := 746) (by decide +kernel), List.mem_of_getElem? (i := 980) (by decide +kernel), List.mem_of_getElem? (i := 981) (by decide +kernel)⟩
theorem lw_p44 : lw_okq (⟨"ThirdSonModel", "givesBy", "(III)I"⟩, 34) := ⟨⟨by decide +kernel, by decide +kernel⟩, List.mem_of_getElem? (i := 746) (by decide +kernel), List.mem_of_getElem? (i := 984) (by decide +kernel), List.mem_of_getElem? (i := 985) (by decide +kernel)⟩
theorem lw_p45 : lw_okq (⟨"ThirdSonModel", "ownerIn", "(II)I"⟩, 34) := ⟨⟨by decide +kernel, by decide +kernel⟩, List.mem_of_getElem? (i := 746) (by decide +kernel), List.mem_of_getElem? (i := 996) (by decide +kernel), List.mem_of_getElem? (i := 997) (by decide +kernel)⟩
theorem lw_p46 : lw_okq (⟨"ThirdSonModel", "ownerBy", "(III)I"⟩, 34) := ⟨⟨by decide +kernel, by decide +kernel⟩, List.mem_of_getElem? (i := 746) (by decide +kernel), List.mem_of_getElem? (i := 1000) (by decide +kernel), List.mem_of_getElem? (i := 1001) (by decide +kernel)⟩
theorem lw_p47 : lw_okq (⟨"ThirdSonModel", "ruleBy", "(IIII)I"⟩, 34) := ⟨⟨by decide +kernel, by decide +kernel⟩, List.mem_of_getElem? (i := 746) (by decide +kernel), List.mem_of_getElem? (i := 1004) (by decide +kernel), List.mem_of_getElem? (i := 1005) (by decide +kernel)⟩
def lw_privs_3 : List (MethodName × Nat) := [(⟨"ThirdSonModel", "person", "(I)I"⟩, 34), (⟨"ThirdSonModel", "readRule", "()V"⟩, 34), (⟨"ThirdSonModel", "claimHere", "()I"⟩, 34), (⟨"ThirdSonModel", "areAlike", "()Z"⟩, 34), (⟨"ThirdSonModel", "isOne", "(I)Z"⟩, 34), (⟨"ThirdSonModel", "bornAs", "(II)I"⟩, 34), (⟨"ThirdSonModel", "childrenOf", "(II)I"⟩, 34), (⟨"ThirdSonModel", "isRule", "(I)Z"⟩, 34), (⟨"ThirdSonModel", "whoMeet", "(II)I"⟩, 34), (⟨"ThirdSonModel", "meets", "(III)Z"⟩, 34), (⟨"ThirdSonModel", "isAbove", "(II)Z"⟩, 34), (⟨"ThirdSonModel", "gives", "(II)I"⟩, 34), (⟨"ThirdSonModel", "givesBy", "(III)I"⟩, 34), (⟨"ThirdSonModel", "ownerIn", "(II)I"⟩, 34), (⟨"ThirdSonModel", "ownerBy", "(III)I"⟩, 34), (⟨"ThirdSonModel", "ruleBy", "(IIII)I"⟩, 34)]
theorem lw_r3 : ∀ q ∈ lw_privs_3, lw_okq q := List.forall_mem_cons.mpr ⟨lw_p32, List.forall_mem_cons.mpr ⟨lw_p33, List.forall_mem_cons.mpr ⟨lw_p34, List.forall_mem_cons.mpr ⟨lw_p35, List.forall_mem_cons.mpr ⟨lw_p36, List.forall_mem_cons.mpr ⟨lw_p37, List.forall_mem_cons.mpr ⟨lw_p38, List.forall_mem_cons.mpr ⟨lw_p39, List.forall_mem_cons.mpr ⟨lw_p40, List.forall_mem_cons.mpr ⟨lw_p41, List.forall_mem_cons.mpr ⟨lw_p42, List.forall_mem_cons.mpr ⟨lw_p43, List.forall_mem_cons.mpr ⟨lw_p44, List.forall_mem_cons.mpr ⟨lw_p45, List.forall_mem_cons.mpr ⟨lw_p46, List.forall_mem_cons.mpr ⟨lw_p47, fun _ h => absurd h List.not_mem_nil⟩⟩⟩⟩⟩⟩⟩⟩⟩⟩⟩⟩⟩⟩⟩⟩
theorem lw_p48 : lw_okq (⟨"ThirdSonModel", "done", "(I)I"⟩, 34) := ⟨⟨by decide +kernel, by decide +kernel⟩, List.mem_of_getElem? (i := 746) (by decide +kernel), List.mem_of_getElem? (i := 1016) (by decide +kernel), List.mem_of_getElem? (i := 1017) (by decide +kernel)⟩
theorem lw_p49 : lw_okq (⟨"ThirdSonModel", "isDeed", "(I)Z"⟩, 34) := ⟨⟨by decide +kernel, by decide +kernel⟩, List.mem_of_getElem? (i := 746) (by decide +kernel), List.mem_of_getElem? (i := 1020) (by decide +kernel), List.mem_of_getElem? (i := 1021) (by decide +kernel)⟩
theorem lw_p50 : lw_okq (⟨"ThirdSonModel", "canDo", "(I)Z"⟩, 34) := ⟨⟨by decide +kernel, by decide +kernel⟩, List.mem_of_getElem? (i := 746) (by decide +kernel), List.mem_of_getElem? (i := 1024) (by decide +kernel), List.mem_of_getElem? (i := 1025) (by decide +kernel)⟩
theorem lw_p51 : lw_okq (⟨"ThirdSonModel", "doesIt", "(I)V"⟩, 34) := ⟨⟨by decide +kernel, by decide +kernel⟩, List.mem_of_getElem? (i := 746) (by decide +kernel), List.mem_of_getElem? (i := 1028) (by decide +kernel), List.mem_of_getElem? (i := 1029) (by decide +kernel)⟩
theorem lw_p52 : lw_okq (⟨"ThirdSonModel", "sets", "(ZII)I"⟩, 34) := ⟨⟨by decide +kernel, by decide +kernel⟩, List.mem_of_getElem? (i := 746) (by decide +kernel), List.mem_of_getElem? (i := 1040) (by decide +kernel), List.mem_of_getElem? (i := 1041) (by decide +kernel)⟩
theorem lw_p53 : lw_okq (⟨"ThirdSonModel", "isHisBy", "(IIII)Z"⟩, 34) := ⟨⟨by decide +kernel, by decide +kernel⟩, List.mem_of_getElem? (i := 746) (by decide +kernel), List.mem_of_getElem? (i := 1066) (by decide +kernel), List.mem_of_getElem? (i := 1067) (by decide +kernel)⟩
theorem lw_p54 : lw_okq (⟨"ThirdSonModel", "copies", "(II)V"⟩, 34) := ⟨⟨by decide +kernel, by decide +kernel⟩, List.mem_of_getElem? (i := 746) (by decide +kernel), List.mem_of_getElem? (i := 1070) (by decide +kernel), List.mem_of_getElem? (i := 1071) (by decide +kernel)⟩
theorem lw_p55 : lw_okq (⟨"ThirdSonModel", "cases", "()I"⟩, 34) := ⟨⟨by decide +kernel, by decide +kernel⟩, List.mem_of_getElem? (i := 746) (by decide +kernel), List.mem_of_getElem? (i := 1086) (by decide +kernel), List.mem_of_getElem? (i := 1087) (by decide +kernel)⟩
theorem lw_p56 : lw_okq (⟨"ThirdSonModel", "isEnough", "(I)Z"⟩, 34) := ⟨⟨by decide +kernel, by decide +kernel⟩, List.mem_of_getElem? (i := 746) (by decide +kernel), List.mem_of_getElem? (i := 1097) (by decide +kernel), List.mem_of_getElem? (i := 1098) (by decide +kernel)⟩
theorem lw_p57 : lw_okq (⟨"ThirdSonModel", "layValues", "(III)V"⟩, 34) := ⟨⟨by decide +kernel, by decide +kernel⟩, List.mem_of_getElem? (i := 746) (by decide +kernel), List.mem_of_getElem? (i := 1125) (by decide +kernel), List.mem_of_getElem? (i := 1126) (by decide +kernel)⟩
theorem lw_p58 : lw_okq (⟨"ThirdSonModel", "stops", "(IIII)J"⟩, 34) := ⟨⟨by decide +kernel, by decide +kernel⟩, List.mem_of_getElem? (i := 746) (by decide +kernel), List.mem_of_getElem? (i := 1129) (by decide +kernel), List.mem_of_getElem? (i := 1130) (by decide +kernel)⟩
theorem lw_p59 : lw_okq (⟨"ThirdSonModel", "triesFor", "(III)J"⟩, 34) := ⟨⟨by decide +kernel, by decide +kernel⟩, List.mem_of_getElem? (i := 746) (by decide +kernel), List.mem_of_getElem? (i := 1138) (by decide +kernel), List.mem_of_getElem? (i := 1139) (by decide +kernel)⟩
def lw_privs_4 : List (MethodName × Nat) := [(⟨"ThirdSonModel", "done", "(I)I"⟩, 34), (⟨"ThirdSonModel", "isDeed", "(I)Z"⟩, 34), (⟨"ThirdSonModel", "canDo", "(I)Z"⟩, 34), (⟨"ThirdSonModel", "doesIt", "(I)V"⟩, 34), (⟨"ThirdSonModel", "sets", "(ZII)I"⟩, 34), (⟨"ThirdSonModel", "isHisBy", "(IIII)Z"⟩, 34), (⟨"ThirdSonModel", "copies", "(II)V"⟩, 34), (⟨"ThirdSonModel", "cases", "()I"⟩, 34), (⟨"ThirdSonModel", "isEnough", "(I)Z"⟩, 34), (⟨"ThirdSonModel", "layValues", "(III)V"⟩, 34), (⟨"ThirdSonModel", "stops", "(IIII)J"⟩, 34), (⟨"ThirdSonModel", "triesFor", "(III)J"⟩, 34)]
theorem lw_r4 : ∀ q ∈ lw_privs_4, lw_okq q := List.forall_mem_cons.mpr ⟨lw_p48, List.forall_mem_cons.mpr ⟨lw_p49, List.forall_mem_cons.mpr ⟨lw_p50, List.forall_mem_cons.mpr ⟨lw_p51, List.forall_mem_cons.mpr ⟨lw_p52, List.forall_mem_cons.mpr ⟨lw_p53, List.forall_mem_cons.mpr ⟨lw_p54, List.forall_mem_cons.mpr ⟨lw_p55, List.forall_mem_cons.mpr ⟨lw_p56, List.forall_mem_cons.mpr ⟨lw_p57, List.forall_mem_cons.mpr ⟨lw_p58, List.forall_mem_cons.mpr ⟨lw_p59, fun _ h => absurd h List.not_mem_nil⟩⟩⟩⟩⟩⟩⟩⟩⟩⟩⟩⟩
def lw_privs : List (MethodName × Nat) := lw_privs_1 ++ (lw_privs_2 ++ (lw_privs_3 ++ (lw_privs_4)))
def lw_tbl : List Cond := k2_sels lw_privs ++ tables_1
theorem lw_privs_ok : ∀ q ∈ lw_privs, lw_okq q := by
  show ∀ q ∈ lw_privs_1 ++ (lw_privs_2 ++ (lw_privs_3 ++ (lw_privs_4))), lw_okq q
  exact List.forall_mem_append.mpr ⟨lw_r1, List.forall_mem_append.mpr ⟨lw_r2, List.forall_mem_append.mpr ⟨lw_r3, lw_r4⟩⟩⟩
end
section
def RX0 : String := "ThirdSon$Duchy"
def TX0 : u_T := fun k => match k with
  | 0 => ("ThirdSon$Duchy", "people", "I", false)
  | 1 => ("ThirdSon$Duchy", "gone", "I", false)
  | 2 => ("ThirdSon$Duchy", "rules", "I", false)
  | 3 => ("ThirdSon$Duchy", "parents", "[I", true)
  | 4 => ("ThirdSon$Duchy", "ancestors", "[I", true)
  | 5 => ("ThirdSon$Duchy", "facts", "[I", true)
  | 6 => ("ThirdSon$Duchy", "tries", "[I", true)
  | 7 => ("ThirdSon$Duchy", "odds", "[I", true)
  | 8 => ("ThirdSon$Duchy", "ranks", "[I", true)
  | 9 => ("ThirdSon$Duchy", "things", "[I", true)
  | 10 => ("ThirdSon$Duchy", "claims", "[I", true)
  | 11 => ("ThirdSon$Duchy", "numbers", "[I", true)
  | _ => ("ThirdSon$Duchy", "picks", "[I", true)
def tyX0 : Nat → FieldType := fun k => match k with
  | 0 => .int
  | 1 => .int
  | 2 => .int
  | 3 => .array .int
  | 4 => .array .int
  | 5 => .array .int
  | 6 => .array .int
  | 7 => .array .int
  | 8 => .array .int
  | 9 => .array .int
  | 10 => .array .int
  | 11 => .array .int
  | _ => .array .int
abbrev wsX00 : List Cond := u_ws RX0 TX0 13
theorem nmX0 : ∀ a, a < 13 → ∀ b, b < 13 → a ≠ b → (TX0 a).2.1 ≠ (TX0 b).2.1 := by decide +kernel
theorem tyX0_ok : ∀ k, k < 13 → parseFieldDescriptor (TX0 k).2.2.1 = some (tyX0 k) := by decide +kernel
def RX1 : String := "ThirdSon$Sheets"
def TX1 : u_T := fun k => match k with
  | 0 => ("ThirdSon$Sheets", "cells", "[[I", true)
  | 1 => ("ThirdSon$Sheets", "lanes", "[I", true)
  | _ => ("ThirdSon$Sheets", "sizes", "[I", true)
def tyX1 : Nat → FieldType := fun k => match k with
  | 0 => .array (.array .int)
  | 1 => .array .int
  | _ => .array .int
abbrev wsX10 : List Cond := u_ws RX1 TX1 3
theorem nmX1 : ∀ a, a < 3 → ∀ b, b < 3 → a ≠ b → (TX1 a).2.1 ≠ (TX1 b).2.1 := by decide +kernel
theorem tyX1_ok : ∀ k, k < 3 → parseFieldDescriptor (TX1 k).2.2.1 = some (tyX1 k) := by decide +kernel
def RX2 : String := "ThirdSon$Tape"
def TX2 : u_T := fun k => match k with
  | 0 => ("ThirdSon$Tape", "bytes", "[B", true)
  | 1 => ("ThirdSon$Tape", "length", "I", false)
  | 2 => ("ThirdSon$Tape", "kind", "I", false)
  | 3 => ("ThirdSon$Tape", "start", "I", false)
  | 4 => ("ThirdSon$Tape", "value", "I", false)
  | _ => ("ThirdSon$Tape", "at", "I", false)
def tyX2 : Nat → FieldType := fun k => match k with
  | 0 => .array .byte
  | 1 => .int
  | 2 => .int
  | 3 => .int
  | 4 => .int
  | _ => .int
abbrev wsX20 : List Cond := u_ws RX2 TX2 6
theorem nmX2 : ∀ a, a < 6 → ∀ b, b < 6 → a ≠ b → (TX2 a).2.1 ≠ (TX2 b).2.1 := by decide +kernel
theorem tyX2_ok : ∀ k, k < 6 → parseFieldDescriptor (TX2 k).2.2.1 = some (tyX2 k) := by decide +kernel
def RX3 : String := "ThirdSon$Teller"
def TX3 : u_T := fun k => match k with
  | 0 => ("ThirdSon$Teller", "fault", "I", false)
  | 1 => ("ThirdSon$Teller", "place", "I", false)
  | 2 => ("ThirdSon$Teller", "named", "I", false)
  | _ => ("ThirdSon$Teller", "weighed", "I", false)
def tyX3 : Nat → FieldType := fun k => match k with
  | 0 => .int
  | 1 => .int
  | 2 => .int
  | _ => .int
abbrev wsX30 : List Cond := u_ws RX3 TX3 4
theorem nmX3 : ∀ a, a < 4 → ∀ b, b < 4 → a ≠ b → (TX3 a).2.1 ≠ (TX3 b).2.1 := by decide +kernel
theorem tyX3_ok : ∀ k, k < 4 → parseFieldDescriptor (TX3 k).2.2.1 = some (tyX3 k) := by decide +kernel
def RX4 : String := "ThirdSon"
def TX4 : u_T := fun k => match k with
  | 0 => ("ThirdSon", "tape", "LThirdSon$Tape;", true)
  | 1 => ("ThirdSon", "teller", "LThirdSon$Teller;", true)
  | 2 => ("ThirdSon", "sheets", "LThirdSon$Sheets;", true)
  | 3 => ("ThirdSon", "firstImage", "LThirdSon$Duchy;", true)
  | 4 => ("ThirdSon", "secondImage", "LThirdSon$Duchy;", true)
  | 5 => ("ThirdSon", "trial", "LThirdSon$Duchy;", true)
  | 6 => ("ThirdSon", "row", "[I", true)
  | 7 => ("ThirdSon", "seenThings", "[I", true)
  | 8 => ("ThirdSon", "seenOwners", "[I", true)
  | 9 => ("ThirdSon", "duchy", "LThirdSon$Duchy;", false)
  | 10 => ("ThirdSon", "draft", "LThirdSon$Duchy;", false)
  | 11 => ("ThirdSon", "textFault", "I", false)
  | 12 => ("ThirdSon", "readFault", "I", false)
  | 13 => ("ThirdSon", "seen", "I", false)
  | _ => ("ThirdSon", "kept", "I", false)
def tyX4 : Nat → FieldType := fun k => match k with
  | 0 => .object "ThirdSon$Tape"
  | 1 => .object "ThirdSon$Teller"
  | 2 => .object "ThirdSon$Sheets"
  | 3 => .object "ThirdSon$Duchy"
  | 4 => .object "ThirdSon$Duchy"
  | 5 => .object "ThirdSon$Duchy"
  | 6 => .array .int
  | 7 => .array .int
  | 8 => .array .int
  | 9 => .object "ThirdSon$Duchy"
  | 10 => .object "ThirdSon$Duchy"
  | 11 => .int
  | 12 => .int
  | 13 => .int
  | _ => .int
abbrev wsX40 : List Cond := u_ws RX4 TX4 15
theorem nmX4 : ∀ a, a < 15 → ∀ b, b < 15 → a ≠ b → (TX4 a).2.1 ≠ (TX4 b).2.1 := by decide +kernel
theorem tyX4_ok : ∀ k, k < 15 → parseFieldDescriptor (TX4 k).2.2.1 = some (tyX4 k) := by decide +kernel
def RX5 : String := "ThirdSonModel"
def TX5 : u_T := fun k => match k with
  | 0 => ("ThirdSonModel", "state", "[I", true)
  | 1 => ("ThirdSonModel", "parents", "[I", true)
  | 2 => ("ThirdSonModel", "rules", "[I", true)
  | 3 => ("ThirdSonModel", "oneMany", "I", false)
  | 4 => ("ThirdSonModel", "ruleMany", "I", false)
  | 5 => ("ThirdSonModel", "readPage", "[I", true)
  | 6 => ("ThirdSonModel", "readParents", "[I", true)
  | 7 => ("ThirdSonModel", "readRules", "[I", true)
  | 8 => ("ThirdSonModel", "readOnes", "I", false)
  | 9 => ("ThirdSonModel", "readMany", "I", false)
  | 10 => ("ThirdSonModel", "oddsTold", "I", false)
  | 11 => ("ThirdSonModel", "highOne", "I", false)
  | 12 => ("ThirdSonModel", "tape", "[I", true)
  | 13 => ("ThirdSonModel", "taped", "I", false)
  | 14 => ("ThirdSonModel", "fault", "I", false)
  | 15 => ("ThirdSonModel", "broken", "I", false)
  | 16 => ("ThirdSonModel", "brokenAt", "I", false)
  | 17 => ("ThirdSonModel", "spot", "I", false)
  | 18 => ("ThirdSonModel", "here", "I", false)
  | 19 => ("ThirdSonModel", "token", "I", false)
  | 20 => ("ThirdSonModel", "value", "I", false)
  | 21 => ("ThirdSonModel", "cuts", "[I", true)
  | 22 => ("ThirdSonModel", "letters", "[I", true)
  | 23 => ("ThirdSonModel", "mosts", "[I", true)
  | 24 => ("ThirdSonModel", "row", "[I", true)
  | 25 => ("ThirdSonModel", "block", "I", false)
  | 26 => ("ThirdSonModel", "values", "[J", true)
  | 27 => ("ThirdSonModel", "seen", "[I", true)
  | 28 => ("ThirdSonModel", "seenMany", "I", false)
  | 29 => ("ThirdSonModel", "isKept", "[Z", true)
  | 30 => ("ThirdSonModel", "lanes", "[I", true)
  | 31 => ("ThirdSonModel", "lengths", "[I", true)
  | 32 => ("ThirdSonModel", "cells", "[I", true)
  | _ => ("ThirdSonModel", "torn", "I", false)
def tyX5 : Nat → FieldType := fun k => match k with
  | 0 => .array .int
  | 1 => .array .int
  | 2 => .array .int
  | 3 => .int
  | 4 => .int
  | 5 => .array .int
  | 6 => .array .int
  | 7 => .array .int
  | 8 => .int
  | 9 => .int
  | 10 => .int
  | 11 => .int
  | 12 => .array .int
  | 13 => .int
  | 14 => .int
  | 15 => .int
  | 16 => .int
  | 17 => .int
  | 18 => .int
  | 19 => .int
  | 20 => .int
  | 21 => .array .int
  | 22 => .array .int
  | 23 => .array .int
  | 24 => .array .int
  | 25 => .int
  | 26 => .array .long
  | 27 => .array .int
  | 28 => .int
  | 29 => .array .boolean
  | 30 => .array .int
  | 31 => .array .int
  | 32 => .array .int
  | _ => .int
abbrev wsX50 : List Cond := u_ws RX5 TX5 34
theorem nmX5 : ∀ a, a < 34 → ∀ b, b < 34 → a ≠ b → (TX5 a).2.1 ≠ (TX5 b).2.1 := by decide +kernel
theorem tyX5_ok : ∀ k, k < 34 → parseFieldDescriptor (TX5 k).2.2.1 = some (tyX5 k) := by decide +kernel
def RJ6 : String := "java/lang/Integer"
def RJ9 : String := "java/lang/Math"
def RJ0 : String := "java/lang/String"
def RJ1 : String := "java/lang/StringLatin1"
def RJ2 : String := "java/lang/StringUTF16"
def RJ3 : String := "jdk/internal/util/Preconditions"
def RL : String := "ThirdSonLaw"
abbrev zq_M : Type := MethodName × ByteArray × Nat × Option FieldType
def zm_D_init : zq_M := (⟨"ThirdSon$Duchy", "<init>", "()V"⟩, prog_2_method_1_code, 1, none)
def zm_D_clear : zq_M := (⟨"ThirdSon$Duchy", "clear", "()V"⟩, prog_2_method_2_code, 2, none)
def zm_D_copyFrom : zq_M := (⟨"ThirdSon$Duchy", "copyFrom", "(LThirdSon$Duchy;)V"⟩, prog_2_method_3_code, 3, none)
def zm_D_addOne : zq_M := (⟨"ThirdSon$Duchy", "addOne", "(I)V"⟩, prog_2_method_4_code, 2, none)
def zm_D_addRule : zq_M := (⟨"ThirdSon$Duchy", "addRule", "(IIIII)V"⟩, prog_2_method_5_code, 6, none)
def zm_D_isOne : zq_M := (⟨"ThirdSon$Duchy", "isOne", "(I)Z"⟩, prog_2_method_6_code, 2, some .boolean)
def zm_D_isRule : zq_M := (⟨"ThirdSon$Duchy", "isRule", "(I)Z"⟩, prog_2_method_7_code, 2, some .boolean)
def zm_D_isGone : zq_M := (⟨"ThirdSon$Duchy", "isGone", "(I)Z"⟩, prog_2_method_8_code, 2, some .boolean)
def zm_D_isKnown : zq_M := (⟨"ThirdSon$Duchy", "isKnown", "(II)Z"⟩, prog_2_method_9_code, 3, some .boolean)
def zm_D_everybody : zq_M := (⟨"ThirdSon$Duchy", "everybody", "()I"⟩, prog_2_method_10_code, 1, some .int)
def zm_D_allRules : zq_M := (⟨"ThirdSon$Duchy", "allRules", "()I"⟩, prog_2_method_11_code, 1, some .int)
def zm_D_cases : zq_M := (⟨"ThirdSon$Duchy", "cases", "()I"⟩, prog_2_method_12_code, 1, some .int)
def zm_D_placeAmongBorn : zq_M := (⟨"ThirdSon$Duchy", "placeAmongBorn", "(II)I"⟩, prog_2_method_13_code, 5, some .int)
def zm_D_childrenLeft : zq_M := (⟨"ThirdSon$Duchy", "childrenLeft", "(II)I"⟩, prog_2_method_14_code, 5, some .int)
def zm_D_meets : zq_M := (⟨"ThirdSon$Duchy", "meets", "(III)Z"⟩, prog_2_method_15_code, 5, some .boolean)
def zm_D_whoMeet : zq_M := (⟨"ThirdSon$Duchy", "whoMeet", "(II)I"⟩, prog_2_method_16_code, 5, some .int)
def zm_D_receiver : zq_M := (⟨"ThirdSon$Duchy", "receiver", "(II)I"⟩, prog_2_method_17_code, 6, some .int)
def zm_D_rightOn : zq_M := (⟨"ThirdSon$Duchy", "rightOn", "(III)I"⟩, prog_2_method_18_code, 7, some .int)
def zm_D_ownerIn : zq_M := (⟨"ThirdSon$Duchy", "ownerIn", "(III)I"⟩, prog_2_method_19_code, 4, some .int)
def zm_D_ownerNow : zq_M := (⟨"ThirdSon$Duchy", "ownerNow", "(I)I"⟩, prog_2_method_20_code, 2, some .int)
def zm_D_thingsOf : zq_M := (⟨"ThirdSon$Duchy", "thingsOf", "(I)I"⟩, prog_2_method_21_code, 4, some .int)
def zm_D_givingRules : zq_M := (⟨"ThirdSon$Duchy", "givingRules", "(I)I"⟩, prog_2_method_22_code, 4, some .int)
def zm_D_act : zq_M := (⟨"ThirdSon$Duchy", "act", "(I)I"⟩, prog_2_method_23_code, 4, some .int)
def zm_D_takeBack : zq_M := (⟨"ThirdSon$Duchy", "takeBack", "(I)V"⟩, prog_2_method_24_code, 4, none)
def zm_D_hasEqualRanks : zq_M := (⟨"ThirdSon$Duchy", "hasEqualRanks", "()Z"⟩, prog_2_method_25_code, 3, some .boolean)
def zm_D_ownedThings : zq_M := (⟨"ThirdSon$Duchy", "ownedThings", "()I"⟩, prog_2_method_26_code, 3, some .int)
def zm_D_knownFacts : zq_M := (⟨"ThirdSon$Duchy", "knownFacts", "()I"⟩, prog_2_method_27_code, 3, some .int)
def zm_D_allTries : zq_M := (⟨"ThirdSon$Duchy", "allTries", "()I"⟩, prog_2_method_28_code, 3, some .int)
def zm_H_init : zq_M := (⟨"ThirdSon$Sheets", "<init>", "()V"⟩, prog_3_method_1_code, 1, none)
def zm_H_isSheet : zq_M := (⟨"ThirdSon$Sheets", "isSheet", "(I)Z"⟩, prog_3_method_2_code, 2, some .boolean)
def zm_H_isLane : zq_M := (⟨"ThirdSon$Sheets", "isLane", "(I)Z"⟩, prog_3_method_3_code, 2, some .boolean)
def zm_H_laneOf : zq_M := (⟨"ThirdSon$Sheets", "laneOf", "(I)I"⟩, prog_3_method_4_code, 2, some .int)
def zm_H_sizeOf : zq_M := (⟨"ThirdSon$Sheets", "sizeOf", "(I)I"⟩, prog_3_method_5_code, 2, some .int)
def zm_H_renew : zq_M := (⟨"ThirdSon$Sheets", "renew", "(III)V"⟩, prog_3_method_6_code, 5, none)
def zm_H_faultAt : zq_M := (⟨"ThirdSon$Sheets", "faultAt", "(III)I"⟩, prog_3_method_7_code, 4, some .int)
def zm_H_put : zq_M := (⟨"ThirdSon$Sheets", "put", "(III)V"⟩, prog_3_method_8_code, 4, none)
def zm_H_cell : zq_M := (⟨"ThirdSon$Sheets", "cell", "(II)I"⟩, prog_3_method_9_code, 3, some .int)
def zm_H_isCell : zq_M := (⟨"ThirdSon$Sheets", "isCell", "(II)Z"⟩, prog_3_method_10_code, 3, some .boolean)
def zm_P_init : zq_M := (⟨"ThirdSon$Tape", "<init>", "()V"⟩, prog_4_method_1_code, 1, none)
def zm_P_append : zq_M := (⟨"ThirdSon$Tape", "append", "(I)Z"⟩, prog_4_method_2_code, 2, some .boolean)
def zm_P_rewind : zq_M := (⟨"ThirdSon$Tape", "rewind", "()V"⟩, prog_4_method_3_code, 1, none)
def zm_P_advance : zq_M := (⟨"ThirdSon$Tape", "advance", "()V"⟩, prog_4_method_4_code, 2, none)
def zm_P_isWord : zq_M := (⟨"ThirdSon$Tape", "isWord", "(Ljava/lang/String;)Z"⟩, prog_4_method_5_code, 3, some .boolean)
def zm_P_readName : zq_M := (⟨"ThirdSon$Tape", "readName", "()V"⟩, prog_4_method_6_code, 1, none)
def zm_P_readNumber : zq_M := (⟨"ThirdSon$Tape", "readNumber", "()V"⟩, prog_4_method_7_code, 1, none)
def zm_P_byteAt : zq_M := (⟨"ThirdSon$Tape", "byteAt", "(I)I"⟩, prog_4_method_8_code, 2, some .int)
def zm_P_isLetter : zq_M := (⟨"ThirdSon$Tape", "isLetter", "(I)Z"⟩, prog_4_method_9_code, 1, some .boolean)
def zm_P_isFigure : zq_M := (⟨"ThirdSon$Tape", "isFigure", "(I)Z"⟩, prog_4_method_10_code, 1, some .boolean)
def zm_E_init : zq_M := (⟨"ThirdSon$Teller", "<init>", "()V"⟩, prog_5_method_1_code, 1, none)
def zm_E_tell : zq_M := (⟨"ThirdSon$Teller", "tell", "(LThirdSon$Tape;LThirdSon$Duchy;)I"⟩, prog_5_method_2_code, 4, some .int)
def zm_E_checkWhole : zq_M := (⟨"ThirdSon$Teller", "checkWhole", "(LThirdSon$Tape;LThirdSon$Duchy;)V"⟩, prog_5_method_3_code, 3, none)
def zm_E_tellLine : zq_M := (⟨"ThirdSon$Teller", "tellLine", "(LThirdSon$Tape;LThirdSon$Duchy;)Z"⟩, prog_5_method_4_code, 3, some .boolean)
def zm_E_tellOne : zq_M := (⟨"ThirdSon$Teller", "tellOne", "(LThirdSon$Tape;LThirdSon$Duchy;)Z"⟩, prog_5_method_5_code, 4, some .boolean)
def zm_E_tellFact : zq_M := (⟨"ThirdSon$Teller", "tellFact", "(LThirdSon$Tape;LThirdSon$Duchy;)Z"⟩, prog_5_method_6_code, 4, some .boolean)
def zm_E_tellGone : zq_M := (⟨"ThirdSon$Teller", "tellGone", "(LThirdSon$Tape;LThirdSon$Duchy;)Z"⟩, prog_5_method_7_code, 3, some .boolean)
def zm_E_tellOdds : zq_M := (⟨"ThirdSon$Teller", "tellOdds", "(LThirdSon$Tape;LThirdSon$Duchy;)Z"⟩, prog_5_method_8_code, 4, some .boolean)
def zm_E_tellRule : zq_M := (⟨"ThirdSon$Teller", "tellRule", "(LThirdSon$Tape;LThirdSon$Duchy;)Z"⟩, prog_5_method_9_code, 8, some .boolean)
def zm_E_claimNamed : zq_M := (⟨"ThirdSon$Teller", "claimNamed", "(LThirdSon$Tape;)I"⟩, prog_5_method_10_code, 1, some .int)
def zm_E_mostOf : zq_M := (⟨"ThirdSon$Teller", "mostOf", "(I)I"⟩, prog_5_method_11_code, 1, some .int)
def zm_E_pickNamed : zq_M := (⟨"ThirdSon$Teller", "pickNamed", "(LThirdSon$Tape;)I"⟩, prog_5_method_12_code, 1, some .int)
def zm_E_number : zq_M := (⟨"ThirdSon$Teller", "number", "(LThirdSon$Tape;II)Z"⟩, prog_5_method_13_code, 4, some .boolean)
def zm_E_stop : zq_M := (⟨"ThirdSon$Teller", "stop", "(LThirdSon$Tape;)Z"⟩, prog_5_method_14_code, 2, some .boolean)
def zm_E_misplaced : zq_M := (⟨"ThirdSon$Teller", "misplaced", "(LThirdSon$Tape;)Z"⟩, prog_5_method_15_code, 2, some .boolean)
def zm_E_fail : zq_M := (⟨"ThirdSon$Teller", "fail", "(II)Z"⟩, prog_5_method_16_code, 3, some .boolean)
def zm_S_init : zq_M := (⟨"ThirdSon", "<init>", "()V"⟩, prog_1_method_1_code, 1, none)
def zm_S_feed : zq_M := (⟨"ThirdSon", "feed", "(I)I"⟩, prog_1_method_2_code, 2, some .int)
def zm_S_end : zq_M := (⟨"ThirdSon", "end", "(I)I"⟩, prog_1_method_3_code, 3, some .int)
def zm_S_text : zq_M := (⟨"ThirdSon", "text", "()I"⟩, prog_1_method_4_code, 3, some .int)
def zm_S_fault : zq_M := (⟨"ThirdSon", "fault", "()I"⟩, prog_1_method_5_code, 1, some .int)
def zm_S_rule : zq_M := (⟨"ThirdSon", "rule", "(I)I"⟩, prog_1_method_6_code, 2, some .int)
def zm_S_one : zq_M := (⟨"ThirdSon", "one", "(II)I"⟩, prog_1_method_7_code, 3, some .int)
def zm_S_odd : zq_M := (⟨"ThirdSon", "odd", "(I)I"⟩, prog_1_method_8_code, 2, some .int)
def zm_S_law : zq_M := (⟨"ThirdSon", "law", "(II)I"⟩, prog_1_method_9_code, 3, some .int)
def zm_S_owner : zq_M := (⟨"ThirdSon", "owner", "(I)I"⟩, prog_1_method_10_code, 2, some .int)
def zm_S_by : zq_M := (⟨"ThirdSon", "by", "(I)I"⟩, prog_1_method_11_code, 2, some .int)
def zm_S_does : zq_M := (⟨"ThirdSon", "does", "(I)I"⟩, prog_1_method_12_code, 2, some .int)
def zm_S_comes : zq_M := (⟨"ThirdSon", "comes", "(I)I"⟩, prog_1_method_13_code, 3, some .int)
def zm_S_tries : zq_M := (⟨"ThirdSon", "tries", "(II)I"⟩, prog_1_method_14_code, 4, some .int)
def zm_S_hush : zq_M := (⟨"ThirdSon", "hush", "(II)I"⟩, prog_1_method_15_code, 4, some .int)
def zm_S_weigh : zq_M := (⟨"ThirdSon", "weigh", "(II)I"⟩, prog_1_method_16_code, 4, some .int)
def zm_S_rank : zq_M := (⟨"ThirdSon", "rank", "(II)I"⟩, prog_1_method_17_code, 4, some .int)
def zm_S_pick : zq_M := (⟨"ThirdSon", "pick", "(II)I"⟩, prog_1_method_18_code, 4, some .int)
def zm_S_claim : zq_M := (⟨"ThirdSon", "claim", "(IIII)I"⟩, prog_1_method_19_code, 7, some .int)
def zm_S_pivot : zq_M := (⟨"ThirdSon", "pivot", "(I)I"⟩, prog_1_method_20_code, 6, some .int)
def zm_S_spoils : zq_M := (⟨"ThirdSon", "spoils", "(I)I"⟩, prog_1_method_21_code, 6, some .int)
def zm_S_dead : zq_M := (⟨"ThirdSon", "dead", "(I)I"⟩, prog_1_method_22_code, 3, some .int)
def zm_S_least : zq_M := (⟨"ThirdSon", "least", "(I)I"⟩, prog_1_method_23_code, 5, some .int)
def zm_S_who : zq_M := (⟨"ThirdSon", "who", "(I)I"⟩, prog_1_method_24_code, 5, some .int)
def zm_S_via : zq_M := (⟨"ThirdSon", "via", "(II)I"⟩, prog_1_method_25_code, 3, some .int)
def zm_S_odds : zq_M := (⟨"ThirdSon", "odds", "(IIII)J"⟩, prog_1_method_26_code, 8, some .long)
def zm_S_turn : zq_M := (⟨"ThirdSon", "turn", "(II)I"⟩, prog_1_method_27_code, 4, some .int)
def zm_S_best : zq_M := (⟨"ThirdSon", "best", "(IIII)J"⟩, prog_1_method_28_code, 11, some .long)
def zm_S_see : zq_M := (⟨"ThirdSon", "see", "(II)I"⟩, prog_1_method_29_code, 3, some .int)
def zm_S_forget : zq_M := (⟨"ThirdSon", "forget", "(I)I"⟩, prog_1_method_30_code, 3, some .int)
def zm_S_fits : zq_M := (⟨"ThirdSon", "fits", "(I)I"⟩, prog_1_method_31_code, 7, some .int)
def zm_S_drift : zq_M := (⟨"ThirdSon", "drift", "(III)I"⟩, prog_1_method_32_code, 10, some .int)
def zm_S_keep : zq_M := (⟨"ThirdSon", "keep", "(I)I"⟩, prog_1_method_33_code, 3, some .int)
def zm_S_back : zq_M := (⟨"ThirdSon", "back", "(I)I"⟩, prog_1_method_34_code, 2, some .int)
def zm_S_sheet : zq_M := (⟨"ThirdSon", "sheet", "(III)I"⟩, prog_1_method_35_code, 4, some .int)
def zm_S_lay : zq_M := (⟨"ThirdSon", "lay", "(III)I"⟩, prog_1_method_36_code, 5, some .int)
def zm_S_read : zq_M := (⟨"ThirdSon", "read", "(IIII)I"⟩, prog_1_method_37_code, 7, some .int)
def zm_S_torn : zq_M := (⟨"ThirdSon", "torn", "()I"⟩, prog_1_method_38_code, 1, some .int)
def zm_S_count : zq_M := (⟨"ThirdSon", "count", "(I)I"⟩, prog_1_method_39_code, 2, some .int)
def zm_S_isFact : zq_M := (⟨"ThirdSon", "isFact", "(I)Z"⟩, prog_1_method_40_code, 1, some .boolean)
def zm_S_isThing : zq_M := (⟨"ThirdSon", "isThing", "(I)Z"⟩, prog_1_method_41_code, 1, some .boolean)
def zm_S_isPick : zq_M := (⟨"ThirdSon", "isPick", "(I)Z"⟩, prog_1_method_42_code, 1, some .boolean)
def zm_S_shortestRow : zq_M := (⟨"ThirdSon", "shortestRow", "(III)I"⟩, prog_1_method_43_code, 5, some .int)
def zm_S_findRow : zq_M := (⟨"ThirdSon", "findRow", "(LThirdSon$Duchy;[IIIIII)Z"⟩, prog_1_method_44_code, 9, some .boolean)
def zm_S_givingSomewhere : zq_M := (⟨"ThirdSon", "givingSomewhere", "()I"⟩, prog_1_method_45_code, 3, some .int)
def zm_S_givingEverywhere : zq_M := (⟨"ThirdSon", "givingEverywhere", "()I"⟩, prog_1_method_46_code, 3, some .int)
def zm_S_rulesAtWork : zq_M := (⟨"ThirdSon", "rulesAtWork", "(II)I"⟩, prog_1_method_47_code, 7, some .int)
def zm_S_sameOwnersBy : zq_M := (⟨"ThirdSon", "sameOwnersBy", "(I)Z"⟩, prog_1_method_48_code, 4, some .boolean)
def zm_S_waysTo : zq_M := (⟨"ThirdSon", "waysTo", "(II)J"⟩, prog_1_method_49_code, 5, some .long)
def zm_S_isAsSeen : zq_M := (⟨"ThirdSon", "isAsSeen", "(I)Z"⟩, prog_1_method_50_code, 3, some .boolean)
def zm_S_waysAtBest : zq_M := (⟨"ThirdSon", "waysAtBest", "(III)J"⟩, prog_1_method_51_code, 8, some .long)
def zm_S_waysTryingFor : zq_M := (⟨"ThirdSon", "waysTryingFor", "(IIII)J"⟩, prog_1_method_52_code, 10, some .long)
def zm_S_image : zq_M := (⟨"ThirdSon", "image", "(I)LThirdSon$Duchy;"⟩, prog_1_method_53_code, 2, some (.object "ThirdSon$Duchy"))
def zm_S_nextSeed : zq_M := (⟨"ThirdSon", "nextSeed", "(I)I"⟩, prog_1_method_54_code, 1, some .int)
def zm_S_drawn : zq_M := (⟨"ThirdSon", "drawn", "(I)I"⟩, prog_1_method_55_code, 1, some .int)
def zm_S_power : zq_M := (⟨"ThirdSon", "power", "(II)J"⟩, prog_1_method_56_code, 5, some .long)
def zm_S_lowestTerms : zq_M := (⟨"ThirdSon", "lowestTerms", "(JJI)J"⟩, prog_1_method_57_code, 12, some .long)
def zm_M_init : zq_M := (⟨"ThirdSonModel", "<init>", "()V"⟩, prog_7_method_1_code, 1, none)
def zm_M_in : zq_M := (⟨"ThirdSonModel", "in", "(JJJ)Z"⟩, prog_7_method_3_code, 6, some .boolean)
def zm_M_feed : zq_M := (⟨"ThirdSonModel", "feed", "(I)I"⟩, prog_7_method_4_code, 2, some .int)
def zm_M_end : zq_M := (⟨"ThirdSonModel", "end", "(I)I"⟩, prog_7_method_5_code, 3, some .int)
def zm_M_byteAt : zq_M := (⟨"ThirdSonModel", "byteAt", "(I)I"⟩, prog_7_method_6_code, 2, some .int)
def zm_M_fails : zq_M := (⟨"ThirdSonModel", "fails", "(I)V"⟩, prog_7_method_7_code, 2, none)
def zm_M_nameHere : zq_M := (⟨"ThirdSonModel", "nameHere", "()I"⟩, prog_7_method_8_code, 4, some .int)
def zm_M_step : zq_M := (⟨"ThirdSonModel", "step", "()V"⟩, prog_7_method_9_code, 2, none)
def zm_M_other : zq_M := (⟨"ThirdSonModel", "other", "(III)I"⟩, prog_7_method_10_code, 5, some .int)
def zm_M_person : zq_M := (⟨"ThirdSonModel", "person", "(I)I"⟩, prog_7_method_11_code, 3, some .int)
def zm_M_claimHere : zq_M := (⟨"ThirdSonModel", "claimHere", "()I"⟩, prog_7_method_12_code, 3, some .int)
def zm_M_readRule : zq_M := (⟨"ThirdSonModel", "readRule", "()V"⟩, prog_7_method_13_code, 4, none)
def zm_M_readMore : zq_M := (⟨"ThirdSonModel", "readMore", "(I)V"⟩, prog_7_method_14_code, 3, none)
def zm_M_readLine : zq_M := (⟨"ThirdSonModel", "readLine", "()V"⟩, prog_7_method_15_code, 2, none)
def zm_M_areAlike : zq_M := (⟨"ThirdSonModel", "areAlike", "()Z"⟩, prog_7_method_16_code, 4, some .boolean)
def zm_M_text : zq_M := (⟨"ThirdSonModel", "text", "()I"⟩, prog_7_method_17_code, 3, some .int)
def zm_M_fault : zq_M := (⟨"ThirdSonModel", "fault", "()I"⟩, prog_7_method_18_code, 1, some .int)
def zm_M_isOne : zq_M := (⟨"ThirdSonModel", "isOne", "(I)Z"⟩, prog_7_method_19_code, 2, some .boolean)
def zm_M_isRule : zq_M := (⟨"ThirdSonModel", "isRule", "(I)Z"⟩, prog_7_method_20_code, 2, some .boolean)
def zm_M_isThing : zq_M := (⟨"ThirdSonModel", "isThing", "(I)Z"⟩, prog_7_method_21_code, 1, some .boolean)
def zm_M_isFact : zq_M := (⟨"ThirdSonModel", "isFact", "(I)Z"⟩, prog_7_method_22_code, 1, some .boolean)
def zm_M_isThere : zq_M := (⟨"ThirdSonModel", "isThere", "(II)Z"⟩, prog_7_method_23_code, 2, some .boolean)
def zm_M_rule : zq_M := (⟨"ThirdSonModel", "rule", "(I)I"⟩, prog_7_method_24_code, 2, some .int)
def zm_M_bornAs : zq_M := (⟨"ThirdSonModel", "bornAs", "(II)I"⟩, prog_7_method_25_code, 5, some .int)
def zm_M_childrenOf : zq_M := (⟨"ThirdSonModel", "childrenOf", "(II)I"⟩, prog_7_method_26_code, 5, some .int)
def zm_M_isAbove : zq_M := (⟨"ThirdSonModel", "isAbove", "(II)Z"⟩, prog_7_method_27_code, 4, some .boolean)
def zm_M_meets : zq_M := (⟨"ThirdSonModel", "meets", "(III)Z"⟩, prog_7_method_28_code, 5, some .boolean)
def zm_M_whoMeet : zq_M := (⟨"ThirdSonModel", "whoMeet", "(II)I"⟩, prog_7_method_29_code, 5, some .int)
def zm_M_givesBy : zq_M := (⟨"ThirdSonModel", "givesBy", "(III)I"⟩, prog_7_method_30_code, 8, some .int)
def zm_M_gives : zq_M := (⟨"ThirdSonModel", "gives", "(II)I"⟩, prog_7_method_31_code, 3, some .int)
def zm_M_ruleBy : zq_M := (⟨"ThirdSonModel", "ruleBy", "(IIII)I"⟩, prog_7_method_32_code, 8, some .int)
def zm_M_ownerBy : zq_M := (⟨"ThirdSonModel", "ownerBy", "(III)I"⟩, prog_7_method_33_code, 5, some .int)
def zm_M_ownerIn : zq_M := (⟨"ThirdSonModel", "ownerIn", "(II)I"⟩, prog_7_method_34_code, 3, some .int)
def zm_M_one : zq_M := (⟨"ThirdSonModel", "one", "(II)I"⟩, prog_7_method_35_code, 4, some .int)
def zm_M_odd : zq_M := (⟨"ThirdSonModel", "odd", "(I)I"⟩, prog_7_method_36_code, 2, some .int)
def zm_M_law : zq_M := (⟨"ThirdSonModel", "law", "(II)I"⟩, prog_7_method_37_code, 3, some .int)
def zm_M_owner : zq_M := (⟨"ThirdSonModel", "owner", "(I)I"⟩, prog_7_method_38_code, 2, some .int)
def zm_M_by : zq_M := (⟨"ThirdSonModel", "by", "(I)I"⟩, prog_7_method_39_code, 2, some .int)
def zm_M_sets : zq_M := (⟨"ThirdSonModel", "sets", "(ZII)I"⟩, prog_7_method_40_code, 5, some .int)
def zm_M_isDeed : zq_M := (⟨"ThirdSonModel", "isDeed", "(I)Z"⟩, prog_7_method_41_code, 2, some .boolean)
def zm_M_canDo : zq_M := (⟨"ThirdSonModel", "canDo", "(I)Z"⟩, prog_7_method_42_code, 5, some .boolean)
def zm_M_doesIt : zq_M := (⟨"ThirdSonModel", "doesIt", "(I)V"⟩, prog_7_method_43_code, 4, none)
def zm_M_done : zq_M := (⟨"ThirdSonModel", "done", "(I)I"⟩, prog_7_method_44_code, 2, some .int)
def zm_M_does : zq_M := (⟨"ThirdSonModel", "does", "(I)I"⟩, prog_7_method_45_code, 2, some .int)
def zm_M_comes : zq_M := (⟨"ThirdSonModel", "comes", "(I)I"⟩, prog_7_method_46_code, 3, some .int)
def zm_M_tries : zq_M := (⟨"ThirdSonModel", "tries", "(II)I"⟩, prog_7_method_47_code, 3, some .int)
def zm_M_hush : zq_M := (⟨"ThirdSonModel", "hush", "(II)I"⟩, prog_7_method_48_code, 4, some .int)
def zm_M_weigh : zq_M := (⟨"ThirdSonModel", "weigh", "(II)I"⟩, prog_7_method_49_code, 3, some .int)
def zm_M_rank : zq_M := (⟨"ThirdSonModel", "rank", "(II)I"⟩, prog_7_method_50_code, 4, some .int)
def zm_M_pick : zq_M := (⟨"ThirdSonModel", "pick", "(II)I"⟩, prog_7_method_51_code, 3, some .int)
def zm_M_copies : zq_M := (⟨"ThirdSonModel", "copies", "(II)V"⟩, prog_7_method_52_code, 4, none)
def zm_M_isHisBy : zq_M := (⟨"ThirdSonModel", "isHisBy", "(IIII)Z"⟩, prog_7_method_53_code, 8, some .boolean)
def zm_M_claim : zq_M := (⟨"ThirdSonModel", "claim", "(IIII)I"⟩, prog_7_method_54_code, 8, some .int)
def zm_M_pivot : zq_M := (⟨"ThirdSonModel", "pivot", "(I)I"⟩, prog_7_method_55_code, 5, some .int)
def zm_M_spoils : zq_M := (⟨"ThirdSonModel", "spoils", "(I)I"⟩, prog_7_method_56_code, 6, some .int)
def zm_M_cases : zq_M := (⟨"ThirdSonModel", "cases", "()I"⟩, prog_7_method_57_code, 1, some .int)
def zm_M_dead : zq_M := (⟨"ThirdSonModel", "dead", "(I)I"⟩, prog_7_method_58_code, 10, some .int)
def zm_M_isEnough : zq_M := (⟨"ThirdSonModel", "isEnough", "(I)Z"⟩, prog_7_method_59_code, 5, some .boolean)
def zm_M_bitsOf : zq_M := (⟨"ThirdSonModel", "bitsOf", "(I)I"⟩, prog_7_method_60_code, 3, some .int)
def zm_M_least : zq_M := (⟨"ThirdSonModel", "least", "(I)I"⟩, prog_7_method_61_code, 5, some .int)
def zm_M_who : zq_M := (⟨"ThirdSonModel", "who", "(I)I"⟩, prog_7_method_62_code, 5, some .int)
def zm_M_via : zq_M := (⟨"ThirdSonModel", "via", "(II)I"⟩, prog_7_method_63_code, 5, some .int)
def zm_M_lowest : zq_M := (⟨"ThirdSonModel", "lowest", "(JJI)J"⟩, prog_7_method_64_code, 11, some .long)
def zm_M_odds : zq_M := (⟨"ThirdSonModel", "odds", "(IIII)J"⟩, prog_7_method_65_code, 14, some .long)
def zm_M_turn : zq_M := (⟨"ThirdSonModel", "turn", "(II)I"⟩, prog_7_method_66_code, 4, some .int)
def zm_M_stops : zq_M := (⟨"ThirdSonModel", "stops", "(IIII)J"⟩, prog_7_method_67_code, 8, some .long)
def zm_M_tens : zq_M := (⟨"ThirdSonModel", "tens", "(I)J"⟩, prog_7_method_68_code, 1, some .long)
def zm_M_triesFor : zq_M := (⟨"ThirdSonModel", "triesFor", "(III)J"⟩, prog_7_method_69_code, 5, some .long)
def zm_M_layValues : zq_M := (⟨"ThirdSonModel", "layValues", "(III)V"⟩, prog_7_method_70_code, 11, none)
def zm_M_best : zq_M := (⟨"ThirdSonModel", "best", "(IIII)J"⟩, prog_7_method_71_code, 13, some .long)
def zm_M_see : zq_M := (⟨"ThirdSonModel", "see", "(II)I"⟩, prog_7_method_72_code, 3, some .int)
def zm_M_forget : zq_M := (⟨"ThirdSonModel", "forget", "(I)I"⟩, prog_7_method_73_code, 3, some .int)
def zm_M_fits : zq_M := (⟨"ThirdSonModel", "fits", "(I)I"⟩, prog_7_method_74_code, 9, some .int)
def zm_M_drift : zq_M := (⟨"ThirdSonModel", "drift", "(III)I"⟩, prog_7_method_75_code, 11, some .int)
def zm_M_keep : zq_M := (⟨"ThirdSonModel", "keep", "(I)I"⟩, prog_7_method_76_code, 3, some .int)
def zm_M_back : zq_M := (⟨"ThirdSonModel", "back", "(I)I"⟩, prog_7_method_77_code, 2, some .int)
def zm_M_sheet : zq_M := (⟨"ThirdSonModel", "sheet", "(III)I"⟩, prog_7_method_78_code, 5, some .int)
def zm_M_lay : zq_M := (⟨"ThirdSonModel", "lay", "(III)I"⟩, prog_7_method_79_code, 4, some .int)
def zm_M_read : zq_M := (⟨"ThirdSonModel", "read", "(IIII)I"⟩, prog_7_method_80_code, 7, some .int)
def zm_M_torn : zq_M := (⟨"ThirdSonModel", "torn", "()I"⟩, prog_7_method_81_code, 1, some .int)
def zm_M_count : zq_M := (⟨"ThirdSonModel", "count", "(I)I"⟩, prog_7_method_82_code, 6, some .int)
def zm_JI_bitCount : zq_M := (⟨"java/lang/Integer", "bitCount", "(I)I"⟩, prog_8_method_49_code, 1, some .int)
def zm_JM_max : zq_M := (⟨"java/lang/Math", "max", "(JJ)J"⟩, prog_9_method_66_code, 4, some .long)
def zm_JS_length : zq_M := (⟨"java/lang/String", "length", "()I"⟩, prog_10_method_54_code, 1, some .int)
def zm_JS_charAt : zq_M := (⟨"java/lang/String", "charAt", "(I)C"⟩, prog_10_method_56_code, 2, some .char)
def zm_JS_coder : zq_M := (⟨"java/lang/String", "coder", "()B"⟩, prog_10_method_152_code, 1, some .byte)
def zm_JS_isLatin1 : zq_M := (⟨"java/lang/String", "isLatin1", "()Z"⟩, prog_10_method_154_code, 1, some .boolean)
def zm_JS_checkIndex : zq_M := (⟨"java/lang/String", "checkIndex", "(II)V"⟩, prog_10_method_155_code, 2, none)
def zm_JA_charAt : zq_M := (⟨"java/lang/StringLatin1", "charAt", "([BI)C"⟩, prog_11_method_2_code, 2, some .char)
def zm_JU_getChar : zq_M := (⟨"java/lang/StringUTF16", "getChar", "([BI)C"⟩, prog_12_method_5_code, 2, some .char)
def zm_JU_length : zq_M := (⟨"java/lang/StringUTF16", "length", "([B)I"⟩, prog_12_method_6_code, 1, some .int)
def zm_JU_charAt : zq_M := (⟨"java/lang/StringUTF16", "charAt", "([BI)C"⟩, prog_12_method_83_code, 2, some .char)
def zm_JU_checkIndex : zq_M := (⟨"java/lang/StringUTF16", "checkIndex", "(I[B)V"⟩, prog_12_method_91_code, 2, none)
def zm_JP_checkIndex : zq_M := (⟨"jdk/internal/util/Preconditions", "checkIndex", "(IILjava/util/function/BiFunction;)I"⟩, prog_13_method_11_code, 3, some .int)
def zm_L_law : zq_M := (⟨"ThirdSonLaw", "law", "([I)Z"⟩, code, 4, some .boolean)
end
section
def zq_tbl : List Cond := lw_tbl.filter goodWord
theorem zq_in {w : Cond} (i : Nat) (h : lw_tbl[i]? = some w) (g : goodWord w = true) : w ∈ zq_tbl := List.mem_filter.mpr ⟨List.mem_of_getElem? h, g⟩
def zq_MV (M : zq_M) (n : Nat) : Prop := Cond.code M.1 M.2.1 M.2.2.1 M.2.2.2 ∈ zq_tbl ∧ Cond.instanceMethod M.1 ∈ zq_tbl ∧ Cond.selects M.1.cls M.1 M.1 ∈ zq_tbl ∧ Cond.initialized M.1.cls ∈ zq_tbl ∧ (M.1.cls ≠ "java/lang/invoke/MethodHandle" ∧ M.1.cls ≠ "java/lang/invoke/VarHandle") ∧ (parseMethodDescriptor M.1.desc).map (fun d => d.parameters.length) = some n ∧ M.2.2.1 ≤ 41 ∧ plainName M.1.cls = true
def zq_MS (M : zq_M) (n : Nat) : Prop := Cond.code M.1 M.2.1 M.2.2.1 M.2.2.2 ∈ zq_tbl ∧ Cond.static M.1 ∈ zq_tbl ∧ Cond.initialized M.1.cls ∈ zq_tbl ∧ (M.1.cls ≠ "java/lang/invoke/MethodHandle" ∧ M.1.cls ≠ "java/lang/invoke/VarHandle") ∧ (parseMethodDescriptor M.1.desc).map (fun d => d.parameters.length) = some n ∧ M.2.2.1 ≤ 41 ∧ plainName M.1.cls = true
theorem zq_in0 : ∀ w ∈ wsX00, w ∈ zq_tbl := by decide +kernel
theorem zq_in1 : ∀ w ∈ wsX10, w ∈ zq_tbl := by decide +kernel
theorem zq_in2 : ∀ w ∈ wsX20, w ∈ zq_tbl := by decide +kernel
theorem zq_in3 : ∀ w ∈ wsX30, w ∈ zq_tbl := by decide +kernel
theorem zq_in4 : ∀ w ∈ wsX40, w ∈ zq_tbl := by decide +kernel
theorem zq_in5 : ∀ w ∈ wsX50, w ∈ zq_tbl := by decide +kernel
theorem zi_L : Cond.initialized "ThirdSonLaw" ∈ zq_tbl := zq_in 60 (by decide +kernel) rfl
theorem zi_S : Cond.initialized "ThirdSon" ∈ zq_tbl := zq_in 61 (by decide +kernel) rfl
theorem zi_P : Cond.initialized "ThirdSon$Tape" ∈ zq_tbl := zq_in 62 (by decide +kernel) rfl
theorem zi_E : Cond.initialized "ThirdSon$Teller" ∈ zq_tbl := zq_in 63 (by decide +kernel) rfl
theorem zi_H : Cond.initialized "ThirdSon$Sheets" ∈ zq_tbl := zq_in 64 (by decide +kernel) rfl
theorem zi_D : Cond.initialized "ThirdSon$Duchy" ∈ zq_tbl := zq_in 65 (by decide +kernel) rfl
theorem zi_M : Cond.initialized "ThirdSonModel" ∈ zq_tbl := zq_in 66 (by decide +kernel) rfl
theorem zi_JS : Cond.initialized "java/lang/String" ∈ zq_tbl := zq_in 67 (by decide +kernel) rfl
theorem zi_JA : Cond.initialized "java/lang/StringLatin1" ∈ zq_tbl := zq_in 68 (by decide +kernel) rfl
theorem zi_JP : Cond.initialized "jdk/internal/util/Preconditions" ∈ zq_tbl := zq_in 69 (by decide +kernel) rfl
theorem zi_JU : Cond.initialized "java/lang/StringUTF16" ∈ zq_tbl := zq_in 70 (by decide +kernel) rfl
theorem zi_JI : Cond.initialized "java/lang/Integer" ∈ zq_tbl := zq_in 71 (by decide +kernel) rfl
theorem zi_JM : Cond.initialized "java/lang/Math" ∈ zq_tbl := zq_in 72 (by decide +kernel) rfl
theorem zl_L_9 : Cond.methodLink "ThirdSonLaw" 9 zm_S_init.1 ∈ zq_tbl := zq_in 75 (by decide +kernel) rfl
theorem zl_P_9 : Cond.fieldLink "ThirdSon$Tape" 9 "ThirdSon$Tape" "bytes" "[B" ∈ zq_tbl := zq_in 87 (by decide +kernel) rfl
theorem zl_P_13 : Cond.fieldLink "ThirdSon$Tape" 13 "ThirdSon$Tape" "length" "I" ∈ zq_tbl := zq_in 88 (by decide +kernel) rfl
theorem zl_S_63 : Cond.fieldLink "ThirdSon" 63 "ThirdSon$Tape" "length" "I" ∈ zq_tbl := zq_in 89 (by decide +kernel) rfl
theorem zl_E_52 : Cond.fieldLink "ThirdSon$Teller" 52 "ThirdSon$Tape" "length" "I" ∈ zq_tbl := zq_in 90 (by decide +kernel) rfl
theorem zl_E_37 : Cond.fieldLink "ThirdSon$Teller" 37 "ThirdSon$Tape" "kind" "I" ∈ zq_tbl := zq_in 91 (by decide +kernel) rfl
theorem zl_P_27 : Cond.fieldLink "ThirdSon$Tape" 27 "ThirdSon$Tape" "kind" "I" ∈ zq_tbl := zq_in 92 (by decide +kernel) rfl
theorem zl_P_24 : Cond.fieldLink "ThirdSon$Tape" 24 "ThirdSon$Tape" "start" "I" ∈ zq_tbl := zq_in 93 (by decide +kernel) rfl
theorem zl_E_99 : Cond.fieldLink "ThirdSon$Teller" 99 "ThirdSon$Tape" "start" "I" ∈ zq_tbl := zq_in 94 (by decide +kernel) rfl
theorem zl_E_102 : Cond.fieldLink "ThirdSon$Teller" 102 "ThirdSon$Tape" "value" "I" ∈ zq_tbl := zq_in 95 (by decide +kernel) rfl
theorem zl_P_52 : Cond.fieldLink "ThirdSon$Tape" 52 "ThirdSon$Tape" "value" "I" ∈ zq_tbl := zq_in 96 (by decide +kernel) rfl
theorem zl_P_17 : Cond.fieldLink "ThirdSon$Tape" 17 "ThirdSon$Tape" "at" "I" ∈ zq_tbl := zq_in 97 (by decide +kernel) rfl
theorem zl_E_9 : Cond.fieldLink "ThirdSon$Teller" 9 "ThirdSon$Teller" "fault" "I" ∈ zq_tbl := zq_in 118 (by decide +kernel) rfl
theorem zl_S_71 : Cond.fieldLink "ThirdSon" 71 "ThirdSon$Teller" "fault" "I" ∈ zq_tbl := zq_in 119 (by decide +kernel) rfl
theorem zl_E_15 : Cond.fieldLink "ThirdSon$Teller" 15 "ThirdSon$Teller" "place" "I" ∈ zq_tbl := zq_in 120 (by decide +kernel) rfl
theorem zl_S_77 : Cond.fieldLink "ThirdSon" 77 "ThirdSon$Teller" "place" "I" ∈ zq_tbl := zq_in 121 (by decide +kernel) rfl
theorem zl_E_18 : Cond.fieldLink "ThirdSon$Teller" 18 "ThirdSon$Teller" "named" "I" ∈ zq_tbl := zq_in 122 (by decide +kernel) rfl
theorem zl_E_21 : Cond.fieldLink "ThirdSon$Teller" 21 "ThirdSon$Teller" "weighed" "I" ∈ zq_tbl := zq_in 123 (by decide +kernel) rfl
theorem zl_H_13 : Cond.fieldLink "ThirdSon$Sheets" 13 "ThirdSon$Sheets" "cells" "[[I" ∈ zq_tbl := zq_in 141 (by decide +kernel) rfl
theorem zl_H_16 : Cond.fieldLink "ThirdSon$Sheets" 16 "ThirdSon$Sheets" "lanes" "[I" ∈ zq_tbl := zq_in 142 (by decide +kernel) rfl
theorem zl_H_20 : Cond.fieldLink "ThirdSon$Sheets" 20 "ThirdSon$Sheets" "sizes" "[I" ∈ zq_tbl := zq_in 143 (by decide +kernel) rfl
theorem zl_S_32 : Cond.methodLink "ThirdSon" 32 zm_D_init.1 ∈ zq_tbl := zq_in 154 (by decide +kernel) rfl
theorem zl_D_42 : Cond.methodLink "ThirdSon$Duchy" 42 zm_D_clear.1 ∈ zq_tbl := zq_in 158 (by decide +kernel) rfl
theorem zl_D_45 : Cond.fieldLink "ThirdSon$Duchy" 45 "ThirdSon$Duchy" "people" "I" ∈ zq_tbl := zq_in 162 (by decide +kernel) rfl
theorem zl_E_96 : Cond.fieldLink "ThirdSon$Teller" 96 "ThirdSon$Duchy" "people" "I" ∈ zq_tbl := zq_in 163 (by decide +kernel) rfl
theorem zl_S_86 : Cond.fieldLink "ThirdSon" 86 "ThirdSon$Duchy" "people" "I" ∈ zq_tbl := zq_in 164 (by decide +kernel) rfl
theorem zl_D_49 : Cond.fieldLink "ThirdSon$Duchy" 49 "ThirdSon$Duchy" "gone" "I" ∈ zq_tbl := zq_in 165 (by decide +kernel) rfl
theorem zl_S_92 : Cond.fieldLink "ThirdSon" 92 "ThirdSon$Duchy" "gone" "I" ∈ zq_tbl := zq_in 166 (by decide +kernel) rfl
theorem zl_E_127 : Cond.fieldLink "ThirdSon$Teller" 127 "ThirdSon$Duchy" "gone" "I" ∈ zq_tbl := zq_in 167 (by decide +kernel) rfl
theorem zl_D_52 : Cond.fieldLink "ThirdSon$Duchy" 52 "ThirdSon$Duchy" "rules" "I" ∈ zq_tbl := zq_in 168 (by decide +kernel) rfl
theorem zl_S_89 : Cond.fieldLink "ThirdSon" 89 "ThirdSon$Duchy" "rules" "I" ∈ zq_tbl := zq_in 169 (by decide +kernel) rfl
theorem zl_E_134 : Cond.fieldLink "ThirdSon$Teller" 134 "ThirdSon$Duchy" "rules" "I" ∈ zq_tbl := zq_in 170 (by decide +kernel) rfl
theorem zl_D_9 : Cond.fieldLink "ThirdSon$Duchy" 9 "ThirdSon$Duchy" "parents" "[I" ∈ zq_tbl := zq_in 171 (by decide +kernel) rfl
theorem zl_S_98 : Cond.fieldLink "ThirdSon" 98 "ThirdSon$Duchy" "parents" "[I" ∈ zq_tbl := zq_in 172 (by decide +kernel) rfl
theorem zl_D_15 : Cond.fieldLink "ThirdSon$Duchy" 15 "ThirdSon$Duchy" "ancestors" "[I" ∈ zq_tbl := zq_in 173 (by decide +kernel) rfl
theorem zl_D_18 : Cond.fieldLink "ThirdSon$Duchy" 18 "ThirdSon$Duchy" "facts" "[I" ∈ zq_tbl := zq_in 174 (by decide +kernel) rfl
theorem zl_E_117 : Cond.fieldLink "ThirdSon$Teller" 117 "ThirdSon$Duchy" "facts" "[I" ∈ zq_tbl := zq_in 175 (by decide +kernel) rfl
theorem zl_S_101 : Cond.fieldLink "ThirdSon" 101 "ThirdSon$Duchy" "facts" "[I" ∈ zq_tbl := zq_in 176 (by decide +kernel) rfl
theorem zl_D_21 : Cond.fieldLink "ThirdSon$Duchy" 21 "ThirdSon$Duchy" "tries" "[I" ∈ zq_tbl := zq_in 177 (by decide +kernel) rfl
theorem zl_S_104 : Cond.fieldLink "ThirdSon" 104 "ThirdSon$Duchy" "tries" "[I" ∈ zq_tbl := zq_in 178 (by decide +kernel) rfl
theorem zl_D_24 : Cond.fieldLink "ThirdSon$Duchy" 24 "ThirdSon$Duchy" "odds" "[I" ∈ zq_tbl := zq_in 179 (by decide +kernel) rfl
theorem zl_S_120 : Cond.fieldLink "ThirdSon" 120 "ThirdSon$Duchy" "odds" "[I" ∈ zq_tbl := zq_in 180 (by decide +kernel) rfl
theorem zl_E_132 : Cond.fieldLink "ThirdSon$Teller" 132 "ThirdSon$Duchy" "odds" "[I" ∈ zq_tbl := zq_in 181 (by decide +kernel) rfl
theorem zl_D_27 : Cond.fieldLink "ThirdSon$Duchy" 27 "ThirdSon$Duchy" "ranks" "[I" ∈ zq_tbl := zq_in 182 (by decide +kernel) rfl
theorem zl_S_126 : Cond.fieldLink "ThirdSon" 126 "ThirdSon$Duchy" "ranks" "[I" ∈ zq_tbl := zq_in 183 (by decide +kernel) rfl
theorem zl_D_30 : Cond.fieldLink "ThirdSon$Duchy" 30 "ThirdSon$Duchy" "things" "[I" ∈ zq_tbl := zq_in 184 (by decide +kernel) rfl
theorem zl_S_129 : Cond.fieldLink "ThirdSon" 129 "ThirdSon$Duchy" "things" "[I" ∈ zq_tbl := zq_in 185 (by decide +kernel) rfl
theorem zl_D_33 : Cond.fieldLink "ThirdSon$Duchy" 33 "ThirdSon$Duchy" "claims" "[I" ∈ zq_tbl := zq_in 186 (by decide +kernel) rfl
theorem zl_S_132 : Cond.fieldLink "ThirdSon" 132 "ThirdSon$Duchy" "claims" "[I" ∈ zq_tbl := zq_in 187 (by decide +kernel) rfl
theorem zl_D_36 : Cond.fieldLink "ThirdSon$Duchy" 36 "ThirdSon$Duchy" "numbers" "[I" ∈ zq_tbl := zq_in 188 (by decide +kernel) rfl
theorem zl_S_135 : Cond.fieldLink "ThirdSon" 135 "ThirdSon$Duchy" "numbers" "[I" ∈ zq_tbl := zq_in 189 (by decide +kernel) rfl
theorem zl_D_39 : Cond.fieldLink "ThirdSon$Duchy" 39 "ThirdSon$Duchy" "picks" "[I" ∈ zq_tbl := zq_in 190 (by decide +kernel) rfl
theorem zl_S_138 : Cond.fieldLink "ThirdSon" 138 "ThirdSon$Duchy" "picks" "[I" ∈ zq_tbl := zq_in 191 (by decide +kernel) rfl
theorem zl_S_12 : Cond.fieldLink "ThirdSon" 12 "ThirdSon" "tape" "LThirdSon$Tape;" ∈ zq_tbl := zq_in 219 (by decide +kernel) rfl
theorem zl_S_19 : Cond.fieldLink "ThirdSon" 19 "ThirdSon" "teller" "LThirdSon$Teller;" ∈ zq_tbl := zq_in 220 (by decide +kernel) rfl
theorem zl_S_26 : Cond.fieldLink "ThirdSon" 26 "ThirdSon" "sheets" "LThirdSon$Sheets;" ∈ zq_tbl := zq_in 221 (by decide +kernel) rfl
theorem zl_S_33 : Cond.fieldLink "ThirdSon" 33 "ThirdSon" "firstImage" "LThirdSon$Duchy;" ∈ zq_tbl := zq_in 222 (by decide +kernel) rfl
theorem zl_S_37 : Cond.fieldLink "ThirdSon" 37 "ThirdSon" "secondImage" "LThirdSon$Duchy;" ∈ zq_tbl := zq_in 223 (by decide +kernel) rfl
theorem zl_S_40 : Cond.fieldLink "ThirdSon" 40 "ThirdSon" "trial" "LThirdSon$Duchy;" ∈ zq_tbl := zq_in 224 (by decide +kernel) rfl
theorem zl_S_43 : Cond.fieldLink "ThirdSon" 43 "ThirdSon" "row" "[I" ∈ zq_tbl := zq_in 225 (by decide +kernel) rfl
theorem zl_S_47 : Cond.fieldLink "ThirdSon" 47 "ThirdSon" "seenThings" "[I" ∈ zq_tbl := zq_in 226 (by decide +kernel) rfl
theorem zl_S_50 : Cond.fieldLink "ThirdSon" 50 "ThirdSon" "seenOwners" "[I" ∈ zq_tbl := zq_in 227 (by decide +kernel) rfl
theorem zl_S_53 : Cond.fieldLink "ThirdSon" 53 "ThirdSon" "duchy" "LThirdSon$Duchy;" ∈ zq_tbl := zq_in 228 (by decide +kernel) rfl
theorem zl_S_56 : Cond.fieldLink "ThirdSon" 56 "ThirdSon" "draft" "LThirdSon$Duchy;" ∈ zq_tbl := zq_in 229 (by decide +kernel) rfl
theorem zl_S_74 : Cond.fieldLink "ThirdSon" 74 "ThirdSon" "textFault" "I" ∈ zq_tbl := zq_in 230 (by decide +kernel) rfl
theorem zl_S_264 : Cond.fieldLink "ThirdSon" 264 "ThirdSon" "readFault" "I" ∈ zq_tbl := zq_in 231 (by decide +kernel) rfl
theorem zl_S_80 : Cond.fieldLink "ThirdSon" 80 "ThirdSon" "seen" "I" ∈ zq_tbl := zq_in 232 (by decide +kernel) rfl
theorem zl_S_83 : Cond.fieldLink "ThirdSon" 83 "ThirdSon" "kept" "I" ∈ zq_tbl := zq_in 233 (by decide +kernel) rfl
theorem zl_L_13 : Cond.methodLink "ThirdSonLaw" 13 zm_S_feed.1 ∈ zq_tbl := zq_in 265 (by decide +kernel) rfl
theorem zl_S_59 : Cond.methodLink "ThirdSon" 59 zm_P_append.1 ∈ zq_tbl := zq_in 269 (by decide +kernel) rfl
theorem zl_L_18 : Cond.methodLink "ThirdSonLaw" 18 zm_S_end.1 ∈ zq_tbl := zq_in 273 (by decide +kernel) rfl
theorem zl_L_22 : Cond.methodLink "ThirdSonLaw" 22 zm_S_text.1 ∈ zq_tbl := zq_in 277 (by decide +kernel) rfl
theorem zl_S_67 : Cond.methodLink "ThirdSon" 67 zm_E_tell.1 ∈ zq_tbl := zq_in 281 (by decide +kernel) rfl
theorem zl_E_24 : Cond.methodLink "ThirdSon$Teller" 24 zm_D_clear.1 ∈ zq_tbl := zq_in 285 (by decide +kernel) rfl
theorem zl_E_29 : Cond.methodLink "ThirdSon$Teller" 29 zm_P_rewind.1 ∈ zq_tbl := zq_in 286 (by decide +kernel) rfl
theorem zl_E_34 : Cond.methodLink "ThirdSon$Teller" 34 zm_P_advance.1 ∈ zq_tbl := zq_in 290 (by decide +kernel) rfl
theorem zl_P_20 : Cond.methodLink "ThirdSon$Tape" 20 zm_P_byteAt.1 ∈ zq_tbl := zq_in 294 (by decide +kernel) rfl
theorem zl_P_30 : Cond.methodLink "ThirdSon$Tape" 30 zm_P_isLetter.1 ∈ zq_tbl := zq_in 298 (by decide +kernel) rfl
theorem zl_P_34 : Cond.methodLink "ThirdSon$Tape" 34 zm_P_readName.1 ∈ zq_tbl := zq_in 301 (by decide +kernel) rfl
theorem zl_P_37 : Cond.methodLink "ThirdSon$Tape" 37 zm_P_isFigure.1 ∈ zq_tbl := zq_in 305 (by decide +kernel) rfl
theorem zl_P_40 : Cond.methodLink "ThirdSon$Tape" 40 zm_P_readNumber.1 ∈ zq_tbl := zq_in 308 (by decide +kernel) rfl
theorem zl_E_40 : Cond.methodLink "ThirdSon$Teller" 40 zm_E_tellLine.1 ∈ zq_tbl := zq_in 312 (by decide +kernel) rfl
theorem zl_E_63 : Cond.stringRef "ThirdSon$Teller" 63 "one" ∈ lw_tbl := List.mem_of_getElem? (i := 316) (by decide +kernel)
theorem zl_E_65 : Cond.methodLink "ThirdSon$Teller" 65 zm_P_isWord.1 ∈ zq_tbl := zq_in 317 (by decide +kernel) rfl
theorem zl_P_43 : Cond.methodLink "ThirdSon$Tape" 43 zm_JS_length.1 ∈ zq_tbl := zq_in 321 (by decide +kernel) rfl
theorem zl_JS_335 : Cond.methodLink "java/lang/String" 335 zm_JS_coder.1 ∈ zq_tbl := zq_in 325 (by decide +kernel) rfl
theorem zl_JS_38 : Cond.fieldLink "java/lang/String" 38 "java/lang/String" "COMPACT_STRINGS" "Z" ∈ zq_tbl := zq_in 329 (by decide +kernel) rfl
theorem zl_P_48 : Cond.methodLink "ThirdSon$Tape" 48 zm_JS_charAt.1 ∈ zq_tbl := zq_in 331 (by decide +kernel) rfl
theorem zl_JS_492 : Cond.methodLink "java/lang/String" 492 zm_JS_isLatin1.1 ∈ zq_tbl := zq_in 335 (by decide +kernel) rfl
theorem zl_JS_495 : Cond.methodLink "java/lang/String" 495 zm_JA_charAt.1 ∈ zq_tbl := zq_in 339 (by decide +kernel) rfl
theorem zl_JA_9 : Cond.methodLink "java/lang/StringLatin1" 9 zm_JS_checkIndex.1 ∈ zq_tbl := zq_in 342 (by decide +kernel) rfl
theorem zl_JS_1053 : Cond.fieldLink "java/lang/String" 1053 "jdk/internal/util/Preconditions" "SIOOBE_FORMATTER" "Ljava/util/function/BiFunction;" ∈ zq_tbl := zq_in 345 (by decide +kernel) rfl
theorem zl_JS_1059 : Cond.methodLink "java/lang/String" 1059 zm_JP_checkIndex.1 ∈ zq_tbl := zq_in 347 (by decide +kernel) rfl
theorem zl_JS_498 : Cond.methodLink "java/lang/String" 498 zm_JU_charAt.1 ∈ zq_tbl := zq_in 350 (by decide +kernel) rfl
theorem zl_JU_67 : Cond.methodLink "java/lang/StringUTF16" 67 zm_JU_checkIndex.1 ∈ zq_tbl := zq_in 353 (by decide +kernel) rfl
theorem zl_JU_48 : Cond.methodLink "java/lang/StringUTF16" 48 zm_JU_length.1 ∈ zq_tbl := zq_in 356 (by decide +kernel) rfl
theorem zl_JU_414 : Cond.methodLink "java/lang/StringUTF16" 414 zm_JS_checkIndex.1 ∈ zq_tbl := zq_in 359 (by decide +kernel) rfl
theorem zl_JU_71 : Cond.methodLink "java/lang/StringUTF16" 71 zm_JU_getChar.1 ∈ zq_tbl := zq_in 360 (by decide +kernel) rfl
theorem zl_JU_44 : Cond.fieldLink "java/lang/StringUTF16" 44 "java/lang/StringUTF16" "$assertionsDisabled" "Z" ∈ zq_tbl := zq_in 363 (by decide +kernel) rfl
theorem zl_JU_59 : Cond.fieldLink "java/lang/StringUTF16" 59 "java/lang/StringUTF16" "HI_BYTE_SHIFT" "I" ∈ zq_tbl := zq_in 365 (by decide +kernel) rfl
theorem zl_JU_63 : Cond.fieldLink "java/lang/StringUTF16" 63 "java/lang/StringUTF16" "LO_BYTE_SHIFT" "I" ∈ zq_tbl := zq_in 367 (by decide +kernel) rfl
theorem zl_E_69 : Cond.methodLink "ThirdSon$Teller" 69 zm_E_tellOne.1 ∈ zq_tbl := zq_in 369 (by decide +kernel) rfl
theorem zl_E_55 : Cond.methodLink "ThirdSon$Teller" 55 zm_E_fail.1 ∈ zq_tbl := zq_in 373 (by decide +kernel) rfl
theorem zl_E_105 : Cond.methodLink "ThirdSon$Teller" 105 zm_D_isOne.1 ∈ zq_tbl := zq_in 377 (by decide +kernel) rfl
theorem zl_E_109 : Cond.methodLink "ThirdSon$Teller" 109 zm_D_addOne.1 ∈ zq_tbl := zq_in 381 (by decide +kernel) rfl
theorem zl_D_55 : Cond.methodLink "ThirdSon$Duchy" 55 zm_D_isOne.1 ∈ zq_tbl := zq_in 385 (by decide +kernel) rfl
theorem zl_E_92 : Cond.methodLink "ThirdSon$Teller" 92 zm_E_misplaced.1 ∈ zq_tbl := zq_in 386 (by decide +kernel) rfl
theorem zl_E_72 : Cond.stringRef "ThirdSon$Teller" 72 "fact" ∈ lw_tbl := List.mem_of_getElem? (i := 390) (by decide +kernel)
theorem zl_E_74 : Cond.methodLink "ThirdSon$Teller" 74 zm_E_tellFact.1 ∈ zq_tbl := zq_in 391 (by decide +kernel) rfl
theorem zl_E_113 : Cond.methodLink "ThirdSon$Teller" 113 zm_E_number.1 ∈ zq_tbl := zq_in 395 (by decide +kernel) rfl
theorem zl_E_121 : Cond.methodLink "ThirdSon$Teller" 121 zm_E_stop.1 ∈ zq_tbl := zq_in 399 (by decide +kernel) rfl
theorem zl_E_77 : Cond.stringRef "ThirdSon$Teller" 77 "gone" ∈ lw_tbl := List.mem_of_getElem? (i := 403) (by decide +kernel)
theorem zl_E_79 : Cond.methodLink "ThirdSon$Teller" 79 zm_E_tellGone.1 ∈ zq_tbl := zq_in 404 (by decide +kernel) rfl
theorem zl_E_124 : Cond.methodLink "ThirdSon$Teller" 124 zm_D_isGone.1 ∈ zq_tbl := zq_in 408 (by decide +kernel) rfl
theorem zl_E_82 : Cond.stringRef "ThirdSon$Teller" 82 "odds" ∈ lw_tbl := List.mem_of_getElem? (i := 412) (by decide +kernel)
theorem zl_E_84 : Cond.methodLink "ThirdSon$Teller" 84 zm_E_tellOdds.1 ∈ zq_tbl := zq_in 413 (by decide +kernel) rfl
theorem zl_E_87 : Cond.stringRef "ThirdSon$Teller" 87 "rule" ∈ lw_tbl := List.mem_of_getElem? (i := 420) (by decide +kernel)
theorem zl_E_89 : Cond.methodLink "ThirdSon$Teller" 89 zm_E_tellRule.1 ∈ zq_tbl := zq_in 421 (by decide +kernel) rfl
theorem zl_E_137 : Cond.methodLink "ThirdSon$Teller" 137 zm_E_claimNamed.1 ∈ zq_tbl := zq_in 425 (by decide +kernel) rfl
theorem zl_E_152 : Cond.stringRef "ThirdSon$Teller" 152 "any" ∈ lw_tbl := List.mem_of_getElem? (i := 428) (by decide +kernel)
theorem zl_E_154 : Cond.stringRef "ThirdSon$Teller" 154 "born" ∈ lw_tbl := List.mem_of_getElem? (i := 429) (by decide +kernel)
theorem zl_E_156 : Cond.stringRef "ThirdSon$Teller" 156 "tried" ∈ lw_tbl := List.mem_of_getElem? (i := 430) (by decide +kernel)
theorem zl_E_158 : Cond.stringRef "ThirdSon$Teller" 158 "kin" ∈ lw_tbl := List.mem_of_getElem? (i := 431) (by decide +kernel)
theorem zl_E_160 : Cond.stringRef "ThirdSon$Teller" 160 "bare" ∈ lw_tbl := List.mem_of_getElem? (i := 432) (by decide +kernel)
theorem zl_E_141 : Cond.methodLink "ThirdSon$Teller" 141 zm_E_mostOf.1 ∈ zq_tbl := zq_in 433 (by decide +kernel) rfl
theorem zl_E_145 : Cond.methodLink "ThirdSon$Teller" 145 zm_E_pickNamed.1 ∈ zq_tbl := zq_in 436 (by decide +kernel) rfl
theorem zl_E_162 : Cond.stringRef "ThirdSon$Teller" 162 "first" ∈ lw_tbl := List.mem_of_getElem? (i := 439) (by decide +kernel)
theorem zl_E_164 : Cond.stringRef "ThirdSon$Teller" 164 "third" ∈ lw_tbl := List.mem_of_getElem? (i := 440) (by decide +kernel)
theorem zl_E_166 : Cond.stringRef "ThirdSon$Teller" 166 "last" ∈ lw_tbl := List.mem_of_getElem? (i := 441) (by decide +kernel)
theorem zl_E_148 : Cond.methodLink "ThirdSon$Teller" 148 zm_D_addRule.1 ∈ zq_tbl := zq_in 442 (by decide +kernel) rfl
theorem zl_E_44 : Cond.methodLink "ThirdSon$Teller" 44 zm_E_checkWhole.1 ∈ zq_tbl := zq_in 446 (by decide +kernel) rfl
theorem zl_E_48 : Cond.methodLink "ThirdSon$Teller" 48 zm_D_everybody.1 ∈ zq_tbl := zq_in 450 (by decide +kernel) rfl
theorem zl_E_59 : Cond.methodLink "ThirdSon$Teller" 59 zm_D_hasEqualRanks.1 ∈ zq_tbl := zq_in 454 (by decide +kernel) rfl
theorem zl_L_27 : Cond.methodLink "ThirdSonLaw" 27 zm_S_fault.1 ∈ zq_tbl := zq_in 458 (by decide +kernel) rfl
theorem zl_L_31 : Cond.methodLink "ThirdSonLaw" 31 zm_S_rule.1 ∈ zq_tbl := zq_in 462 (by decide +kernel) rfl
theorem zl_L_35 : Cond.methodLink "ThirdSonLaw" 35 zm_S_one.1 ∈ zq_tbl := zq_in 466 (by decide +kernel) rfl
theorem zl_S_95 : Cond.methodLink "ThirdSon" 95 zm_D_isOne.1 ∈ zq_tbl := zq_in 470 (by decide +kernel) rfl
theorem zl_S_107 : Cond.methodLink "ThirdSon" 107 zm_D_isGone.1 ∈ zq_tbl := zq_in 471 (by decide +kernel) rfl
theorem zl_S_110 : Cond.methodLink "ThirdSon" 110 zm_D_placeAmongBorn.1 ∈ zq_tbl := zq_in 472 (by decide +kernel) rfl
theorem zl_S_114 : Cond.methodLink "ThirdSon" 114 zm_D_childrenLeft.1 ∈ zq_tbl := zq_in 476 (by decide +kernel) rfl
theorem zl_L_40 : Cond.methodLink "ThirdSonLaw" 40 zm_S_odd.1 ∈ zq_tbl := zq_in 480 (by decide +kernel) rfl
theorem zl_S_117 : Cond.methodLink "ThirdSon" 117 zm_S_isFact.1 ∈ zq_tbl := zq_in 484 (by decide +kernel) rfl
theorem zl_L_44 : Cond.methodLink "ThirdSonLaw" 44 zm_S_law.1 ∈ zq_tbl := zq_in 485 (by decide +kernel) rfl
theorem zl_S_123 : Cond.methodLink "ThirdSon" 123 zm_D_isRule.1 ∈ zq_tbl := zq_in 489 (by decide +kernel) rfl
theorem zl_S_141 : Cond.methodLink "ThirdSon" 141 zm_D_whoMeet.1 ∈ zq_tbl := zq_in 493 (by decide +kernel) rfl
theorem zl_D_69 : Cond.methodLink "ThirdSon$Duchy" 69 zm_D_meets.1 ∈ zq_tbl := zq_in 497 (by decide +kernel) rfl
theorem zl_D_59 : Cond.methodLink "ThirdSon$Duchy" 59 zm_D_isRule.1 ∈ zq_tbl := zq_in 501 (by decide +kernel) rfl
theorem zl_D_62 : Cond.methodLink "ThirdSon$Duchy" 62 zm_D_placeAmongBorn.1 ∈ zq_tbl := zq_in 502 (by decide +kernel) rfl
theorem zl_D_66 : Cond.methodLink "ThirdSon$Duchy" 66 zm_D_childrenLeft.1 ∈ zq_tbl := zq_in 503 (by decide +kernel) rfl
theorem zl_S_144 : Cond.methodLink "ThirdSon" 144 zm_D_receiver.1 ∈ zq_tbl := zq_in 504 (by decide +kernel) rfl
theorem zl_L_48 : Cond.methodLink "ThirdSonLaw" 48 zm_S_owner.1 ∈ zq_tbl := zq_in 508 (by decide +kernel) rfl
theorem zl_S_147 : Cond.methodLink "ThirdSon" 147 zm_S_isThing.1 ∈ zq_tbl := zq_in 512 (by decide +kernel) rfl
theorem zl_S_150 : Cond.methodLink "ThirdSon" 150 zm_D_ownerNow.1 ∈ zq_tbl := zq_in 515 (by decide +kernel) rfl
theorem zl_D_80 : Cond.methodLink "ThirdSon$Duchy" 80 zm_D_ownerIn.1 ∈ zq_tbl := zq_in 519 (by decide +kernel) rfl
theorem zl_D_76 : Cond.methodLink "ThirdSon$Duchy" 76 zm_D_rightOn.1 ∈ zq_tbl := zq_in 523 (by decide +kernel) rfl
theorem zl_D_73 : Cond.methodLink "ThirdSon$Duchy" 73 zm_D_receiver.1 ∈ zq_tbl := zq_in 527 (by decide +kernel) rfl
theorem zl_L_52 : Cond.methodLink "ThirdSonLaw" 52 zm_S_by.1 ∈ zq_tbl := zq_in 528 (by decide +kernel) rfl
theorem zl_S_154 : Cond.methodLink "ThirdSon" 154 zm_D_rightOn.1 ∈ zq_tbl := zq_in 532 (by decide +kernel) rfl
theorem zl_L_56 : Cond.methodLink "ThirdSonLaw" 56 zm_S_does.1 ∈ zq_tbl := zq_in 533 (by decide +kernel) rfl
theorem zl_S_158 : Cond.methodLink "ThirdSon" 158 zm_D_act.1 ∈ zq_tbl := zq_in 537 (by decide +kernel) rfl
theorem zl_D_87 : Cond.methodLink "ThirdSon$Duchy" 87 zm_D_isGone.1 ∈ zq_tbl := zq_in 541 (by decide +kernel) rfl
theorem zl_D_93 : Cond.methodLink "ThirdSon$Duchy" 93 zm_D_isKnown.1 ∈ zq_tbl := zq_in 543 (by decide +kernel) rfl
theorem zl_L_60 : Cond.methodLink "ThirdSonLaw" 60 zm_S_comes.1 ∈ zq_tbl := zq_in 547 (by decide +kernel) rfl
theorem zl_L_64 : Cond.methodLink "ThirdSonLaw" 64 zm_S_tries.1 ∈ zq_tbl := zq_in 551 (by decide +kernel) rfl
theorem zl_L_68 : Cond.methodLink "ThirdSonLaw" 68 zm_S_hush.1 ∈ zq_tbl := zq_in 555 (by decide +kernel) rfl
theorem zl_S_161 : Cond.methodLink "ThirdSon" 161 zm_D_isKnown.1 ∈ zq_tbl := zq_in 559 (by decide +kernel) rfl
theorem zl_L_72 : Cond.methodLink "ThirdSonLaw" 72 zm_S_weigh.1 ∈ zq_tbl := zq_in 560 (by decide +kernel) rfl
theorem zl_L_76 : Cond.methodLink "ThirdSonLaw" 76 zm_S_rank.1 ∈ zq_tbl := zq_in 564 (by decide +kernel) rfl
theorem zl_L_80 : Cond.methodLink "ThirdSonLaw" 80 zm_S_pick.1 ∈ zq_tbl := zq_in 568 (by decide +kernel) rfl
theorem zl_S_165 : Cond.methodLink "ThirdSon" 165 zm_S_isPick.1 ∈ zq_tbl := zq_in 572 (by decide +kernel) rfl
theorem zl_L_84 : Cond.methodLink "ThirdSonLaw" 84 zm_S_claim.1 ∈ zq_tbl := zq_in 575 (by decide +kernel) rfl
theorem zl_S_168 : Cond.methodLink "ThirdSon" 168 zm_S_shortestRow.1 ∈ zq_tbl := zq_in 579 (by decide +kernel) rfl
theorem zl_S_174 : Cond.methodLink "ThirdSon" 174 zm_D_copyFrom.1 ∈ zq_tbl := zq_in 583 (by decide +kernel) rfl
theorem zl_S_279 : Cond.methodLink "ThirdSon" 279 zm_S_findRow.1 ∈ zq_tbl := zq_in 587 (by decide +kernel) rfl
theorem zl_S_171 : Cond.methodLink "ThirdSon" 171 zm_D_ownerIn.1 ∈ zq_tbl := zq_in 590 (by decide +kernel) rfl
theorem zl_S_181 : Cond.methodLink "ThirdSon" 181 zm_D_takeBack.1 ∈ zq_tbl := zq_in 591 (by decide +kernel) rfl
theorem zl_L_89 : Cond.methodLink "ThirdSonLaw" 89 zm_S_pivot.1 ∈ zq_tbl := zq_in 595 (by decide +kernel) rfl
theorem zl_L_93 : Cond.methodLink "ThirdSonLaw" 93 zm_S_spoils.1 ∈ zq_tbl := zq_in 599 (by decide +kernel) rfl
theorem zl_S_178 : Cond.methodLink "ThirdSon" 178 zm_D_thingsOf.1 ∈ zq_tbl := zq_in 603 (by decide +kernel) rfl
theorem zl_D_83 : Cond.methodLink "ThirdSon$Duchy" 83 zm_D_ownerNow.1 ∈ zq_tbl := zq_in 607 (by decide +kernel) rfl
theorem zl_L_97 : Cond.methodLink "ThirdSonLaw" 97 zm_S_dead.1 ∈ zq_tbl := zq_in 608 (by decide +kernel) rfl
theorem zl_S_185 : Cond.methodLink "ThirdSon" 185 zm_D_allRules.1 ∈ zq_tbl := zq_in 612 (by decide +kernel) rfl
theorem zl_S_189 : Cond.methodLink "ThirdSon" 189 zm_S_givingSomewhere.1 ∈ zq_tbl := zq_in 616 (by decide +kernel) rfl
theorem zl_S_206 : Cond.methodLink "ThirdSon" 206 zm_D_cases.1 ∈ zq_tbl := zq_in 620 (by decide +kernel) rfl
theorem zl_S_283 : Cond.methodLink "ThirdSon" 283 zm_D_givingRules.1 ∈ zq_tbl := zq_in 624 (by decide +kernel) rfl
theorem zl_S_192 : Cond.methodLink "ThirdSon" 192 zm_S_givingEverywhere.1 ∈ zq_tbl := zq_in 628 (by decide +kernel) rfl
theorem zl_S_226 : Cond.methodLink "ThirdSon" 226 zm_D_everybody.1 ∈ zq_tbl := zq_in 632 (by decide +kernel) rfl
theorem zl_S_195 : Cond.methodLink "ThirdSon" 195 zm_S_rulesAtWork.1 ∈ zq_tbl := zq_in 633 (by decide +kernel) rfl
theorem zl_L_101 : Cond.methodLink "ThirdSonLaw" 101 zm_S_least.1 ∈ zq_tbl := zq_in 637 (by decide +kernel) rfl
theorem zl_S_198 : Cond.methodLink "ThirdSon" 198 zm_JI_bitCount.1 ∈ zq_tbl := zq_in 641 (by decide +kernel) rfl
theorem zl_JI_265 : Cond.constant "java/lang/Integer" 265 (1431655765) ∈ zq_tbl := zq_in 644 (by decide +kernel) rfl
theorem zl_JI_266 : Cond.constant "java/lang/Integer" 266 (858993459) ∈ zq_tbl := zq_in 645 (by decide +kernel) rfl
theorem zl_JI_267 : Cond.constant "java/lang/Integer" 267 (252645135) ∈ zq_tbl := zq_in 646 (by decide +kernel) rfl
theorem zl_S_203 : Cond.methodLink "ThirdSon" 203 zm_S_sameOwnersBy.1 ∈ zq_tbl := zq_in 647 (by decide +kernel) rfl
theorem zl_L_105 : Cond.methodLink "ThirdSonLaw" 105 zm_S_who.1 ∈ zq_tbl := zq_in 651 (by decide +kernel) rfl
theorem zl_L_109 : Cond.methodLink "ThirdSonLaw" 109 zm_S_via.1 ∈ zq_tbl := zq_in 655 (by decide +kernel) rfl
theorem zl_L_113 : Cond.methodLink "ThirdSonLaw" 113 zm_S_odds.1 ∈ zq_tbl := zq_in 659 (by decide +kernel) rfl
theorem zl_S_209 : Cond.constantLong "ThirdSon" 209 (-1) ∈ zq_tbl := zq_in 663 (by decide +kernel) rfl
theorem zl_S_211 : Cond.methodLink "ThirdSon" 211 zm_S_waysTo.1 ∈ zq_tbl := zq_in 664 (by decide +kernel) rfl
theorem zl_S_215 : Cond.methodLink "ThirdSon" 215 zm_S_power.1 ∈ zq_tbl := zq_in 668 (by decide +kernel) rfl
theorem zl_S_218 : Cond.methodLink "ThirdSon" 218 zm_S_lowestTerms.1 ∈ zq_tbl := zq_in 671 (by decide +kernel) rfl
theorem zl_L_118 : Cond.methodLink "ThirdSonLaw" 118 zm_S_turn.1 ∈ zq_tbl := zq_in 674 (by decide +kernel) rfl
theorem zl_L_122 : Cond.methodLink "ThirdSonLaw" 122 zm_S_best.1 ∈ zq_tbl := zq_in 678 (by decide +kernel) rfl
theorem zl_S_222 : Cond.methodLink "ThirdSon" 222 zm_S_waysTryingFor.1 ∈ zq_tbl := zq_in 682 (by decide +kernel) rfl
theorem zl_S_292 : Cond.constantLong "ThirdSon" 292 (-4) ∈ zq_tbl := zq_in 686 (by decide +kernel) rfl
theorem zl_S_294 : Cond.methodLink "ThirdSon" 294 zm_S_waysAtBest.1 ∈ zq_tbl := zq_in 687 (by decide +kernel) rfl
theorem zl_S_286 : Cond.methodLink "ThirdSon" 286 zm_JM_max.1 ∈ zq_tbl := zq_in 691 (by decide +kernel) rfl
theorem zl_L_126 : Cond.methodLink "ThirdSonLaw" 126 zm_S_see.1 ∈ zq_tbl := zq_in 694 (by decide +kernel) rfl
theorem zl_L_130 : Cond.methodLink "ThirdSonLaw" 130 zm_S_forget.1 ∈ zq_tbl := zq_in 698 (by decide +kernel) rfl
theorem zl_L_134 : Cond.methodLink "ThirdSonLaw" 134 zm_S_fits.1 ∈ zq_tbl := zq_in 702 (by decide +kernel) rfl
theorem zl_S_229 : Cond.methodLink "ThirdSon" 229 zm_S_isAsSeen.1 ∈ zq_tbl := zq_in 706 (by decide +kernel) rfl
theorem zl_L_138 : Cond.methodLink "ThirdSonLaw" 138 zm_S_drift.1 ∈ zq_tbl := zq_in 710 (by decide +kernel) rfl
theorem zl_S_232 : Cond.methodLink "ThirdSon" 232 zm_S_nextSeed.1 ∈ zq_tbl := zq_in 714 (by decide +kernel) rfl
theorem zl_S_298 : Cond.constant "ThirdSon" 298 (1103515245) ∈ zq_tbl := zq_in 717 (by decide +kernel) rfl
theorem zl_S_235 : Cond.methodLink "ThirdSon" 235 zm_S_drawn.1 ∈ zq_tbl := zq_in 718 (by decide +kernel) rfl
theorem zl_L_143 : Cond.methodLink "ThirdSonLaw" 143 zm_S_keep.1 ∈ zq_tbl := zq_in 721 (by decide +kernel) rfl
theorem zl_S_238 : Cond.methodLink "ThirdSon" 238 zm_S_image.1 ∈ zq_tbl := zq_in 725 (by decide +kernel) rfl
theorem zl_L_147 : Cond.methodLink "ThirdSonLaw" 147 zm_S_back.1 ∈ zq_tbl := zq_in 729 (by decide +kernel) rfl
theorem zl_L_151 : Cond.methodLink "ThirdSonLaw" 151 zm_S_sheet.1 ∈ zq_tbl := zq_in 733 (by decide +kernel) rfl
theorem zl_S_242 : Cond.methodLink "ThirdSon" 242 zm_H_isSheet.1 ∈ zq_tbl := zq_in 737 (by decide +kernel) rfl
theorem zl_S_245 : Cond.methodLink "ThirdSon" 245 zm_H_isLane.1 ∈ zq_tbl := zq_in 741 (by decide +kernel) rfl
theorem zl_S_248 : Cond.methodLink "ThirdSon" 248 zm_H_renew.1 ∈ zq_tbl := zq_in 745 (by decide +kernel) rfl
theorem zl_H_23 : Cond.methodLink "ThirdSon$Sheets" 23 zm_H_isSheet.1 ∈ zq_tbl := zq_in 749 (by decide +kernel) rfl
theorem zl_L_155 : Cond.methodLink "ThirdSonLaw" 155 zm_S_lay.1 ∈ zq_tbl := zq_in 750 (by decide +kernel) rfl
theorem zl_S_252 : Cond.methodLink "ThirdSon" 252 zm_H_laneOf.1 ∈ zq_tbl := zq_in 754 (by decide +kernel) rfl
theorem zl_S_255 : Cond.methodLink "ThirdSon" 255 zm_H_faultAt.1 ∈ zq_tbl := zq_in 758 (by decide +kernel) rfl
theorem zl_H_27 : Cond.methodLink "ThirdSon$Sheets" 27 zm_H_laneOf.1 ∈ zq_tbl := zq_in 762 (by decide +kernel) rfl
theorem zl_H_31 : Cond.methodLink "ThirdSon$Sheets" 31 zm_H_isCell.1 ∈ zq_tbl := zq_in 763 (by decide +kernel) rfl
theorem zl_H_35 : Cond.methodLink "ThirdSon$Sheets" 35 zm_H_sizeOf.1 ∈ zq_tbl := zq_in 767 (by decide +kernel) rfl
theorem zl_S_258 : Cond.methodLink "ThirdSon" 258 zm_H_put.1 ∈ zq_tbl := zq_in 771 (by decide +kernel) rfl
theorem zl_L_159 : Cond.methodLink "ThirdSonLaw" 159 zm_S_read.1 ∈ zq_tbl := zq_in 775 (by decide +kernel) rfl
theorem zl_S_261 : Cond.methodLink "ThirdSon" 261 zm_H_cell.1 ∈ zq_tbl := zq_in 779 (by decide +kernel) rfl
theorem zl_L_163 : Cond.methodLink "ThirdSonLaw" 163 zm_S_torn.1 ∈ zq_tbl := zq_in 783 (by decide +kernel) rfl
theorem zl_L_167 : Cond.methodLink "ThirdSonLaw" 167 zm_S_count.1 ∈ zq_tbl := zq_in 787 (by decide +kernel) rfl
theorem zl_S_267 : Cond.methodLink "ThirdSon" 267 zm_H_sizeOf.1 ∈ zq_tbl := zq_in 791 (by decide +kernel) rfl
theorem zl_S_270 : Cond.methodLink "ThirdSon" 270 zm_D_ownedThings.1 ∈ zq_tbl := zq_in 792 (by decide +kernel) rfl
theorem zl_S_273 : Cond.methodLink "ThirdSon" 273 zm_D_knownFacts.1 ∈ zq_tbl := zq_in 796 (by decide +kernel) rfl
theorem zl_D_97 : Cond.methodLink "ThirdSon$Duchy" 97 zm_JI_bitCount.1 ∈ zq_tbl := zq_in 800 (by decide +kernel) rfl
theorem zl_S_276 : Cond.methodLink "ThirdSon" 276 zm_D_allTries.1 ∈ zq_tbl := zq_in 801 (by decide +kernel) rfl
theorem zl_L_12 : Cond.methodLink "ThirdSonLaw" 12 zm_M_init.1 ∈ zq_tbl := zq_in 807 (by decide +kernel) rfl
theorem zl_M_7 : Cond.fieldLink "ThirdSonModel" 7 "ThirdSonModel" "state" "[I" ∈ zq_tbl := zq_in 811 (by decide +kernel) rfl
theorem zl_M_13 : Cond.fieldLink "ThirdSonModel" 13 "ThirdSonModel" "parents" "[I" ∈ zq_tbl := zq_in 812 (by decide +kernel) rfl
theorem zl_M_16 : Cond.fieldLink "ThirdSonModel" 16 "ThirdSonModel" "rules" "[I" ∈ zq_tbl := zq_in 813 (by decide +kernel) rfl
theorem zl_M_158 : Cond.fieldLink "ThirdSonModel" 158 "ThirdSonModel" "oneMany" "I" ∈ zq_tbl := zq_in 814 (by decide +kernel) rfl
theorem zl_M_161 : Cond.fieldLink "ThirdSonModel" 161 "ThirdSonModel" "ruleMany" "I" ∈ zq_tbl := zq_in 815 (by decide +kernel) rfl
theorem zl_M_19 : Cond.fieldLink "ThirdSonModel" 19 "ThirdSonModel" "readPage" "[I" ∈ zq_tbl := zq_in 816 (by decide +kernel) rfl
theorem zl_M_22 : Cond.fieldLink "ThirdSonModel" 22 "ThirdSonModel" "readParents" "[I" ∈ zq_tbl := zq_in 817 (by decide +kernel) rfl
theorem zl_M_25 : Cond.fieldLink "ThirdSonModel" 25 "ThirdSonModel" "readRules" "[I" ∈ zq_tbl := zq_in 818 (by decide +kernel) rfl
theorem zl_M_134 : Cond.fieldLink "ThirdSonModel" 134 "ThirdSonModel" "readOnes" "I" ∈ zq_tbl := zq_in 819 (by decide +kernel) rfl
theorem zl_M_125 : Cond.fieldLink "ThirdSonModel" 125 "ThirdSonModel" "readMany" "I" ∈ zq_tbl := zq_in 820 (by decide +kernel) rfl
theorem zl_M_137 : Cond.fieldLink "ThirdSonModel" 137 "ThirdSonModel" "oddsTold" "I" ∈ zq_tbl := zq_in 821 (by decide +kernel) rfl
theorem zl_M_114 : Cond.fieldLink "ThirdSonModel" 114 "ThirdSonModel" "highOne" "I" ∈ zq_tbl := zq_in 822 (by decide +kernel) rfl
theorem zl_M_28 : Cond.fieldLink "ThirdSonModel" 28 "ThirdSonModel" "tape" "[I" ∈ zq_tbl := zq_in 823 (by decide +kernel) rfl
theorem zl_M_69 : Cond.fieldLink "ThirdSonModel" 69 "ThirdSonModel" "taped" "I" ∈ zq_tbl := zq_in 824 (by decide +kernel) rfl
theorem zl_M_155 : Cond.fieldLink "ThirdSonModel" 155 "ThirdSonModel" "fault" "I" ∈ zq_tbl := zq_in 825 (by decide +kernel) rfl
theorem zl_M_73 : Cond.fieldLink "ThirdSonModel" 73 "ThirdSonModel" "broken" "I" ∈ zq_tbl := zq_in 826 (by decide +kernel) rfl
theorem zl_M_79 : Cond.fieldLink "ThirdSonModel" 79 "ThirdSonModel" "brokenAt" "I" ∈ zq_tbl := zq_in 827 (by decide +kernel) rfl
theorem zl_M_85 : Cond.fieldLink "ThirdSonModel" 85 "ThirdSonModel" "spot" "I" ∈ zq_tbl := zq_in 828 (by decide +kernel) rfl
theorem zl_M_76 : Cond.fieldLink "ThirdSonModel" 76 "ThirdSonModel" "here" "I" ∈ zq_tbl := zq_in 829 (by decide +kernel) rfl
theorem zl_M_82 : Cond.fieldLink "ThirdSonModel" 82 "ThirdSonModel" "token" "I" ∈ zq_tbl := zq_in 830 (by decide +kernel) rfl
theorem zl_M_92 : Cond.fieldLink "ThirdSonModel" 92 "ThirdSonModel" "value" "I" ∈ zq_tbl := zq_in 831 (by decide +kernel) rfl
theorem zl_M_31 : Cond.fieldLink "ThirdSonModel" 31 "ThirdSonModel" "cuts" "[I" ∈ zq_tbl := zq_in 832 (by decide +kernel) rfl
theorem zl_M_34 : Cond.fieldLink "ThirdSonModel" 34 "ThirdSonModel" "letters" "[I" ∈ zq_tbl := zq_in 833 (by decide +kernel) rfl
theorem zl_M_37 : Cond.fieldLink "ThirdSonModel" 37 "ThirdSonModel" "mosts" "[I" ∈ zq_tbl := zq_in 834 (by decide +kernel) rfl
theorem zl_M_40 : Cond.fieldLink "ThirdSonModel" 40 "ThirdSonModel" "row" "[I" ∈ zq_tbl := zq_in 835 (by decide +kernel) rfl
theorem zl_M_243 : Cond.fieldLink "ThirdSonModel" 243 "ThirdSonModel" "block" "I" ∈ zq_tbl := zq_in 836 (by decide +kernel) rfl
theorem zl_M_43 : Cond.fieldLink "ThirdSonModel" 43 "ThirdSonModel" "values" "[J" ∈ zq_tbl := zq_in 837 (by decide +kernel) rfl
theorem zl_M_47 : Cond.fieldLink "ThirdSonModel" 47 "ThirdSonModel" "seen" "[I" ∈ zq_tbl := zq_in 838 (by decide +kernel) rfl
theorem zl_M_164 : Cond.fieldLink "ThirdSonModel" 164 "ThirdSonModel" "seenMany" "I" ∈ zq_tbl := zq_in 839 (by decide +kernel) rfl
theorem zl_M_50 : Cond.fieldLink "ThirdSonModel" 50 "ThirdSonModel" "isKept" "[Z" ∈ zq_tbl := zq_in 840 (by decide +kernel) rfl
theorem zl_M_54 : Cond.fieldLink "ThirdSonModel" 54 "ThirdSonModel" "lanes" "[I" ∈ zq_tbl := zq_in 841 (by decide +kernel) rfl
theorem zl_M_57 : Cond.fieldLink "ThirdSonModel" 57 "ThirdSonModel" "lengths" "[I" ∈ zq_tbl := zq_in 842 (by decide +kernel) rfl
theorem zl_M_60 : Cond.fieldLink "ThirdSonModel" 60 "ThirdSonModel" "cells" "[I" ∈ zq_tbl := zq_in 843 (by decide +kernel) rfl
theorem zl_M_294 : Cond.fieldLink "ThirdSonModel" 294 "ThirdSonModel" "torn" "I" ∈ zq_tbl := zq_in 844 (by decide +kernel) rfl
theorem zl_L_17 : Cond.methodLink "ThirdSonLaw" 17 zm_M_feed.1 ∈ zq_tbl := zq_in 916 (by decide +kernel) rfl
theorem zl_M_63 : Cond.constantLong "ThirdSonModel" 63 (127) ∈ zq_tbl := zq_in 920 (by decide +kernel) rfl
theorem zl_M_65 : Cond.methodLink "ThirdSonModel" 65 zm_M_in.1 ∈ zq_tbl := zq_in 921 (by decide +kernel) rfl
theorem zl_L_21 : Cond.methodLink "ThirdSonLaw" 21 zm_M_end.1 ∈ zq_tbl := zq_in 924 (by decide +kernel) rfl
theorem zl_L_26 : Cond.methodLink "ThirdSonLaw" 26 zm_M_text.1 ∈ zq_tbl := zq_in 928 (by decide +kernel) rfl
theorem zl_M_107 : Cond.methodLink "ThirdSonModel" 107 zm_M_step.1 ∈ zq_tbl := zq_in 932 (by decide +kernel) rfl
theorem zl_M_88 : Cond.methodLink "ThirdSonModel" 88 zm_M_byteAt.1 ∈ zq_tbl := zq_in 936 (by decide +kernel) rfl
theorem zl_M_95 : Cond.constantLong "ThirdSonModel" 95 (97) ∈ zq_tbl := zq_in 940 (by decide +kernel) rfl
theorem zl_M_97 : Cond.constantLong "ThirdSonModel" 97 (122) ∈ zq_tbl := zq_in 941 (by decide +kernel) rfl
theorem zl_M_99 : Cond.constantLong "ThirdSonModel" 99 (48) ∈ zq_tbl := zq_in 942 (by decide +kernel) rfl
theorem zl_M_101 : Cond.constantLong "ThirdSonModel" 101 (57) ∈ zq_tbl := zq_in 943 (by decide +kernel) rfl
theorem zl_M_103 : Cond.methodLink "ThirdSonModel" 103 zm_M_fails.1 ∈ zq_tbl := zq_in 944 (by decide +kernel) rfl
theorem zl_M_148 : Cond.methodLink "ThirdSonModel" 148 zm_M_readLine.1 ∈ zq_tbl := zq_in 948 (by decide +kernel) rfl
theorem zl_M_117 : Cond.methodLink "ThirdSonModel" 117 zm_M_nameHere.1 ∈ zq_tbl := zq_in 952 (by decide +kernel) rfl
theorem zl_M_143 : Cond.constantLong "ThirdSonModel" 143 (4) ∈ zq_tbl := zq_in 956 (by decide +kernel) rfl
theorem zl_M_145 : Cond.methodLink "ThirdSonModel" 145 zm_M_readMore.1 ∈ zq_tbl := zq_in 957 (by decide +kernel) rfl
theorem zl_M_110 : Cond.methodLink "ThirdSonModel" 110 zm_M_other.1 ∈ zq_tbl := zq_in 961 (by decide +kernel) rfl
theorem zl_M_131 : Cond.methodLink "ThirdSonModel" 131 zm_M_person.1 ∈ zq_tbl := zq_in 965 (by decide +kernel) rfl
theorem zl_M_140 : Cond.methodLink "ThirdSonModel" 140 zm_M_readRule.1 ∈ zq_tbl := zq_in 969 (by decide +kernel) rfl
theorem zl_M_128 : Cond.methodLink "ThirdSonModel" 128 zm_M_claimHere.1 ∈ zq_tbl := zq_in 973 (by decide +kernel) rfl
theorem zl_M_121 : Cond.constantLong "ThirdSonModel" 121 (7) ∈ zq_tbl := zq_in 977 (by decide +kernel) rfl
theorem zl_M_123 : Cond.constantLong "ThirdSonModel" 123 (9) ∈ zq_tbl := zq_in 978 (by decide +kernel) rfl
theorem zl_M_151 : Cond.methodLink "ThirdSonModel" 151 zm_M_areAlike.1 ∈ zq_tbl := zq_in 979 (by decide +kernel) rfl
theorem zl_L_30 : Cond.methodLink "ThirdSonLaw" 30 zm_M_fault.1 ∈ zq_tbl := zq_in 983 (by decide +kernel) rfl
theorem zl_L_34 : Cond.methodLink "ThirdSonLaw" 34 zm_M_rule.1 ∈ zq_tbl := zq_in 987 (by decide +kernel) rfl
theorem zl_L_39 : Cond.methodLink "ThirdSonLaw" 39 zm_M_one.1 ∈ zq_tbl := zq_in 991 (by decide +kernel) rfl
theorem zl_M_203 : Cond.methodLink "ThirdSonModel" 203 zm_M_isOne.1 ∈ zq_tbl := zq_in 995 (by decide +kernel) rfl
theorem zl_M_207 : Cond.constantLong "ThirdSonModel" 207 (5) ∈ zq_tbl := zq_in 999 (by decide +kernel) rfl
theorem zl_M_173 : Cond.methodLink "ThirdSonModel" 173 zm_M_bornAs.1 ∈ zq_tbl := zq_in 1000 (by decide +kernel) rfl
theorem zl_M_169 : Cond.methodLink "ThirdSonModel" 169 zm_M_isThere.1 ∈ zq_tbl := zq_in 1004 (by decide +kernel) rfl
theorem zl_M_180 : Cond.methodLink "ThirdSonModel" 180 zm_M_childrenOf.1 ∈ zq_tbl := zq_in 1007 (by decide +kernel) rfl
theorem zl_L_43 : Cond.methodLink "ThirdSonLaw" 43 zm_M_odd.1 ∈ zq_tbl := zq_in 1011 (by decide +kernel) rfl
theorem zl_M_209 : Cond.methodLink "ThirdSonModel" 209 zm_M_isFact.1 ∈ zq_tbl := zq_in 1015 (by decide +kernel) rfl
theorem zl_L_47 : Cond.methodLink "ThirdSonLaw" 47 zm_M_law.1 ∈ zq_tbl := zq_in 1018 (by decide +kernel) rfl
theorem zl_M_212 : Cond.methodLink "ThirdSonModel" 212 zm_M_isRule.1 ∈ zq_tbl := zq_in 1022 (by decide +kernel) rfl
theorem zl_M_215 : Cond.constantLong "ThirdSonModel" 215 (6) ∈ zq_tbl := zq_in 1026 (by decide +kernel) rfl
theorem zl_M_187 : Cond.methodLink "ThirdSonModel" 187 zm_M_whoMeet.1 ∈ zq_tbl := zq_in 1027 (by decide +kernel) rfl
theorem zl_M_183 : Cond.methodLink "ThirdSonModel" 183 zm_M_meets.1 ∈ zq_tbl := zq_in 1031 (by decide +kernel) rfl
theorem zl_M_177 : Cond.methodLink "ThirdSonModel" 177 zm_M_isAbove.1 ∈ zq_tbl := zq_in 1035 (by decide +kernel) rfl
theorem zl_M_197 : Cond.methodLink "ThirdSonModel" 197 zm_M_gives.1 ∈ zq_tbl := zq_in 1039 (by decide +kernel) rfl
theorem zl_M_190 : Cond.methodLink "ThirdSonModel" 190 zm_M_givesBy.1 ∈ zq_tbl := zq_in 1043 (by decide +kernel) rfl
theorem zl_L_51 : Cond.methodLink "ThirdSonLaw" 51 zm_M_owner.1 ∈ zq_tbl := zq_in 1047 (by decide +kernel) rfl
theorem zl_M_217 : Cond.methodLink "ThirdSonModel" 217 zm_M_isThing.1 ∈ zq_tbl := zq_in 1051 (by decide +kernel) rfl
theorem zl_M_167 : Cond.constantLong "ThirdSonModel" 167 (3) ∈ zq_tbl := zq_in 1054 (by decide +kernel) rfl
theorem zl_M_220 : Cond.methodLink "ThirdSonModel" 220 zm_M_ownerIn.1 ∈ zq_tbl := zq_in 1055 (by decide +kernel) rfl
theorem zl_M_200 : Cond.methodLink "ThirdSonModel" 200 zm_M_ownerBy.1 ∈ zq_tbl := zq_in 1059 (by decide +kernel) rfl
theorem zl_M_193 : Cond.methodLink "ThirdSonModel" 193 zm_M_ruleBy.1 ∈ zq_tbl := zq_in 1063 (by decide +kernel) rfl
theorem zl_L_55 : Cond.methodLink "ThirdSonLaw" 55 zm_M_by.1 ∈ zq_tbl := zq_in 1067 (by decide +kernel) rfl
theorem zl_L_59 : Cond.methodLink "ThirdSonLaw" 59 zm_M_does.1 ∈ zq_tbl := zq_in 1071 (by decide +kernel) rfl
theorem zl_M_232 : Cond.methodLink "ThirdSonModel" 232 zm_M_done.1 ∈ zq_tbl := zq_in 1075 (by decide +kernel) rfl
theorem zl_M_223 : Cond.methodLink "ThirdSonModel" 223 zm_M_isDeed.1 ∈ zq_tbl := zq_in 1079 (by decide +kernel) rfl
theorem zl_M_226 : Cond.methodLink "ThirdSonModel" 226 zm_M_canDo.1 ∈ zq_tbl := zq_in 1083 (by decide +kernel) rfl
theorem zl_M_229 : Cond.methodLink "ThirdSonModel" 229 zm_M_doesIt.1 ∈ zq_tbl := zq_in 1087 (by decide +kernel) rfl
theorem zl_L_63 : Cond.methodLink "ThirdSonLaw" 63 zm_M_comes.1 ∈ zq_tbl := zq_in 1091 (by decide +kernel) rfl
theorem zl_L_67 : Cond.methodLink "ThirdSonLaw" 67 zm_M_tries.1 ∈ zq_tbl := zq_in 1095 (by decide +kernel) rfl
theorem zl_M_235 : Cond.methodLink "ThirdSonModel" 235 zm_M_sets.1 ∈ zq_tbl := zq_in 1099 (by decide +kernel) rfl
theorem zl_L_71 : Cond.methodLink "ThirdSonLaw" 71 zm_M_hush.1 ∈ zq_tbl := zq_in 1103 (by decide +kernel) rfl
theorem zl_L_75 : Cond.methodLink "ThirdSonLaw" 75 zm_M_weigh.1 ∈ zq_tbl := zq_in 1107 (by decide +kernel) rfl
theorem zl_M_239 : Cond.constantLong "ThirdSonModel" 239 (10) ∈ zq_tbl := zq_in 1111 (by decide +kernel) rfl
theorem zl_L_79 : Cond.methodLink "ThirdSonLaw" 79 zm_M_rank.1 ∈ zq_tbl := zq_in 1112 (by decide +kernel) rfl
theorem zl_L_83 : Cond.methodLink "ThirdSonLaw" 83 zm_M_pick.1 ∈ zq_tbl := zq_in 1116 (by decide +kernel) rfl
theorem zl_M_241 : Cond.constantLong "ThirdSonModel" 241 (2) ∈ zq_tbl := zq_in 1120 (by decide +kernel) rfl
theorem zl_L_88 : Cond.methodLink "ThirdSonLaw" 88 zm_M_claim.1 ∈ zq_tbl := zq_in 1121 (by decide +kernel) rfl
theorem zl_M_250 : Cond.methodLink "ThirdSonModel" 250 zm_M_isHisBy.1 ∈ zq_tbl := zq_in 1125 (by decide +kernel) rfl
theorem zl_M_246 : Cond.methodLink "ThirdSonModel" 246 zm_M_copies.1 ∈ zq_tbl := zq_in 1129 (by decide +kernel) rfl
theorem zl_L_92 : Cond.methodLink "ThirdSonLaw" 92 zm_M_pivot.1 ∈ zq_tbl := zq_in 1133 (by decide +kernel) rfl
theorem zl_L_96 : Cond.methodLink "ThirdSonLaw" 96 zm_M_spoils.1 ∈ zq_tbl := zq_in 1137 (by decide +kernel) rfl
theorem zl_L_100 : Cond.methodLink "ThirdSonLaw" 100 zm_M_dead.1 ∈ zq_tbl := zq_in 1141 (by decide +kernel) rfl
theorem zl_M_254 : Cond.methodLink "ThirdSonModel" 254 zm_M_cases.1 ∈ zq_tbl := zq_in 1145 (by decide +kernel) rfl
theorem zl_L_104 : Cond.methodLink "ThirdSonLaw" 104 zm_M_least.1 ∈ zq_tbl := zq_in 1149 (by decide +kernel) rfl
theorem zl_M_257 : Cond.methodLink "ThirdSonModel" 257 zm_M_bitsOf.1 ∈ zq_tbl := zq_in 1153 (by decide +kernel) rfl
theorem zl_M_260 : Cond.methodLink "ThirdSonModel" 260 zm_M_isEnough.1 ∈ zq_tbl := zq_in 1156 (by decide +kernel) rfl
theorem zl_L_108 : Cond.methodLink "ThirdSonLaw" 108 zm_M_who.1 ∈ zq_tbl := zq_in 1160 (by decide +kernel) rfl
theorem zl_L_112 : Cond.methodLink "ThirdSonLaw" 112 zm_M_via.1 ∈ zq_tbl := zq_in 1164 (by decide +kernel) rfl
theorem zl_L_117 : Cond.methodLink "ThirdSonLaw" 117 zm_M_odds.1 ∈ zq_tbl := zq_in 1168 (by decide +kernel) rfl
theorem zl_M_263 : Cond.constantLong "ThirdSonModel" 263 (-1) ∈ zq_tbl := zq_in 1172 (by decide +kernel) rfl
theorem zl_M_265 : Cond.methodLink "ThirdSonModel" 265 zm_M_lowest.1 ∈ zq_tbl := zq_in 1173 (by decide +kernel) rfl
theorem zl_L_121 : Cond.methodLink "ThirdSonLaw" 121 zm_M_turn.1 ∈ zq_tbl := zq_in 1176 (by decide +kernel) rfl
theorem zl_L_125 : Cond.methodLink "ThirdSonLaw" 125 zm_M_best.1 ∈ zq_tbl := zq_in 1180 (by decide +kernel) rfl
theorem zl_M_285 : Cond.methodLink "ThirdSonModel" 285 zm_M_layValues.1 ∈ zq_tbl := zq_in 1184 (by decide +kernel) rfl
theorem zl_M_273 : Cond.methodLink "ThirdSonModel" 273 zm_M_stops.1 ∈ zq_tbl := zq_in 1188 (by decide +kernel) rfl
theorem zl_M_277 : Cond.methodLink "ThirdSonModel" 277 zm_M_tens.1 ∈ zq_tbl := zq_in 1192 (by decide +kernel) rfl
theorem zl_M_269 : Cond.constantLong "ThirdSonModel" 269 (100) ∈ zq_tbl := zq_in 1195 (by decide +kernel) rfl
theorem zl_M_271 : Cond.constantLong "ThirdSonModel" 271 (1000) ∈ zq_tbl := zq_in 1196 (by decide +kernel) rfl
theorem zl_M_281 : Cond.methodLink "ThirdSonModel" 281 zm_M_triesFor.1 ∈ zq_tbl := zq_in 1197 (by decide +kernel) rfl
theorem zl_L_129 : Cond.methodLink "ThirdSonLaw" 129 zm_M_see.1 ∈ zq_tbl := zq_in 1201 (by decide +kernel) rfl
theorem zl_L_133 : Cond.methodLink "ThirdSonLaw" 133 zm_M_forget.1 ∈ zq_tbl := zq_in 1205 (by decide +kernel) rfl
theorem zl_L_137 : Cond.methodLink "ThirdSonLaw" 137 zm_M_fits.1 ∈ zq_tbl := zq_in 1209 (by decide +kernel) rfl
theorem zl_L_142 : Cond.methodLink "ThirdSonLaw" 142 zm_M_drift.1 ∈ zq_tbl := zq_in 1213 (by decide +kernel) rfl
theorem zl_M_289 : Cond.constantLong "ThirdSonModel" 289 (60) ∈ zq_tbl := zq_in 1217 (by decide +kernel) rfl
theorem zl_M_291 : Cond.constant "ThirdSonModel" 291 (1103515245) ∈ zq_tbl := zq_in 1218 (by decide +kernel) rfl
theorem zl_L_146 : Cond.methodLink "ThirdSonLaw" 146 zm_M_keep.1 ∈ zq_tbl := zq_in 1219 (by decide +kernel) rfl
theorem zl_L_150 : Cond.methodLink "ThirdSonLaw" 150 zm_M_back.1 ∈ zq_tbl := zq_in 1223 (by decide +kernel) rfl
theorem zl_L_154 : Cond.methodLink "ThirdSonLaw" 154 zm_M_sheet.1 ∈ zq_tbl := zq_in 1227 (by decide +kernel) rfl
theorem zl_L_158 : Cond.methodLink "ThirdSonLaw" 158 zm_M_lay.1 ∈ zq_tbl := zq_in 1231 (by decide +kernel) rfl
theorem zl_L_162 : Cond.methodLink "ThirdSonLaw" 162 zm_M_read.1 ∈ zq_tbl := zq_in 1235 (by decide +kernel) rfl
theorem zl_M_292 : Cond.constantLong "ThirdSonModel" 292 (20) ∈ zq_tbl := zq_in 1239 (by decide +kernel) rfl
theorem zl_L_166 : Cond.methodLink "ThirdSonLaw" 166 zm_M_torn.1 ∈ zq_tbl := zq_in 1240 (by decide +kernel) rfl
theorem zl_L_170 : Cond.methodLink "ThirdSonLaw" 170 zm_M_count.1 ∈ zq_tbl := zq_in 1244 (by decide +kernel) rfl
theorem zl_JS_9 : Cond.fieldLink "java/lang/String" 9 "java/lang/String" "value" "[B" ∈ zq_tbl := zq_in 1248 (by decide +kernel) rfl
theorem zl_JS_15 : Cond.fieldLink "java/lang/String" 15 "java/lang/String" "coder" "B" ∈ zq_tbl := zq_in 1249 (by decide +kernel) rfl
theorem zw_D_clear : zq_MV zm_D_clear 0 := ⟨zq_in 161 (by decide +kernel) rfl, zq_in 159 (by decide +kernel) rfl, zq_in 160 (by decide +kernel) rfl, zq_in 65 (by decide +kernel) rfl, by decide +kernel, by decide +kernel, by decide +kernel, by decide +kernel⟩
theorem zw_D_copyFrom : zq_MV zm_D_copyFrom 1 := ⟨zq_in 586 (by decide +kernel) rfl, zq_in 584 (by decide +kernel) rfl, zq_in 585 (by decide +kernel) rfl, zq_in 65 (by decide +kernel) rfl, by decide +kernel, by decide +kernel, by decide +kernel, by decide +kernel⟩
theorem zw_D_addOne : zq_MV zm_D_addOne 1 := ⟨zq_in 384 (by decide +kernel) rfl, zq_in 382 (by decide +kernel) rfl, zq_in 383 (by decide +kernel) rfl, zq_in 65 (by decide +kernel) rfl, by decide +kernel, by decide +kernel, by decide +kernel, by decide +kernel⟩
theorem zw_D_addRule : zq_MV zm_D_addRule 5 := ⟨zq_in 445 (by decide +kernel) rfl, zq_in 443 (by decide +kernel) rfl, zq_in 444 (by decide +kernel) rfl, zq_in 65 (by decide +kernel) rfl, by decide +kernel, by decide +kernel, by decide +kernel, by decide +kernel⟩
theorem zw_D_isOne : zq_MV zm_D_isOne 1 := ⟨zq_in 380 (by decide +kernel) rfl, zq_in 378 (by decide +kernel) rfl, zq_in 379 (by decide +kernel) rfl, zq_in 65 (by decide +kernel) rfl, by decide +kernel, by decide +kernel, by decide +kernel, by decide +kernel⟩
theorem zw_D_isRule : zq_MV zm_D_isRule 1 := ⟨zq_in 492 (by decide +kernel) rfl, zq_in 490 (by decide +kernel) rfl, zq_in 491 (by decide +kernel) rfl, zq_in 65 (by decide +kernel) rfl, by decide +kernel, by decide +kernel, by decide +kernel, by decide +kernel⟩
theorem zw_D_isGone : zq_MV zm_D_isGone 1 := ⟨zq_in 411 (by decide +kernel) rfl, zq_in 409 (by decide +kernel) rfl, zq_in 410 (by decide +kernel) rfl, zq_in 65 (by decide +kernel) rfl, by decide +kernel, by decide +kernel, by decide +kernel, by decide +kernel⟩
theorem zw_D_isKnown : zq_MV zm_D_isKnown 2 := ⟨zq_in 546 (by decide +kernel) rfl, zq_in 544 (by decide +kernel) rfl, zq_in 545 (by decide +kernel) rfl, zq_in 65 (by decide +kernel) rfl, by decide +kernel, by decide +kernel, by decide +kernel, by decide +kernel⟩
theorem zw_D_everybody : zq_MV zm_D_everybody 0 := ⟨zq_in 453 (by decide +kernel) rfl, zq_in 451 (by decide +kernel) rfl, zq_in 452 (by decide +kernel) rfl, zq_in 65 (by decide +kernel) rfl, by decide +kernel, by decide +kernel, by decide +kernel, by decide +kernel⟩
theorem zw_D_allRules : zq_MV zm_D_allRules 0 := ⟨zq_in 615 (by decide +kernel) rfl, zq_in 613 (by decide +kernel) rfl, zq_in 614 (by decide +kernel) rfl, zq_in 65 (by decide +kernel) rfl, by decide +kernel, by decide +kernel, by decide +kernel, by decide +kernel⟩
theorem zw_D_cases : zq_MV zm_D_cases 0 := ⟨zq_in 623 (by decide +kernel) rfl, zq_in 621 (by decide +kernel) rfl, zq_in 622 (by decide +kernel) rfl, zq_in 65 (by decide +kernel) rfl, by decide +kernel, by decide +kernel, by decide +kernel, by decide +kernel⟩
theorem zw_D_placeAmongBorn : zq_MV zm_D_placeAmongBorn 2 := ⟨zq_in 475 (by decide +kernel) rfl, zq_in 473 (by decide +kernel) rfl, zq_in 474 (by decide +kernel) rfl, zq_in 65 (by decide +kernel) rfl, by decide +kernel, by decide +kernel, by decide +kernel, by decide +kernel⟩
theorem zw_D_childrenLeft : zq_MV zm_D_childrenLeft 2 := ⟨zq_in 479 (by decide +kernel) rfl, zq_in 477 (by decide +kernel) rfl, zq_in 478 (by decide +kernel) rfl, zq_in 65 (by decide +kernel) rfl, by decide +kernel, by decide +kernel, by decide +kernel, by decide +kernel⟩
theorem zw_D_meets : zq_MV zm_D_meets 3 := ⟨zq_in 500 (by decide +kernel) rfl, zq_in 498 (by decide +kernel) rfl, zq_in 499 (by decide +kernel) rfl, zq_in 65 (by decide +kernel) rfl, by decide +kernel, by decide +kernel, by decide +kernel, by decide +kernel⟩
theorem zw_D_whoMeet : zq_MV zm_D_whoMeet 2 := ⟨zq_in 496 (by decide +kernel) rfl, zq_in 494 (by decide +kernel) rfl, zq_in 495 (by decide +kernel) rfl, zq_in 65 (by decide +kernel) rfl, by decide +kernel, by decide +kernel, by decide +kernel, by decide +kernel⟩
theorem zw_D_receiver : zq_MV zm_D_receiver 2 := ⟨zq_in 507 (by decide +kernel) rfl, zq_in 505 (by decide +kernel) rfl, zq_in 506 (by decide +kernel) rfl, zq_in 65 (by decide +kernel) rfl, by decide +kernel, by decide +kernel, by decide +kernel, by decide +kernel⟩
theorem zw_D_rightOn : zq_MV zm_D_rightOn 3 := ⟨zq_in 526 (by decide +kernel) rfl, zq_in 524 (by decide +kernel) rfl, zq_in 525 (by decide +kernel) rfl, zq_in 65 (by decide +kernel) rfl, by decide +kernel, by decide +kernel, by decide +kernel, by decide +kernel⟩
theorem zw_D_ownerIn : zq_MV zm_D_ownerIn 3 := ⟨zq_in 522 (by decide +kernel) rfl, zq_in 520 (by decide +kernel) rfl, zq_in 521 (by decide +kernel) rfl, zq_in 65 (by decide +kernel) rfl, by decide +kernel, by decide +kernel, by decide +kernel, by decide +kernel⟩
theorem zw_D_ownerNow : zq_MV zm_D_ownerNow 1 := ⟨zq_in 518 (by decide +kernel) rfl, zq_in 516 (by decide +kernel) rfl, zq_in 517 (by decide +kernel) rfl, zq_in 65 (by decide +kernel) rfl, by decide +kernel, by decide +kernel, by decide +kernel, by decide +kernel⟩
theorem zw_D_thingsOf : zq_MV zm_D_thingsOf 1 := ⟨zq_in 606 (by decide +kernel) rfl, zq_in 604 (by decide +kernel) rfl, zq_in 605 (by decide +kernel) rfl, zq_in 65 (by decide +kernel) rfl, by decide +kernel, by decide +kernel, by decide +kernel, by decide +kernel⟩
theorem zw_D_givingRules : zq_MV zm_D_givingRules 1 := ⟨zq_in 627 (by decide +kernel) rfl, zq_in 625 (by decide +kernel) rfl, zq_in 626 (by decide +kernel) rfl, zq_in 65 (by decide +kernel) rfl, by decide +kernel, by decide +kernel, by decide +kernel, by decide +kernel⟩
theorem zw_D_act : zq_MV zm_D_act 1 := ⟨zq_in 540 (by decide +kernel) rfl, zq_in 538 (by decide +kernel) rfl, zq_in 539 (by decide +kernel) rfl, zq_in 65 (by decide +kernel) rfl, by decide +kernel, by decide +kernel, by decide +kernel, by decide +kernel⟩
theorem zw_D_takeBack : zq_MV zm_D_takeBack 1 := ⟨zq_in 594 (by decide +kernel) rfl, zq_in 592 (by decide +kernel) rfl, zq_in 593 (by decide +kernel) rfl, zq_in 65 (by decide +kernel) rfl, by decide +kernel, by decide +kernel, by decide +kernel, by decide +kernel⟩
theorem zw_D_hasEqualRanks : zq_MV zm_D_hasEqualRanks 0 := ⟨zq_in 457 (by decide +kernel) rfl, zq_in 455 (by decide +kernel) rfl, zq_in 456 (by decide +kernel) rfl, zq_in 65 (by decide +kernel) rfl, by decide +kernel, by decide +kernel, by decide +kernel, by decide +kernel⟩
theorem zw_D_ownedThings : zq_MV zm_D_ownedThings 0 := ⟨zq_in 795 (by decide +kernel) rfl, zq_in 793 (by decide +kernel) rfl, zq_in 794 (by decide +kernel) rfl, zq_in 65 (by decide +kernel) rfl, by decide +kernel, by decide +kernel, by decide +kernel, by decide +kernel⟩
theorem zw_D_knownFacts : zq_MV zm_D_knownFacts 0 := ⟨zq_in 799 (by decide +kernel) rfl, zq_in 797 (by decide +kernel) rfl, zq_in 798 (by decide +kernel) rfl, zq_in 65 (by decide +kernel) rfl, by decide +kernel, by decide +kernel, by decide +kernel, by decide +kernel⟩
theorem zw_D_allTries : zq_MV zm_D_allTries 0 := ⟨zq_in 804 (by decide +kernel) rfl, zq_in 802 (by decide +kernel) rfl, zq_in 803 (by decide +kernel) rfl, zq_in 65 (by decide +kernel) rfl, by decide +kernel, by decide +kernel, by decide +kernel, by decide +kernel⟩
theorem zw_H_isSheet : zq_MV zm_H_isSheet 1 := ⟨zq_in 740 (by decide +kernel) rfl, zq_in 738 (by decide +kernel) rfl, zq_in 739 (by decide +kernel) rfl, zq_in 64 (by decide +kernel) rfl, by decide +kernel, by decide +kernel, by decide +kernel, by decide +kernel⟩
theorem zw_H_isLane : zq_MV zm_H_isLane 1 := ⟨zq_in 744 (by decide +kernel) rfl, zq_in 742 (by decide +kernel) rfl, zq_in 743 (by decide +kernel) rfl, zq_in 64 (by decide +kernel) rfl, by decide +kernel, by decide +kernel, by decide +kernel, by decide +kernel⟩
theorem zw_H_laneOf : zq_MV zm_H_laneOf 1 := ⟨zq_in 757 (by decide +kernel) rfl, zq_in 755 (by decide +kernel) rfl, zq_in 756 (by decide +kernel) rfl, zq_in 64 (by decide +kernel) rfl, by decide +kernel, by decide +kernel, by decide +kernel, by decide +kernel⟩
theorem zw_H_sizeOf : zq_MV zm_H_sizeOf 1 := ⟨zq_in 770 (by decide +kernel) rfl, zq_in 768 (by decide +kernel) rfl, zq_in 769 (by decide +kernel) rfl, zq_in 64 (by decide +kernel) rfl, by decide +kernel, by decide +kernel, by decide +kernel, by decide +kernel⟩
theorem zw_H_renew : zq_MV zm_H_renew 3 := ⟨zq_in 748 (by decide +kernel) rfl, zq_in 746 (by decide +kernel) rfl, zq_in 747 (by decide +kernel) rfl, zq_in 64 (by decide +kernel) rfl, by decide +kernel, by decide +kernel, by decide +kernel, by decide +kernel⟩
theorem zw_H_faultAt : zq_MV zm_H_faultAt 3 := ⟨zq_in 761 (by decide +kernel) rfl, zq_in 759 (by decide +kernel) rfl, zq_in 760 (by decide +kernel) rfl, zq_in 64 (by decide +kernel) rfl, by decide +kernel, by decide +kernel, by decide +kernel, by decide +kernel⟩
theorem zw_H_put : zq_MV zm_H_put 3 := ⟨zq_in 774 (by decide +kernel) rfl, zq_in 772 (by decide +kernel) rfl, zq_in 773 (by decide +kernel) rfl, zq_in 64 (by decide +kernel) rfl, by decide +kernel, by decide +kernel, by decide +kernel, by decide +kernel⟩
theorem zw_H_cell : zq_MV zm_H_cell 2 := ⟨zq_in 782 (by decide +kernel) rfl, zq_in 780 (by decide +kernel) rfl, zq_in 781 (by decide +kernel) rfl, zq_in 64 (by decide +kernel) rfl, by decide +kernel, by decide +kernel, by decide +kernel, by decide +kernel⟩
theorem zw_H_isCell : zq_MV zm_H_isCell 2 := ⟨zq_in 766 (by decide +kernel) rfl, zq_in 765 (by decide +kernel) rfl, zq_in 24 (by decide +kernel) rfl, zq_in 64 (by decide +kernel) rfl, by decide +kernel, by decide +kernel, by decide +kernel, by decide +kernel⟩
theorem zw_P_append : zq_MV zm_P_append 1 := ⟨zq_in 272 (by decide +kernel) rfl, zq_in 270 (by decide +kernel) rfl, zq_in 271 (by decide +kernel) rfl, zq_in 62 (by decide +kernel) rfl, by decide +kernel, by decide +kernel, by decide +kernel, by decide +kernel⟩
theorem zw_P_rewind : zq_MV zm_P_rewind 0 := ⟨zq_in 289 (by decide +kernel) rfl, zq_in 287 (by decide +kernel) rfl, zq_in 288 (by decide +kernel) rfl, zq_in 62 (by decide +kernel) rfl, by decide +kernel, by decide +kernel, by decide +kernel, by decide +kernel⟩
theorem zw_P_advance : zq_MV zm_P_advance 0 := ⟨zq_in 293 (by decide +kernel) rfl, zq_in 291 (by decide +kernel) rfl, zq_in 292 (by decide +kernel) rfl, zq_in 62 (by decide +kernel) rfl, by decide +kernel, by decide +kernel, by decide +kernel, by decide +kernel⟩
theorem zw_P_isWord : zq_MV zm_P_isWord 1 := ⟨zq_in 320 (by decide +kernel) rfl, zq_in 318 (by decide +kernel) rfl, zq_in 319 (by decide +kernel) rfl, zq_in 62 (by decide +kernel) rfl, by decide +kernel, by decide +kernel, by decide +kernel, by decide +kernel⟩
theorem zw_P_readName : zq_MV zm_P_readName 0 := ⟨zq_in 304 (by decide +kernel) rfl, zq_in 303 (by decide +kernel) rfl, zq_in 1 (by decide +kernel) rfl, zq_in 62 (by decide +kernel) rfl, by decide +kernel, by decide +kernel, by decide +kernel, by decide +kernel⟩
theorem zw_P_readNumber : zq_MV zm_P_readNumber 0 := ⟨zq_in 311 (by decide +kernel) rfl, zq_in 310 (by decide +kernel) rfl, zq_in 2 (by decide +kernel) rfl, zq_in 62 (by decide +kernel) rfl, by decide +kernel, by decide +kernel, by decide +kernel, by decide +kernel⟩
theorem zw_P_byteAt : zq_MV zm_P_byteAt 1 := ⟨zq_in 297 (by decide +kernel) rfl, zq_in 296 (by decide +kernel) rfl, zq_in 0 (by decide +kernel) rfl, zq_in 62 (by decide +kernel) rfl, by decide +kernel, by decide +kernel, by decide +kernel, by decide +kernel⟩
theorem zw_P_isLetter : zq_MS zm_P_isLetter 1 := ⟨zq_in 300 (by decide +kernel) rfl, zq_in 299 (by decide +kernel) rfl, zq_in 62 (by decide +kernel) rfl, by decide +kernel, by decide +kernel, by decide +kernel, by decide +kernel⟩
theorem zw_P_isFigure : zq_MS zm_P_isFigure 1 := ⟨zq_in 307 (by decide +kernel) rfl, zq_in 306 (by decide +kernel) rfl, zq_in 62 (by decide +kernel) rfl, by decide +kernel, by decide +kernel, by decide +kernel, by decide +kernel⟩
theorem zw_E_tell : zq_MV zm_E_tell 2 := ⟨zq_in 284 (by decide +kernel) rfl, zq_in 282 (by decide +kernel) rfl, zq_in 283 (by decide +kernel) rfl, zq_in 63 (by decide +kernel) rfl, by decide +kernel, by decide +kernel, by decide +kernel, by decide +kernel⟩
theorem zw_E_checkWhole : zq_MV zm_E_checkWhole 2 := ⟨zq_in 449 (by decide +kernel) rfl, zq_in 448 (by decide +kernel) rfl, zq_in 13 (by decide +kernel) rfl, zq_in 63 (by decide +kernel) rfl, by decide +kernel, by decide +kernel, by decide +kernel, by decide +kernel⟩
theorem zw_E_tellLine : zq_MV zm_E_tellLine 2 := ⟨zq_in 315 (by decide +kernel) rfl, zq_in 314 (by decide +kernel) rfl, zq_in 3 (by decide +kernel) rfl, zq_in 63 (by decide +kernel) rfl, by decide +kernel, by decide +kernel, by decide +kernel, by decide +kernel⟩
theorem zw_E_tellOne : zq_MV zm_E_tellOne 2 := ⟨zq_in 372 (by decide +kernel) rfl, zq_in 371 (by decide +kernel) rfl, zq_in 4 (by decide +kernel) rfl, zq_in 63 (by decide +kernel) rfl, by decide +kernel, by decide +kernel, by decide +kernel, by decide +kernel⟩
theorem zw_E_tellFact : zq_MV zm_E_tellFact 2 := ⟨zq_in 394 (by decide +kernel) rfl, zq_in 393 (by decide +kernel) rfl, zq_in 7 (by decide +kernel) rfl, zq_in 63 (by decide +kernel) rfl, by decide +kernel, by decide +kernel, by decide +kernel, by decide +kernel⟩
theorem zw_E_tellGone : zq_MV zm_E_tellGone 2 := ⟨zq_in 407 (by decide +kernel) rfl, zq_in 406 (by decide +kernel) rfl, zq_in 10 (by decide +kernel) rfl, zq_in 63 (by decide +kernel) rfl, by decide +kernel, by decide +kernel, by decide +kernel, by decide +kernel⟩
theorem zw_E_tellOdds : zq_MV zm_E_tellOdds 2 := ⟨zq_in 416 (by decide +kernel) rfl, zq_in 415 (by decide +kernel) rfl, zq_in 11 (by decide +kernel) rfl, zq_in 63 (by decide +kernel) rfl, by decide +kernel, by decide +kernel, by decide +kernel, by decide +kernel⟩
theorem zw_E_tellRule : zq_MV zm_E_tellRule 2 := ⟨zq_in 424 (by decide +kernel) rfl, zq_in 423 (by decide +kernel) rfl, zq_in 12 (by decide +kernel) rfl, zq_in 63 (by decide +kernel) rfl, by decide +kernel, by decide +kernel, by decide +kernel, by decide +kernel⟩
theorem zw_E_claimNamed : zq_MS zm_E_claimNamed 1 := ⟨zq_in 427 (by decide +kernel) rfl, zq_in 426 (by decide +kernel) rfl, zq_in 63 (by decide +kernel) rfl, by decide +kernel, by decide +kernel, by decide +kernel, by decide +kernel⟩
theorem zw_E_mostOf : zq_MS zm_E_mostOf 1 := ⟨zq_in 435 (by decide +kernel) rfl, zq_in 434 (by decide +kernel) rfl, zq_in 63 (by decide +kernel) rfl, by decide +kernel, by decide +kernel, by decide +kernel, by decide +kernel⟩
theorem zw_E_pickNamed : zq_MS zm_E_pickNamed 1 := ⟨zq_in 438 (by decide +kernel) rfl, zq_in 437 (by decide +kernel) rfl, zq_in 63 (by decide +kernel) rfl, by decide +kernel, by decide +kernel, by decide +kernel, by decide +kernel⟩
theorem zw_E_number : zq_MV zm_E_number 3 := ⟨zq_in 398 (by decide +kernel) rfl, zq_in 397 (by decide +kernel) rfl, zq_in 8 (by decide +kernel) rfl, zq_in 63 (by decide +kernel) rfl, by decide +kernel, by decide +kernel, by decide +kernel, by decide +kernel⟩
theorem zw_E_stop : zq_MV zm_E_stop 1 := ⟨zq_in 402 (by decide +kernel) rfl, zq_in 401 (by decide +kernel) rfl, zq_in 9 (by decide +kernel) rfl, zq_in 63 (by decide +kernel) rfl, by decide +kernel, by decide +kernel, by decide +kernel, by decide +kernel⟩
theorem zw_E_misplaced : zq_MV zm_E_misplaced 1 := ⟨zq_in 389 (by decide +kernel) rfl, zq_in 388 (by decide +kernel) rfl, zq_in 6 (by decide +kernel) rfl, zq_in 63 (by decide +kernel) rfl, by decide +kernel, by decide +kernel, by decide +kernel, by decide +kernel⟩
theorem zw_E_fail : zq_MV zm_E_fail 2 := ⟨zq_in 376 (by decide +kernel) rfl, zq_in 375 (by decide +kernel) rfl, zq_in 5 (by decide +kernel) rfl, zq_in 63 (by decide +kernel) rfl, by decide +kernel, by decide +kernel, by decide +kernel, by decide +kernel⟩
theorem zw_S_feed : zq_MV zm_S_feed 1 := ⟨zq_in 268 (by decide +kernel) rfl, zq_in 266 (by decide +kernel) rfl, zq_in 267 (by decide +kernel) rfl, zq_in 61 (by decide +kernel) rfl, by decide +kernel, by decide +kernel, by decide +kernel, by decide +kernel⟩
theorem zw_S_end : zq_MV zm_S_end 1 := ⟨zq_in 276 (by decide +kernel) rfl, zq_in 274 (by decide +kernel) rfl, zq_in 275 (by decide +kernel) rfl, zq_in 61 (by decide +kernel) rfl, by decide +kernel, by decide +kernel, by decide +kernel, by decide +kernel⟩
theorem zw_S_text : zq_MV zm_S_text 0 := ⟨zq_in 280 (by decide +kernel) rfl, zq_in 278 (by decide +kernel) rfl, zq_in 279 (by decide +kernel) rfl, zq_in 61 (by decide +kernel) rfl, by decide +kernel, by decide +kernel, by decide +kernel, by decide +kernel⟩
theorem zw_S_fault : zq_MV zm_S_fault 0 := ⟨zq_in 461 (by decide +kernel) rfl, zq_in 459 (by decide +kernel) rfl, zq_in 460 (by decide +kernel) rfl, zq_in 61 (by decide +kernel) rfl, by decide +kernel, by decide +kernel, by decide +kernel, by decide +kernel⟩
theorem zw_S_rule : zq_MV zm_S_rule 1 := ⟨zq_in 465 (by decide +kernel) rfl, zq_in 463 (by decide +kernel) rfl, zq_in 464 (by decide +kernel) rfl, zq_in 61 (by decide +kernel) rfl, by decide +kernel, by decide +kernel, by decide +kernel, by decide +kernel⟩
theorem zw_S_one : zq_MV zm_S_one 2 := ⟨zq_in 469 (by decide +kernel) rfl, zq_in 467 (by decide +kernel) rfl, zq_in 468 (by decide +kernel) rfl, zq_in 61 (by decide +kernel) rfl, by decide +kernel, by decide +kernel, by decide +kernel, by decide +kernel⟩
theorem zw_S_odd : zq_MV zm_S_odd 1 := ⟨zq_in 483 (by decide +kernel) rfl, zq_in 481 (by decide +kernel) rfl, zq_in 482 (by decide +kernel) rfl, zq_in 61 (by decide +kernel) rfl, by decide +kernel, by decide +kernel, by decide +kernel, by decide +kernel⟩
theorem zw_S_law : zq_MV zm_S_law 2 := ⟨zq_in 488 (by decide +kernel) rfl, zq_in 486 (by decide +kernel) rfl, zq_in 487 (by decide +kernel) rfl, zq_in 61 (by decide +kernel) rfl, by decide +kernel, by decide +kernel, by decide +kernel, by decide +kernel⟩
theorem zw_S_owner : zq_MV zm_S_owner 1 := ⟨zq_in 511 (by decide +kernel) rfl, zq_in 509 (by decide +kernel) rfl, zq_in 510 (by decide +kernel) rfl, zq_in 61 (by decide +kernel) rfl, by decide +kernel, by decide +kernel, by decide +kernel, by decide +kernel⟩
theorem zw_S_by : zq_MV zm_S_by 1 := ⟨zq_in 531 (by decide +kernel) rfl, zq_in 529 (by decide +kernel) rfl, zq_in 530 (by decide +kernel) rfl, zq_in 61 (by decide +kernel) rfl, by decide +kernel, by decide +kernel, by decide +kernel, by decide +kernel⟩
theorem zw_S_does : zq_MV zm_S_does 1 := ⟨zq_in 536 (by decide +kernel) rfl, zq_in 534 (by decide +kernel) rfl, zq_in 535 (by decide +kernel) rfl, zq_in 61 (by decide +kernel) rfl, by decide +kernel, by decide +kernel, by decide +kernel, by decide +kernel⟩
theorem zw_S_comes : zq_MV zm_S_comes 1 := ⟨zq_in 550 (by decide +kernel) rfl, zq_in 548 (by decide +kernel) rfl, zq_in 549 (by decide +kernel) rfl, zq_in 61 (by decide +kernel) rfl, by decide +kernel, by decide +kernel, by decide +kernel, by decide +kernel⟩
theorem zw_S_tries : zq_MV zm_S_tries 2 := ⟨zq_in 554 (by decide +kernel) rfl, zq_in 552 (by decide +kernel) rfl, zq_in 553 (by decide +kernel) rfl, zq_in 61 (by decide +kernel) rfl, by decide +kernel, by decide +kernel, by decide +kernel, by decide +kernel⟩
theorem zw_S_hush : zq_MV zm_S_hush 2 := ⟨zq_in 558 (by decide +kernel) rfl, zq_in 556 (by decide +kernel) rfl, zq_in 557 (by decide +kernel) rfl, zq_in 61 (by decide +kernel) rfl, by decide +kernel, by decide +kernel, by decide +kernel, by decide +kernel⟩
theorem zw_S_weigh : zq_MV zm_S_weigh 2 := ⟨zq_in 563 (by decide +kernel) rfl, zq_in 561 (by decide +kernel) rfl, zq_in 562 (by decide +kernel) rfl, zq_in 61 (by decide +kernel) rfl, by decide +kernel, by decide +kernel, by decide +kernel, by decide +kernel⟩
theorem zw_S_rank : zq_MV zm_S_rank 2 := ⟨zq_in 567 (by decide +kernel) rfl, zq_in 565 (by decide +kernel) rfl, zq_in 566 (by decide +kernel) rfl, zq_in 61 (by decide +kernel) rfl, by decide +kernel, by decide +kernel, by decide +kernel, by decide +kernel⟩
theorem zw_S_pick : zq_MV zm_S_pick 2 := ⟨zq_in 571 (by decide +kernel) rfl, zq_in 569 (by decide +kernel) rfl, zq_in 570 (by decide +kernel) rfl, zq_in 61 (by decide +kernel) rfl, by decide +kernel, by decide +kernel, by decide +kernel, by decide +kernel⟩
theorem zw_S_claim : zq_MV zm_S_claim 4 := ⟨zq_in 578 (by decide +kernel) rfl, zq_in 576 (by decide +kernel) rfl, zq_in 577 (by decide +kernel) rfl, zq_in 61 (by decide +kernel) rfl, by decide +kernel, by decide +kernel, by decide +kernel, by decide +kernel⟩
theorem zw_S_pivot : zq_MV zm_S_pivot 1 := ⟨zq_in 598 (by decide +kernel) rfl, zq_in 596 (by decide +kernel) rfl, zq_in 597 (by decide +kernel) rfl, zq_in 61 (by decide +kernel) rfl, by decide +kernel, by decide +kernel, by decide +kernel, by decide +kernel⟩
theorem zw_S_spoils : zq_MV zm_S_spoils 1 := ⟨zq_in 602 (by decide +kernel) rfl, zq_in 600 (by decide +kernel) rfl, zq_in 601 (by decide +kernel) rfl, zq_in 61 (by decide +kernel) rfl, by decide +kernel, by decide +kernel, by decide +kernel, by decide +kernel⟩
theorem zw_S_dead : zq_MV zm_S_dead 1 := ⟨zq_in 611 (by decide +kernel) rfl, zq_in 609 (by decide +kernel) rfl, zq_in 610 (by decide +kernel) rfl, zq_in 61 (by decide +kernel) rfl, by decide +kernel, by decide +kernel, by decide +kernel, by decide +kernel⟩
theorem zw_S_least : zq_MV zm_S_least 1 := ⟨zq_in 640 (by decide +kernel) rfl, zq_in 638 (by decide +kernel) rfl, zq_in 639 (by decide +kernel) rfl, zq_in 61 (by decide +kernel) rfl, by decide +kernel, by decide +kernel, by decide +kernel, by decide +kernel⟩
theorem zw_S_who : zq_MV zm_S_who 1 := ⟨zq_in 654 (by decide +kernel) rfl, zq_in 652 (by decide +kernel) rfl, zq_in 653 (by decide +kernel) rfl, zq_in 61 (by decide +kernel) rfl, by decide +kernel, by decide +kernel, by decide +kernel, by decide +kernel⟩
theorem zw_S_via : zq_MV zm_S_via 2 := ⟨zq_in 658 (by decide +kernel) rfl, zq_in 656 (by decide +kernel) rfl, zq_in 657 (by decide +kernel) rfl, zq_in 61 (by decide +kernel) rfl, by decide +kernel, by decide +kernel, by decide +kernel, by decide +kernel⟩
theorem zw_S_odds : zq_MV zm_S_odds 4 := ⟨zq_in 662 (by decide +kernel) rfl, zq_in 660 (by decide +kernel) rfl, zq_in 661 (by decide +kernel) rfl, zq_in 61 (by decide +kernel) rfl, by decide +kernel, by decide +kernel, by decide +kernel, by decide +kernel⟩
theorem zw_S_turn : zq_MV zm_S_turn 2 := ⟨zq_in 677 (by decide +kernel) rfl, zq_in 675 (by decide +kernel) rfl, zq_in 676 (by decide +kernel) rfl, zq_in 61 (by decide +kernel) rfl, by decide +kernel, by decide +kernel, by decide +kernel, by decide +kernel⟩
theorem zw_S_best : zq_MV zm_S_best 4 := ⟨zq_in 681 (by decide +kernel) rfl, zq_in 679 (by decide +kernel) rfl, zq_in 680 (by decide +kernel) rfl, zq_in 61 (by decide +kernel) rfl, by decide +kernel, by decide +kernel, by decide +kernel, by decide +kernel⟩
theorem zw_S_see : zq_MV zm_S_see 2 := ⟨zq_in 697 (by decide +kernel) rfl, zq_in 695 (by decide +kernel) rfl, zq_in 696 (by decide +kernel) rfl, zq_in 61 (by decide +kernel) rfl, by decide +kernel, by decide +kernel, by decide +kernel, by decide +kernel⟩
theorem zw_S_forget : zq_MV zm_S_forget 1 := ⟨zq_in 701 (by decide +kernel) rfl, zq_in 699 (by decide +kernel) rfl, zq_in 700 (by decide +kernel) rfl, zq_in 61 (by decide +kernel) rfl, by decide +kernel, by decide +kernel, by decide +kernel, by decide +kernel⟩
theorem zw_S_fits : zq_MV zm_S_fits 1 := ⟨zq_in 705 (by decide +kernel) rfl, zq_in 703 (by decide +kernel) rfl, zq_in 704 (by decide +kernel) rfl, zq_in 61 (by decide +kernel) rfl, by decide +kernel, by decide +kernel, by decide +kernel, by decide +kernel⟩
theorem zw_S_drift : zq_MV zm_S_drift 3 := ⟨zq_in 713 (by decide +kernel) rfl, zq_in 711 (by decide +kernel) rfl, zq_in 712 (by decide +kernel) rfl, zq_in 61 (by decide +kernel) rfl, by decide +kernel, by decide +kernel, by decide +kernel, by decide +kernel⟩
theorem zw_S_keep : zq_MV zm_S_keep 1 := ⟨zq_in 724 (by decide +kernel) rfl, zq_in 722 (by decide +kernel) rfl, zq_in 723 (by decide +kernel) rfl, zq_in 61 (by decide +kernel) rfl, by decide +kernel, by decide +kernel, by decide +kernel, by decide +kernel⟩
theorem zw_S_back : zq_MV zm_S_back 1 := ⟨zq_in 732 (by decide +kernel) rfl, zq_in 730 (by decide +kernel) rfl, zq_in 731 (by decide +kernel) rfl, zq_in 61 (by decide +kernel) rfl, by decide +kernel, by decide +kernel, by decide +kernel, by decide +kernel⟩
theorem zw_S_sheet : zq_MV zm_S_sheet 3 := ⟨zq_in 736 (by decide +kernel) rfl, zq_in 734 (by decide +kernel) rfl, zq_in 735 (by decide +kernel) rfl, zq_in 61 (by decide +kernel) rfl, by decide +kernel, by decide +kernel, by decide +kernel, by decide +kernel⟩
theorem zw_S_lay : zq_MV zm_S_lay 3 := ⟨zq_in 753 (by decide +kernel) rfl, zq_in 751 (by decide +kernel) rfl, zq_in 752 (by decide +kernel) rfl, zq_in 61 (by decide +kernel) rfl, by decide +kernel, by decide +kernel, by decide +kernel, by decide +kernel⟩
theorem zw_S_read : zq_MV zm_S_read 4 := ⟨zq_in 778 (by decide +kernel) rfl, zq_in 776 (by decide +kernel) rfl, zq_in 777 (by decide +kernel) rfl, zq_in 61 (by decide +kernel) rfl, by decide +kernel, by decide +kernel, by decide +kernel, by decide +kernel⟩
theorem zw_S_torn : zq_MV zm_S_torn 0 := ⟨zq_in 786 (by decide +kernel) rfl, zq_in 784 (by decide +kernel) rfl, zq_in 785 (by decide +kernel) rfl, zq_in 61 (by decide +kernel) rfl, by decide +kernel, by decide +kernel, by decide +kernel, by decide +kernel⟩
theorem zw_S_count : zq_MV zm_S_count 1 := ⟨zq_in 790 (by decide +kernel) rfl, zq_in 788 (by decide +kernel) rfl, zq_in 789 (by decide +kernel) rfl, zq_in 61 (by decide +kernel) rfl, by decide +kernel, by decide +kernel, by decide +kernel, by decide +kernel⟩
theorem zw_S_isFact : zq_MS zm_S_isFact 1 := ⟨zq_in 419 (by decide +kernel) rfl, zq_in 418 (by decide +kernel) rfl, zq_in 61 (by decide +kernel) rfl, by decide +kernel, by decide +kernel, by decide +kernel, by decide +kernel⟩
theorem zw_S_isThing : zq_MS zm_S_isThing 1 := ⟨zq_in 514 (by decide +kernel) rfl, zq_in 513 (by decide +kernel) rfl, zq_in 61 (by decide +kernel) rfl, by decide +kernel, by decide +kernel, by decide +kernel, by decide +kernel⟩
theorem zw_S_isPick : zq_MS zm_S_isPick 1 := ⟨zq_in 574 (by decide +kernel) rfl, zq_in 573 (by decide +kernel) rfl, zq_in 61 (by decide +kernel) rfl, by decide +kernel, by decide +kernel, by decide +kernel, by decide +kernel⟩
theorem zw_S_shortestRow : zq_MV zm_S_shortestRow 3 := ⟨zq_in 582 (by decide +kernel) rfl, zq_in 581 (by decide +kernel) rfl, zq_in 14 (by decide +kernel) rfl, zq_in 61 (by decide +kernel) rfl, by decide +kernel, by decide +kernel, by decide +kernel, by decide +kernel⟩
theorem zw_S_findRow : zq_MS zm_S_findRow 7 := ⟨zq_in 589 (by decide +kernel) rfl, zq_in 588 (by decide +kernel) rfl, zq_in 61 (by decide +kernel) rfl, by decide +kernel, by decide +kernel, by decide +kernel, by decide +kernel⟩
theorem zw_S_givingSomewhere : zq_MV zm_S_givingSomewhere 0 := ⟨zq_in 619 (by decide +kernel) rfl, zq_in 618 (by decide +kernel) rfl, zq_in 15 (by decide +kernel) rfl, zq_in 61 (by decide +kernel) rfl, by decide +kernel, by decide +kernel, by decide +kernel, by decide +kernel⟩
theorem zw_S_givingEverywhere : zq_MV zm_S_givingEverywhere 0 := ⟨zq_in 631 (by decide +kernel) rfl, zq_in 630 (by decide +kernel) rfl, zq_in 16 (by decide +kernel) rfl, zq_in 61 (by decide +kernel) rfl, by decide +kernel, by decide +kernel, by decide +kernel, by decide +kernel⟩
theorem zw_S_rulesAtWork : zq_MV zm_S_rulesAtWork 2 := ⟨zq_in 636 (by decide +kernel) rfl, zq_in 635 (by decide +kernel) rfl, zq_in 17 (by decide +kernel) rfl, zq_in 61 (by decide +kernel) rfl, by decide +kernel, by decide +kernel, by decide +kernel, by decide +kernel⟩
theorem zw_S_sameOwnersBy : zq_MV zm_S_sameOwnersBy 1 := ⟨zq_in 650 (by decide +kernel) rfl, zq_in 649 (by decide +kernel) rfl, zq_in 18 (by decide +kernel) rfl, zq_in 61 (by decide +kernel) rfl, by decide +kernel, by decide +kernel, by decide +kernel, by decide +kernel⟩
theorem zw_S_waysTo : zq_MV zm_S_waysTo 2 := ⟨zq_in 667 (by decide +kernel) rfl, zq_in 666 (by decide +kernel) rfl, zq_in 19 (by decide +kernel) rfl, zq_in 61 (by decide +kernel) rfl, by decide +kernel, by decide +kernel, by decide +kernel, by decide +kernel⟩
theorem zw_S_isAsSeen : zq_MV zm_S_isAsSeen 1 := ⟨zq_in 709 (by decide +kernel) rfl, zq_in 708 (by decide +kernel) rfl, zq_in 22 (by decide +kernel) rfl, zq_in 61 (by decide +kernel) rfl, by decide +kernel, by decide +kernel, by decide +kernel, by decide +kernel⟩
theorem zw_S_waysAtBest : zq_MV zm_S_waysAtBest 3 := ⟨zq_in 690 (by decide +kernel) rfl, zq_in 689 (by decide +kernel) rfl, zq_in 21 (by decide +kernel) rfl, zq_in 61 (by decide +kernel) rfl, by decide +kernel, by decide +kernel, by decide +kernel, by decide +kernel⟩
theorem zw_S_waysTryingFor : zq_MV zm_S_waysTryingFor 4 := ⟨zq_in 685 (by decide +kernel) rfl, zq_in 684 (by decide +kernel) rfl, zq_in 20 (by decide +kernel) rfl, zq_in 61 (by decide +kernel) rfl, by decide +kernel, by decide +kernel, by decide +kernel, by decide +kernel⟩
theorem zw_S_image : zq_MV zm_S_image 1 := ⟨zq_in 728 (by decide +kernel) rfl, zq_in 727 (by decide +kernel) rfl, zq_in 23 (by decide +kernel) rfl, zq_in 61 (by decide +kernel) rfl, by decide +kernel, by decide +kernel, by decide +kernel, by decide +kernel⟩
theorem zw_S_nextSeed : zq_MS zm_S_nextSeed 1 := ⟨zq_in 716 (by decide +kernel) rfl, zq_in 715 (by decide +kernel) rfl, zq_in 61 (by decide +kernel) rfl, by decide +kernel, by decide +kernel, by decide +kernel, by decide +kernel⟩
theorem zw_S_drawn : zq_MS zm_S_drawn 1 := ⟨zq_in 720 (by decide +kernel) rfl, zq_in 719 (by decide +kernel) rfl, zq_in 61 (by decide +kernel) rfl, by decide +kernel, by decide +kernel, by decide +kernel, by decide +kernel⟩
theorem zw_S_power : zq_MS zm_S_power 2 := ⟨zq_in 670 (by decide +kernel) rfl, zq_in 669 (by decide +kernel) rfl, zq_in 61 (by decide +kernel) rfl, by decide +kernel, by decide +kernel, by decide +kernel, by decide +kernel⟩
theorem zw_S_lowestTerms : zq_MS zm_S_lowestTerms 3 := ⟨zq_in 673 (by decide +kernel) rfl, zq_in 672 (by decide +kernel) rfl, zq_in 61 (by decide +kernel) rfl, by decide +kernel, by decide +kernel, by decide +kernel, by decide +kernel⟩
theorem zw_M_in : zq_MS zm_M_in 3 := ⟨zq_in 923 (by decide +kernel) rfl, zq_in 922 (by decide +kernel) rfl, zq_in 66 (by decide +kernel) rfl, by decide +kernel, by decide +kernel, by decide +kernel, by decide +kernel⟩
theorem zw_M_feed : zq_MV zm_M_feed 1 := ⟨zq_in 919 (by decide +kernel) rfl, zq_in 917 (by decide +kernel) rfl, zq_in 918 (by decide +kernel) rfl, zq_in 66 (by decide +kernel) rfl, by decide +kernel, by decide +kernel, by decide +kernel, by decide +kernel⟩
theorem zw_M_end : zq_MV zm_M_end 1 := ⟨zq_in 927 (by decide +kernel) rfl, zq_in 925 (by decide +kernel) rfl, zq_in 926 (by decide +kernel) rfl, zq_in 66 (by decide +kernel) rfl, by decide +kernel, by decide +kernel, by decide +kernel, by decide +kernel⟩
theorem zw_M_byteAt : zq_MV zm_M_byteAt 1 := ⟨zq_in 939 (by decide +kernel) rfl, zq_in 938 (by decide +kernel) rfl, zq_in 26 (by decide +kernel) rfl, zq_in 66 (by decide +kernel) rfl, by decide +kernel, by decide +kernel, by decide +kernel, by decide +kernel⟩
theorem zw_M_fails : zq_MV zm_M_fails 1 := ⟨zq_in 947 (by decide +kernel) rfl, zq_in 946 (by decide +kernel) rfl, zq_in 27 (by decide +kernel) rfl, zq_in 66 (by decide +kernel) rfl, by decide +kernel, by decide +kernel, by decide +kernel, by decide +kernel⟩
theorem zw_M_nameHere : zq_MV zm_M_nameHere 0 := ⟨zq_in 955 (by decide +kernel) rfl, zq_in 954 (by decide +kernel) rfl, zq_in 29 (by decide +kernel) rfl, zq_in 66 (by decide +kernel) rfl, by decide +kernel, by decide +kernel, by decide +kernel, by decide +kernel⟩
theorem zw_M_step : zq_MV zm_M_step 0 := ⟨zq_in 935 (by decide +kernel) rfl, zq_in 934 (by decide +kernel) rfl, zq_in 25 (by decide +kernel) rfl, zq_in 66 (by decide +kernel) rfl, by decide +kernel, by decide +kernel, by decide +kernel, by decide +kernel⟩
theorem zw_M_other : zq_MV zm_M_other 3 := ⟨zq_in 964 (by decide +kernel) rfl, zq_in 963 (by decide +kernel) rfl, zq_in 31 (by decide +kernel) rfl, zq_in 66 (by decide +kernel) rfl, by decide +kernel, by decide +kernel, by decide +kernel, by decide +kernel⟩
theorem zw_M_person : zq_MV zm_M_person 1 := ⟨zq_in 968 (by decide +kernel) rfl, zq_in 967 (by decide +kernel) rfl, zq_in 32 (by decide +kernel) rfl, zq_in 66 (by decide +kernel) rfl, by decide +kernel, by decide +kernel, by decide +kernel, by decide +kernel⟩
theorem zw_M_claimHere : zq_MV zm_M_claimHere 0 := ⟨zq_in 976 (by decide +kernel) rfl, zq_in 975 (by decide +kernel) rfl, zq_in 34 (by decide +kernel) rfl, zq_in 66 (by decide +kernel) rfl, by decide +kernel, by decide +kernel, by decide +kernel, by decide +kernel⟩
theorem zw_M_readRule : zq_MV zm_M_readRule 0 := ⟨zq_in 972 (by decide +kernel) rfl, zq_in 971 (by decide +kernel) rfl, zq_in 33 (by decide +kernel) rfl, zq_in 66 (by decide +kernel) rfl, by decide +kernel, by decide +kernel, by decide +kernel, by decide +kernel⟩
theorem zw_M_readMore : zq_MV zm_M_readMore 1 := ⟨zq_in 960 (by decide +kernel) rfl, zq_in 959 (by decide +kernel) rfl, zq_in 30 (by decide +kernel) rfl, zq_in 66 (by decide +kernel) rfl, by decide +kernel, by decide +kernel, by decide +kernel, by decide +kernel⟩
theorem zw_M_readLine : zq_MV zm_M_readLine 0 := ⟨zq_in 951 (by decide +kernel) rfl, zq_in 950 (by decide +kernel) rfl, zq_in 28 (by decide +kernel) rfl, zq_in 66 (by decide +kernel) rfl, by decide +kernel, by decide +kernel, by decide +kernel, by decide +kernel⟩
theorem zw_M_areAlike : zq_MV zm_M_areAlike 0 := ⟨zq_in 982 (by decide +kernel) rfl, zq_in 981 (by decide +kernel) rfl, zq_in 35 (by decide +kernel) rfl, zq_in 66 (by decide +kernel) rfl, by decide +kernel, by decide +kernel, by decide +kernel, by decide +kernel⟩
theorem zw_M_text : zq_MV zm_M_text 0 := ⟨zq_in 931 (by decide +kernel) rfl, zq_in 929 (by decide +kernel) rfl, zq_in 930 (by decide +kernel) rfl, zq_in 66 (by decide +kernel) rfl, by decide +kernel, by decide +kernel, by decide +kernel, by decide +kernel⟩
theorem zw_M_fault : zq_MV zm_M_fault 0 := ⟨zq_in 986 (by decide +kernel) rfl, zq_in 984 (by decide +kernel) rfl, zq_in 985 (by decide +kernel) rfl, zq_in 66 (by decide +kernel) rfl, by decide +kernel, by decide +kernel, by decide +kernel, by decide +kernel⟩
theorem zw_M_isOne : zq_MV zm_M_isOne 1 := ⟨zq_in 998 (by decide +kernel) rfl, zq_in 997 (by decide +kernel) rfl, zq_in 36 (by decide +kernel) rfl, zq_in 66 (by decide +kernel) rfl, by decide +kernel, by decide +kernel, by decide +kernel, by decide +kernel⟩
theorem zw_M_isRule : zq_MV zm_M_isRule 1 := ⟨zq_in 1025 (by decide +kernel) rfl, zq_in 1024 (by decide +kernel) rfl, zq_in 39 (by decide +kernel) rfl, zq_in 66 (by decide +kernel) rfl, by decide +kernel, by decide +kernel, by decide +kernel, by decide +kernel⟩
theorem zw_M_isThing : zq_MS zm_M_isThing 1 := ⟨zq_in 1053 (by decide +kernel) rfl, zq_in 1052 (by decide +kernel) rfl, zq_in 66 (by decide +kernel) rfl, by decide +kernel, by decide +kernel, by decide +kernel, by decide +kernel⟩
theorem zw_M_isFact : zq_MS zm_M_isFact 1 := ⟨zq_in 1017 (by decide +kernel) rfl, zq_in 1016 (by decide +kernel) rfl, zq_in 66 (by decide +kernel) rfl, by decide +kernel, by decide +kernel, by decide +kernel, by decide +kernel⟩
theorem zw_M_isThere : zq_MS zm_M_isThere 2 := ⟨zq_in 1006 (by decide +kernel) rfl, zq_in 1005 (by decide +kernel) rfl, zq_in 66 (by decide +kernel) rfl, by decide +kernel, by decide +kernel, by decide +kernel, by decide +kernel⟩
theorem zw_M_rule : zq_MV zm_M_rule 1 := ⟨zq_in 990 (by decide +kernel) rfl, zq_in 988 (by decide +kernel) rfl, zq_in 989 (by decide +kernel) rfl, zq_in 66 (by decide +kernel) rfl, by decide +kernel, by decide +kernel, by decide +kernel, by decide +kernel⟩
theorem zw_M_bornAs : zq_MV zm_M_bornAs 2 := ⟨zq_in 1003 (by decide +kernel) rfl, zq_in 1002 (by decide +kernel) rfl, zq_in 37 (by decide +kernel) rfl, zq_in 66 (by decide +kernel) rfl, by decide +kernel, by decide +kernel, by decide +kernel, by decide +kernel⟩
theorem zw_M_childrenOf : zq_MV zm_M_childrenOf 2 := ⟨zq_in 1010 (by decide +kernel) rfl, zq_in 1009 (by decide +kernel) rfl, zq_in 38 (by decide +kernel) rfl, zq_in 66 (by decide +kernel) rfl, by decide +kernel, by decide +kernel, by decide +kernel, by decide +kernel⟩
theorem zw_M_isAbove : zq_MV zm_M_isAbove 2 := ⟨zq_in 1038 (by decide +kernel) rfl, zq_in 1037 (by decide +kernel) rfl, zq_in 42 (by decide +kernel) rfl, zq_in 66 (by decide +kernel) rfl, by decide +kernel, by decide +kernel, by decide +kernel, by decide +kernel⟩
theorem zw_M_meets : zq_MV zm_M_meets 3 := ⟨zq_in 1034 (by decide +kernel) rfl, zq_in 1033 (by decide +kernel) rfl, zq_in 41 (by decide +kernel) rfl, zq_in 66 (by decide +kernel) rfl, by decide +kernel, by decide +kernel, by decide +kernel, by decide +kernel⟩
theorem zw_M_whoMeet : zq_MV zm_M_whoMeet 2 := ⟨zq_in 1030 (by decide +kernel) rfl, zq_in 1029 (by decide +kernel) rfl, zq_in 40 (by decide +kernel) rfl, zq_in 66 (by decide +kernel) rfl, by decide +kernel, by decide +kernel, by decide +kernel, by decide +kernel⟩
theorem zw_M_givesBy : zq_MV zm_M_givesBy 3 := ⟨zq_in 1046 (by decide +kernel) rfl, zq_in 1045 (by decide +kernel) rfl, zq_in 44 (by decide +kernel) rfl, zq_in 66 (by decide +kernel) rfl, by decide +kernel, by decide +kernel, by decide +kernel, by decide +kernel⟩
theorem zw_M_gives : zq_MV zm_M_gives 2 := ⟨zq_in 1042 (by decide +kernel) rfl, zq_in 1041 (by decide +kernel) rfl, zq_in 43 (by decide +kernel) rfl, zq_in 66 (by decide +kernel) rfl, by decide +kernel, by decide +kernel, by decide +kernel, by decide +kernel⟩
theorem zw_M_ruleBy : zq_MV zm_M_ruleBy 4 := ⟨zq_in 1066 (by decide +kernel) rfl, zq_in 1065 (by decide +kernel) rfl, zq_in 47 (by decide +kernel) rfl, zq_in 66 (by decide +kernel) rfl, by decide +kernel, by decide +kernel, by decide +kernel, by decide +kernel⟩
theorem zw_M_ownerBy : zq_MV zm_M_ownerBy 3 := ⟨zq_in 1062 (by decide +kernel) rfl, zq_in 1061 (by decide +kernel) rfl, zq_in 46 (by decide +kernel) rfl, zq_in 66 (by decide +kernel) rfl, by decide +kernel, by decide +kernel, by decide +kernel, by decide +kernel⟩
theorem zw_M_ownerIn : zq_MV zm_M_ownerIn 2 := ⟨zq_in 1058 (by decide +kernel) rfl, zq_in 1057 (by decide +kernel) rfl, zq_in 45 (by decide +kernel) rfl, zq_in 66 (by decide +kernel) rfl, by decide +kernel, by decide +kernel, by decide +kernel, by decide +kernel⟩
theorem zw_M_one : zq_MV zm_M_one 2 := ⟨zq_in 994 (by decide +kernel) rfl, zq_in 992 (by decide +kernel) rfl, zq_in 993 (by decide +kernel) rfl, zq_in 66 (by decide +kernel) rfl, by decide +kernel, by decide +kernel, by decide +kernel, by decide +kernel⟩
theorem zw_M_odd : zq_MV zm_M_odd 1 := ⟨zq_in 1014 (by decide +kernel) rfl, zq_in 1012 (by decide +kernel) rfl, zq_in 1013 (by decide +kernel) rfl, zq_in 66 (by decide +kernel) rfl, by decide +kernel, by decide +kernel, by decide +kernel, by decide +kernel⟩
theorem zw_M_law : zq_MV zm_M_law 2 := ⟨zq_in 1021 (by decide +kernel) rfl, zq_in 1019 (by decide +kernel) rfl, zq_in 1020 (by decide +kernel) rfl, zq_in 66 (by decide +kernel) rfl, by decide +kernel, by decide +kernel, by decide +kernel, by decide +kernel⟩
theorem zw_M_owner : zq_MV zm_M_owner 1 := ⟨zq_in 1050 (by decide +kernel) rfl, zq_in 1048 (by decide +kernel) rfl, zq_in 1049 (by decide +kernel) rfl, zq_in 66 (by decide +kernel) rfl, by decide +kernel, by decide +kernel, by decide +kernel, by decide +kernel⟩
theorem zw_M_by : zq_MV zm_M_by 1 := ⟨zq_in 1070 (by decide +kernel) rfl, zq_in 1068 (by decide +kernel) rfl, zq_in 1069 (by decide +kernel) rfl, zq_in 66 (by decide +kernel) rfl, by decide +kernel, by decide +kernel, by decide +kernel, by decide +kernel⟩
theorem zw_M_sets : zq_MV zm_M_sets 3 := ⟨zq_in 1102 (by decide +kernel) rfl, zq_in 1101 (by decide +kernel) rfl, zq_in 52 (by decide +kernel) rfl, zq_in 66 (by decide +kernel) rfl, by decide +kernel, by decide +kernel, by decide +kernel, by decide +kernel⟩
theorem zw_M_isDeed : zq_MV zm_M_isDeed 1 := ⟨zq_in 1082 (by decide +kernel) rfl, zq_in 1081 (by decide +kernel) rfl, zq_in 49 (by decide +kernel) rfl, zq_in 66 (by decide +kernel) rfl, by decide +kernel, by decide +kernel, by decide +kernel, by decide +kernel⟩
theorem zw_M_canDo : zq_MV zm_M_canDo 1 := ⟨zq_in 1086 (by decide +kernel) rfl, zq_in 1085 (by decide +kernel) rfl, zq_in 50 (by decide +kernel) rfl, zq_in 66 (by decide +kernel) rfl, by decide +kernel, by decide +kernel, by decide +kernel, by decide +kernel⟩
theorem zw_M_doesIt : zq_MV zm_M_doesIt 1 := ⟨zq_in 1090 (by decide +kernel) rfl, zq_in 1089 (by decide +kernel) rfl, zq_in 51 (by decide +kernel) rfl, zq_in 66 (by decide +kernel) rfl, by decide +kernel, by decide +kernel, by decide +kernel, by decide +kernel⟩
theorem zw_M_done : zq_MV zm_M_done 1 := ⟨zq_in 1078 (by decide +kernel) rfl, zq_in 1077 (by decide +kernel) rfl, zq_in 48 (by decide +kernel) rfl, zq_in 66 (by decide +kernel) rfl, by decide +kernel, by decide +kernel, by decide +kernel, by decide +kernel⟩
theorem zw_M_does : zq_MV zm_M_does 1 := ⟨zq_in 1074 (by decide +kernel) rfl, zq_in 1072 (by decide +kernel) rfl, zq_in 1073 (by decide +kernel) rfl, zq_in 66 (by decide +kernel) rfl, by decide +kernel, by decide +kernel, by decide +kernel, by decide +kernel⟩
theorem zw_M_comes : zq_MV zm_M_comes 1 := ⟨zq_in 1094 (by decide +kernel) rfl, zq_in 1092 (by decide +kernel) rfl, zq_in 1093 (by decide +kernel) rfl, zq_in 66 (by decide +kernel) rfl, by decide +kernel, by decide +kernel, by decide +kernel, by decide +kernel⟩
theorem zw_M_tries : zq_MV zm_M_tries 2 := ⟨zq_in 1098 (by decide +kernel) rfl, zq_in 1096 (by decide +kernel) rfl, zq_in 1097 (by decide +kernel) rfl, zq_in 66 (by decide +kernel) rfl, by decide +kernel, by decide +kernel, by decide +kernel, by decide +kernel⟩
theorem zw_M_hush : zq_MV zm_M_hush 2 := ⟨zq_in 1106 (by decide +kernel) rfl, zq_in 1104 (by decide +kernel) rfl, zq_in 1105 (by decide +kernel) rfl, zq_in 66 (by decide +kernel) rfl, by decide +kernel, by decide +kernel, by decide +kernel, by decide +kernel⟩
theorem zw_M_weigh : zq_MV zm_M_weigh 2 := ⟨zq_in 1110 (by decide +kernel) rfl, zq_in 1108 (by decide +kernel) rfl, zq_in 1109 (by decide +kernel) rfl, zq_in 66 (by decide +kernel) rfl, by decide +kernel, by decide +kernel, by decide +kernel, by decide +kernel⟩
theorem zw_M_rank : zq_MV zm_M_rank 2 := ⟨zq_in 1115 (by decide +kernel) rfl, zq_in 1113 (by decide +kernel) rfl, zq_in 1114 (by decide +kernel) rfl, zq_in 66 (by decide +kernel) rfl, by decide +kernel, by decide +kernel, by decide +kernel, by decide +kernel⟩
theorem zw_M_pick : zq_MV zm_M_pick 2 := ⟨zq_in 1119 (by decide +kernel) rfl, zq_in 1117 (by decide +kernel) rfl, zq_in 1118 (by decide +kernel) rfl, zq_in 66 (by decide +kernel) rfl, by decide +kernel, by decide +kernel, by decide +kernel, by decide +kernel⟩
theorem zw_M_copies : zq_MV zm_M_copies 2 := ⟨zq_in 1132 (by decide +kernel) rfl, zq_in 1131 (by decide +kernel) rfl, zq_in 54 (by decide +kernel) rfl, zq_in 66 (by decide +kernel) rfl, by decide +kernel, by decide +kernel, by decide +kernel, by decide +kernel⟩
theorem zw_M_isHisBy : zq_MV zm_M_isHisBy 4 := ⟨zq_in 1128 (by decide +kernel) rfl, zq_in 1127 (by decide +kernel) rfl, zq_in 53 (by decide +kernel) rfl, zq_in 66 (by decide +kernel) rfl, by decide +kernel, by decide +kernel, by decide +kernel, by decide +kernel⟩
theorem zw_M_claim : zq_MV zm_M_claim 4 := ⟨zq_in 1124 (by decide +kernel) rfl, zq_in 1122 (by decide +kernel) rfl, zq_in 1123 (by decide +kernel) rfl, zq_in 66 (by decide +kernel) rfl, by decide +kernel, by decide +kernel, by decide +kernel, by decide +kernel⟩
theorem zw_M_pivot : zq_MV zm_M_pivot 1 := ⟨zq_in 1136 (by decide +kernel) rfl, zq_in 1134 (by decide +kernel) rfl, zq_in 1135 (by decide +kernel) rfl, zq_in 66 (by decide +kernel) rfl, by decide +kernel, by decide +kernel, by decide +kernel, by decide +kernel⟩
theorem zw_M_spoils : zq_MV zm_M_spoils 1 := ⟨zq_in 1140 (by decide +kernel) rfl, zq_in 1138 (by decide +kernel) rfl, zq_in 1139 (by decide +kernel) rfl, zq_in 66 (by decide +kernel) rfl, by decide +kernel, by decide +kernel, by decide +kernel, by decide +kernel⟩
theorem zw_M_cases : zq_MV zm_M_cases 0 := ⟨zq_in 1148 (by decide +kernel) rfl, zq_in 1147 (by decide +kernel) rfl, zq_in 55 (by decide +kernel) rfl, zq_in 66 (by decide +kernel) rfl, by decide +kernel, by decide +kernel, by decide +kernel, by decide +kernel⟩
theorem zw_M_dead : zq_MV zm_M_dead 1 := ⟨zq_in 1144 (by decide +kernel) rfl, zq_in 1142 (by decide +kernel) rfl, zq_in 1143 (by decide +kernel) rfl, zq_in 66 (by decide +kernel) rfl, by decide +kernel, by decide +kernel, by decide +kernel, by decide +kernel⟩
theorem zw_M_isEnough : zq_MV zm_M_isEnough 1 := ⟨zq_in 1159 (by decide +kernel) rfl, zq_in 1158 (by decide +kernel) rfl, zq_in 56 (by decide +kernel) rfl, zq_in 66 (by decide +kernel) rfl, by decide +kernel, by decide +kernel, by decide +kernel, by decide +kernel⟩
theorem zw_M_bitsOf : zq_MS zm_M_bitsOf 1 := ⟨zq_in 1155 (by decide +kernel) rfl, zq_in 1154 (by decide +kernel) rfl, zq_in 66 (by decide +kernel) rfl, by decide +kernel, by decide +kernel, by decide +kernel, by decide +kernel⟩
theorem zw_M_least : zq_MV zm_M_least 1 := ⟨zq_in 1152 (by decide +kernel) rfl, zq_in 1150 (by decide +kernel) rfl, zq_in 1151 (by decide +kernel) rfl, zq_in 66 (by decide +kernel) rfl, by decide +kernel, by decide +kernel, by decide +kernel, by decide +kernel⟩
theorem zw_M_who : zq_MV zm_M_who 1 := ⟨zq_in 1163 (by decide +kernel) rfl, zq_in 1161 (by decide +kernel) rfl, zq_in 1162 (by decide +kernel) rfl, zq_in 66 (by decide +kernel) rfl, by decide +kernel, by decide +kernel, by decide +kernel, by decide +kernel⟩
theorem zw_M_via : zq_MV zm_M_via 2 := ⟨zq_in 1167 (by decide +kernel) rfl, zq_in 1165 (by decide +kernel) rfl, zq_in 1166 (by decide +kernel) rfl, zq_in 66 (by decide +kernel) rfl, by decide +kernel, by decide +kernel, by decide +kernel, by decide +kernel⟩
theorem zw_M_lowest : zq_MS zm_M_lowest 3 := ⟨zq_in 1175 (by decide +kernel) rfl, zq_in 1174 (by decide +kernel) rfl, zq_in 66 (by decide +kernel) rfl, by decide +kernel, by decide +kernel, by decide +kernel, by decide +kernel⟩
theorem zw_M_odds : zq_MV zm_M_odds 4 := ⟨zq_in 1171 (by decide +kernel) rfl, zq_in 1169 (by decide +kernel) rfl, zq_in 1170 (by decide +kernel) rfl, zq_in 66 (by decide +kernel) rfl, by decide +kernel, by decide +kernel, by decide +kernel, by decide +kernel⟩
theorem zw_M_turn : zq_MV zm_M_turn 2 := ⟨zq_in 1179 (by decide +kernel) rfl, zq_in 1177 (by decide +kernel) rfl, zq_in 1178 (by decide +kernel) rfl, zq_in 66 (by decide +kernel) rfl, by decide +kernel, by decide +kernel, by decide +kernel, by decide +kernel⟩
theorem zw_M_stops : zq_MV zm_M_stops 4 := ⟨zq_in 1191 (by decide +kernel) rfl, zq_in 1190 (by decide +kernel) rfl, zq_in 58 (by decide +kernel) rfl, zq_in 66 (by decide +kernel) rfl, by decide +kernel, by decide +kernel, by decide +kernel, by decide +kernel⟩
theorem zw_M_tens : zq_MS zm_M_tens 1 := ⟨zq_in 1194 (by decide +kernel) rfl, zq_in 1193 (by decide +kernel) rfl, zq_in 66 (by decide +kernel) rfl, by decide +kernel, by decide +kernel, by decide +kernel, by decide +kernel⟩
theorem zw_M_triesFor : zq_MV zm_M_triesFor 3 := ⟨zq_in 1200 (by decide +kernel) rfl, zq_in 1199 (by decide +kernel) rfl, zq_in 59 (by decide +kernel) rfl, zq_in 66 (by decide +kernel) rfl, by decide +kernel, by decide +kernel, by decide +kernel, by decide +kernel⟩
theorem zw_M_layValues : zq_MV zm_M_layValues 3 := ⟨zq_in 1187 (by decide +kernel) rfl, zq_in 1186 (by decide +kernel) rfl, zq_in 57 (by decide +kernel) rfl, zq_in 66 (by decide +kernel) rfl, by decide +kernel, by decide +kernel, by decide +kernel, by decide +kernel⟩
theorem zw_M_best : zq_MV zm_M_best 4 := ⟨zq_in 1183 (by decide +kernel) rfl, zq_in 1181 (by decide +kernel) rfl, zq_in 1182 (by decide +kernel) rfl, zq_in 66 (by decide +kernel) rfl, by decide +kernel, by decide +kernel, by decide +kernel, by decide +kernel⟩
theorem zw_M_see : zq_MV zm_M_see 2 := ⟨zq_in 1204 (by decide +kernel) rfl, zq_in 1202 (by decide +kernel) rfl, zq_in 1203 (by decide +kernel) rfl, zq_in 66 (by decide +kernel) rfl, by decide +kernel, by decide +kernel, by decide +kernel, by decide +kernel⟩
theorem zw_M_forget : zq_MV zm_M_forget 1 := ⟨zq_in 1208 (by decide +kernel) rfl, zq_in 1206 (by decide +kernel) rfl, zq_in 1207 (by decide +kernel) rfl, zq_in 66 (by decide +kernel) rfl, by decide +kernel, by decide +kernel, by decide +kernel, by decide +kernel⟩
theorem zw_M_fits : zq_MV zm_M_fits 1 := ⟨zq_in 1212 (by decide +kernel) rfl, zq_in 1210 (by decide +kernel) rfl, zq_in 1211 (by decide +kernel) rfl, zq_in 66 (by decide +kernel) rfl, by decide +kernel, by decide +kernel, by decide +kernel, by decide +kernel⟩
theorem zw_M_drift : zq_MV zm_M_drift 3 := ⟨zq_in 1216 (by decide +kernel) rfl, zq_in 1214 (by decide +kernel) rfl, zq_in 1215 (by decide +kernel) rfl, zq_in 66 (by decide +kernel) rfl, by decide +kernel, by decide +kernel, by decide +kernel, by decide +kernel⟩
theorem zw_M_keep : zq_MV zm_M_keep 1 := ⟨zq_in 1222 (by decide +kernel) rfl, zq_in 1220 (by decide +kernel) rfl, zq_in 1221 (by decide +kernel) rfl, zq_in 66 (by decide +kernel) rfl, by decide +kernel, by decide +kernel, by decide +kernel, by decide +kernel⟩
theorem zw_M_back : zq_MV zm_M_back 1 := ⟨zq_in 1226 (by decide +kernel) rfl, zq_in 1224 (by decide +kernel) rfl, zq_in 1225 (by decide +kernel) rfl, zq_in 66 (by decide +kernel) rfl, by decide +kernel, by decide +kernel, by decide +kernel, by decide +kernel⟩
theorem zw_M_sheet : zq_MV zm_M_sheet 3 := ⟨zq_in 1230 (by decide +kernel) rfl, zq_in 1228 (by decide +kernel) rfl, zq_in 1229 (by decide +kernel) rfl, zq_in 66 (by decide +kernel) rfl, by decide +kernel, by decide +kernel, by decide +kernel, by decide +kernel⟩
theorem zw_M_lay : zq_MV zm_M_lay 3 := ⟨zq_in 1234 (by decide +kernel) rfl, zq_in 1232 (by decide +kernel) rfl, zq_in 1233 (by decide +kernel) rfl, zq_in 66 (by decide +kernel) rfl, by decide +kernel, by decide +kernel, by decide +kernel, by decide +kernel⟩
theorem zw_M_read : zq_MV zm_M_read 4 := ⟨zq_in 1238 (by decide +kernel) rfl, zq_in 1236 (by decide +kernel) rfl, zq_in 1237 (by decide +kernel) rfl, zq_in 66 (by decide +kernel) rfl, by decide +kernel, by decide +kernel, by decide +kernel, by decide +kernel⟩
theorem zw_M_torn : zq_MV zm_M_torn 0 := ⟨zq_in 1243 (by decide +kernel) rfl, zq_in 1241 (by decide +kernel) rfl, zq_in 1242 (by decide +kernel) rfl, zq_in 66 (by decide +kernel) rfl, by decide +kernel, by decide +kernel, by decide +kernel, by decide +kernel⟩
theorem zw_M_count : zq_MV zm_M_count 1 := ⟨zq_in 1247 (by decide +kernel) rfl, zq_in 1245 (by decide +kernel) rfl, zq_in 1246 (by decide +kernel) rfl, zq_in 66 (by decide +kernel) rfl, by decide +kernel, by decide +kernel, by decide +kernel, by decide +kernel⟩
theorem zw_JI_bitCount : zq_MS zm_JI_bitCount 1 := ⟨zq_in 643 (by decide +kernel) rfl, zq_in 642 (by decide +kernel) rfl, zq_in 71 (by decide +kernel) rfl, by decide +kernel, by decide +kernel, by decide +kernel, by decide +kernel⟩
theorem zw_JS_length : zq_MV zm_JS_length 0 := ⟨zq_in 324 (by decide +kernel) rfl, zq_in 322 (by decide +kernel) rfl, zq_in 323 (by decide +kernel) rfl, zq_in 67 (by decide +kernel) rfl, by decide +kernel, by decide +kernel, by decide +kernel, by decide +kernel⟩
theorem zw_JS_charAt : zq_MV zm_JS_charAt 1 := ⟨zq_in 334 (by decide +kernel) rfl, zq_in 332 (by decide +kernel) rfl, zq_in 333 (by decide +kernel) rfl, zq_in 67 (by decide +kernel) rfl, by decide +kernel, by decide +kernel, by decide +kernel, by decide +kernel⟩
theorem zw_JS_coder : zq_MV zm_JS_coder 0 := ⟨zq_in 328 (by decide +kernel) rfl, zq_in 326 (by decide +kernel) rfl, zq_in 327 (by decide +kernel) rfl, zq_in 67 (by decide +kernel) rfl, by decide +kernel, by decide +kernel, by decide +kernel, by decide +kernel⟩
theorem zw_JS_isLatin1 : zq_MV zm_JS_isLatin1 0 := ⟨zq_in 338 (by decide +kernel) rfl, zq_in 336 (by decide +kernel) rfl, zq_in 337 (by decide +kernel) rfl, zq_in 67 (by decide +kernel) rfl, by decide +kernel, by decide +kernel, by decide +kernel, by decide +kernel⟩
theorem zw_JS_checkIndex : zq_MS zm_JS_checkIndex 2 := ⟨zq_in 344 (by decide +kernel) rfl, zq_in 343 (by decide +kernel) rfl, zq_in 67 (by decide +kernel) rfl, by decide +kernel, by decide +kernel, by decide +kernel, by decide +kernel⟩
theorem zw_JA_charAt : zq_MS zm_JA_charAt 2 := ⟨zq_in 341 (by decide +kernel) rfl, zq_in 340 (by decide +kernel) rfl, zq_in 68 (by decide +kernel) rfl, by decide +kernel, by decide +kernel, by decide +kernel, by decide +kernel⟩
theorem zw_JU_getChar : zq_MS zm_JU_getChar 2 := ⟨zq_in 362 (by decide +kernel) rfl, zq_in 361 (by decide +kernel) rfl, zq_in 70 (by decide +kernel) rfl, by decide +kernel, by decide +kernel, by decide +kernel, by decide +kernel⟩
theorem zw_JU_length : zq_MS zm_JU_length 1 := ⟨zq_in 358 (by decide +kernel) rfl, zq_in 357 (by decide +kernel) rfl, zq_in 70 (by decide +kernel) rfl, by decide +kernel, by decide +kernel, by decide +kernel, by decide +kernel⟩
theorem zw_JU_charAt : zq_MS zm_JU_charAt 2 := ⟨zq_in 352 (by decide +kernel) rfl, zq_in 351 (by decide +kernel) rfl, zq_in 70 (by decide +kernel) rfl, by decide +kernel, by decide +kernel, by decide +kernel, by decide +kernel⟩
theorem zw_JU_checkIndex : zq_MS zm_JU_checkIndex 2 := ⟨zq_in 355 (by decide +kernel) rfl, zq_in 354 (by decide +kernel) rfl, zq_in 70 (by decide +kernel) rfl, by decide +kernel, by decide +kernel, by decide +kernel, by decide +kernel⟩
theorem zw_JP_checkIndex : zq_MS zm_JP_checkIndex 3 := ⟨zq_in 349 (by decide +kernel) rfl, zq_in 348 (by decide +kernel) rfl, zq_in 69 (by decide +kernel) rfl, by decide +kernel, by decide +kernel, by decide +kernel, by decide +kernel⟩
end
section
/-! THE PURE MACHINE. A place of the world is (t, j): t its kind, j which one (only Duchies and sheets' rows have more than one).
A pure state: ints of fields and arrays, the longs of the model's row, which duchy is 'duchy' and which is 'draft'. -/
abbrev zq_R : Type := Nat × Fin 5
abbrev zq_V : Type := Int32 ⊕ (Int64 ⊕ Option zq_R)
abbrev zq_I (x : Int32) : zq_V := Sum.inl x
abbrev zq_L (x : Int64) : zq_V := Sum.inr (Sum.inl x)
abbrev zq_O (t : Nat) (j : Fin 5) : zq_V := Sum.inr (Sum.inr (some (t, j)))
abbrev zq_T : Type := (Nat → Fin 5 → Nat → Int32) × (Nat → Int64) × Fin 5 × Fin 5
/-- addresses of places (texts: 100 + i, their bytes: 200 + i, the script: 60), classes and slots, array classes by tag, where the world begins, the script and its length -/
abbrev zq_E : Type := (Nat → Fin 5 → Nat) × va_G × (Nat → ClassId) × Nat × (Nat → Int32) × Nat
def zq_A (ν : zq_E) : Nat → Prop := fun q => ν.2.2.2.1 ≤ q
def zq_up (f : Nat → Fin 5 → Nat → Int32) (t : Nat) (j : Fin 5) (k : Nat) (x : Int32) : Nat → Fin 5 → Nat → Int32 := fun t' j' k' => if t' = t ∧ j' = j ∧ k' = k then x else f t' j' k'
abbrev zq_cl : List vw_C := [(RX0, TX0, 13), (RX1, TX1, 3), (RX2, TX2, 6), (RX3, TX3, 4), (RX4, TX4, 15), (RX5, TX5, 34)]
/-- kinds: (0, class, fields); (tag, size, 0): 1 ints, 2 bytes, 3 longs, 4 booleans, 5 rows of ints; 9: none -/
def zq_kd (t : Nat) : Nat × Nat × Nat := ([(0, 4, 15), (0, 2, 6), (2, 160, 0), (0, 3, 4), (0, 1, 3), (5, 4, 0), (1, 40, 0), (1, 4, 0), (1, 4, 0), (9, 0, 0), (0, 0, 13), (1, 6, 0), (1, 6, 0), (1, 6, 0), (1, 6, 0), (1, 5, 0), (1, 5, 0), (1, 5, 0), (1, 5, 0), (1, 5, 0), (1, 5, 0), (1, 3, 0), (1, 6, 0), (1, 6, 0), (9, 0, 0), (9, 0, 0), (9, 0, 0), (9, 0, 0), (9, 0, 0), (9, 0, 0), (0, 5, 34), (1, 112, 0), (1, 6, 0), (1, 15, 0), (1, 28, 0), (1, 6, 0), (1, 15, 0), (1, 160, 0), (1, 14, 0), (1, 52, 0), (1, 6, 0), (1, 3, 0), (3, 128, 0), (1, 12, 0), (4, 2, 0), (1, 4, 0), (1, 4, 0), (1, 160, 0)] : List (Nat × Nat × Nat)).getD t (9, 0, 0)
/-- fields: (0, _) an int; (1, t) the place of kind t beside it; (2, j) the duchy j; (3, _) 'duchy'; (4, _) 'draft' -/
def zq_ff (t k : Nat) : Nat × Nat := match t with
  | 0 => ([(1, 1), (1, 3), (1, 4), (2, 0), (2, 1), (2, 2), (1, 21), (1, 22), (1, 23), (3, 0), (4, 0)] : List (Nat × Nat)).getD k (0, 0)
  | 1 => ([(1, 2)] : List (Nat × Nat)).getD k (0, 0)
  | 4 => ([(1, 5), (1, 7), (1, 8)] : List (Nat × Nat)).getD k (0, 0)
  | 10 => ([(0, 0), (0, 0), (0, 0), (1, 11), (1, 12), (1, 13), (1, 14), (1, 15), (1, 16), (1, 17), (1, 18), (1, 19), (1, 20)] : List (Nat × Nat)).getD k (0, 0)
  | 30 => ([(1, 31), (1, 32), (1, 33), (0, 0), (0, 0), (1, 34), (1, 35), (1, 36), (0, 0), (0, 0), (0, 0), (0, 0), (1, 37), (0, 0), (0, 0), (0, 0), (0, 0), (0, 0), (0, 0), (0, 0), (0, 0), (1, 38), (1, 39), (1, 40), (1, 41), (0, 0), (1, 42), (1, 43), (0, 0), (1, 44), (1, 45), (1, 46), (1, 47)] : List (Nat × Nat)).getD k (0, 0)
  | _ => (0, 0)
def zq_fin (a : Nat) : Fin 5 := ⟨a % 5, Nat.mod_lt _ (by decide)⟩
def zq_fv (σ : zq_T) (t : Nat) (j : Fin 5) (k : Nat) : zq_V := match zq_ff t k with
  | (0, _) => zq_I (σ.1 t j k)
  | (1, t') => zq_O t' j
  | (2, a) => zq_O 10 (zq_fin a)
  | (3, _) => zq_O 10 σ.2.2.1
  | _ => zq_O 10 σ.2.2.2
def zq_ev (ν : zq_E) : zq_V → Value
  | .inl x => .int x
  | .inr (.inl x) => .long x
  | .inr (.inr none) => .null
  | .inr (.inr (some r)) => .ref (ν.1 r.1 r.2)
def zq_rows (ν : zq_E) : Nat → Option Nat := fun i => if h : i < 4 then some (ν.1 6 ⟨i, by omega⟩) else none
def zq_el (ν : zq_E) (σ : zq_T) (t : Nat) (j : Fin 5) : va_E := match zq_kd t with
  | (0, ci, N) => .inr (ci, (List.range N).map (fun k => zq_ev ν (zq_fv σ t j k)))
  | (3, n, _) => .inl (ν.2.2.1 3, n, .inr (.inl σ.2.1))
  | (5, n, _) => .inl (ν.2.2.1 5, n, .inr (.inr (.inr (.inr (zq_rows ν)))))
  | (g, n, _) => .inl (ν.2.2.1 g, n, .inl (σ.1 t j))
def zq_vd (t : Nat) (j : Fin 5) : Bool := (Nat.ble 10 t && Nat.ble t 20) || ((t == 6 && Nat.blt j.val 4) || ([0, 1, 2, 3, 4, 5, 7, 8, 21, 22, 23, 30, 31, 32, 33, 34, 35, 36, 37, 38, 39, 40, 41, 42, 43, 44, 45, 46, 47].contains t && j == 0))
def zq_cs : List zq_R := [0, 1, 2, 3, 4, 5, 7, 8, 21, 22, 23, 30, 31, 32, 33, 34, 35, 36, 37, 38, 39, 40, 41, 42, 43, 44, 45, 46, 47].map (fun t => (t, 0)) ++ ([(6, 0), (6, 1), (6, 2), (6, 3)] ++ [10, 11, 12, 13, 14, 15, 16, 17, 18, 19, 20].flatMap (fun t => [(t, 0), (t, 1), (t, 2), (t, 3), (t, 4)]))
theorem zq_cs_len : zq_cs.length = 88 := by decide +kernel
theorem zq_cs_nd : ∀ i j : Fin 88, zq_cs[i.val]? = zq_cs[j.val]? → i = j := by decide +kernel
theorem zq_inj {i j : Nat} {r : zq_R} (hi : zq_cs[i]? = some r) (hj : zq_cs[j]? = some r) : i = j := by
  have h1 := (List.getElem?_eq_some_iff.mp hi).1
  have h2 := (List.getElem?_eq_some_iff.mp hj).1
  rw [zq_cs_len] at h1 h2
  exact Fin.mk.inj_iff.mp (zq_cs_nd ⟨i, h1⟩ ⟨j, h2⟩ (hi.trans hj.symm))
theorem zq_cs_multi : ∀ t : Fin 21, ∀ j : Fin 5, 10 ≤ t.val → (t.val, j) ∈ zq_cs := by decide +kernel
theorem zq_cs_rows : ∀ j : Fin 5, j.val < 4 → (6, j) ∈ zq_cs := by decide +kernel
theorem zq_cs_one : ∀ t ∈ [0, 1, 2, 3, 4, 5, 7, 8, 21, 22, 23, 30, 31, 32, 33, 34, 35, 36, 37, 38, 39, 40, 41, 42, 43, 44, 45, 46, 47], (t, 0) ∈ zq_cs := by decide +kernel
theorem zq_mem {t : Nat} {j : Fin 5} (h : zq_vd t j = true) : (t, j) ∈ zq_cs := by
  unfold zq_vd at h
  rw [Bool.or_eq_true, Bool.or_eq_true, Bool.and_eq_true, Bool.and_eq_true, Bool.and_eq_true] at h
  rcases h with ⟨h1, h2⟩ | ⟨h1, h2⟩ | ⟨h1, h2⟩
  · have h3 := Nat.le_of_ble_eq_true h1
    have h4 := Nat.le_of_ble_eq_true h2
    exact zq_cs_multi ⟨t, by omega⟩ j h3
  · have h3 : t = 6 := by simpa using h1
    subst h3
    exact zq_cs_rows j (by simpa [Nat.blt_eq] using h2)
  · have h3 : j = 0 := by simpa using h2
    subst h3
    exact zq_cs_one t (List.contains_iff_mem.mp h1)
/-- the world's cells -/
def zq_ws (ν : zq_E) (σ : zq_T) : va_W := zq_cs.map (fun r => (ν.1 r.1 r.2, zq_el ν σ r.1 r.2))
def zq_ok (ν : zq_E) : Prop := (∀ r ∈ zq_cs, ∀ r' ∈ zq_cs, ν.1 r.1 r.2 = ν.1 r'.1 r'.2 → r = r') ∧ ∀ r ∈ zq_cs, ν.2.2.2.1 ≤ ν.1 r.1 r.2
theorem zq_D {ν : zq_E} (h : zq_ok ν) (σ : zq_T) : va_D (zq_A ν) (zq_ws ν σ) := by
  refine ⟨fun i j p q hp hq e => ?_, fun k q hk => ?_⟩
  · simp only [zq_ws, List.getElem?_map, Option.map_eq_some_iff] at hp hq
    obtain ⟨r, hr, rfl⟩ := hp
    obtain ⟨r', hr', rfl⟩ := hq
    have e2 := h.1 r (List.mem_of_getElem? hr) r' (List.mem_of_getElem? hr') e
    subst e2
    exact zq_inj hr hr'
  · simp only [zq_ws, List.getElem?_map, Option.map_eq_some_iff] at hk
    obtain ⟨r, hr, rfl⟩ := hk
    exact h.2 r (List.mem_of_getElem? hr)
theorem zq_at {t : Nat} {j : Fin 5} (h : zq_vd t j = true) : ∃ k : Nat, zq_cs[k]? = some (t, j) ∧ ∀ (ν : zq_E) (σ : zq_T), (zq_ws ν σ)[k]? = some (ν.1 t j, zq_el ν σ t j) := by
  obtain ⟨k, hk⟩ := List.getElem?_of_mem (zq_mem h)
  exact ⟨k, hk, fun ν σ => by simp [zq_ws, hk]⟩
theorem zq_set {ν : zq_E} {σ σ' : zq_T} {t : Nat} {j : Fin 5} {k : Nat} {x : va_E} (hk : zq_cs[k]? = some (t, j)) (hx : x = zq_el ν σ' t j) (ho : ∀ t' j', (t', j') ∈ zq_cs → (t', j') ≠ (t, j) → zq_el ν σ t' j' = zq_el ν σ' t' j') : (zq_ws ν σ).set k (ν.1 t j, x) = zq_ws ν σ' := by
  subst hx
  refine List.ext_getElem? fun i => ?_
  rw [List.getElem?_set]
  by_cases e : k = i
  · subst e
    have hl : k < (zq_ws ν σ).length := by
      have := (List.getElem?_eq_some_iff.mp hk).1
      simpa [zq_ws] using this
    rw [if_pos rfl, if_pos hl]
    simp [zq_ws, hk]
  · rw [if_neg e]
    simp only [zq_ws, List.getElem?_map]
    cases hi : zq_cs[i]? with
    | none => rfl
    | some r =>
      have hne : r ≠ (t, j) := by
        intro e2
        subst e2
        exact e (zq_inj hk hi)
      simp only [Option.map_some]
      rw [ho r.1 r.2 (List.mem_of_getElem? hi) hne]
/-- what stays of the state of the machine: texts, statics, the script -/
def zq_tys (ν : zq_E) : List (ClassId × FieldType) := [(ν.2.2.1 1, .int), (ν.2.2.1 2, .byte), (ν.2.2.1 3, .long), (ν.2.2.1 4, .boolean), (ν.2.2.1 5, .array .int)]
def zq_len : List Nat := [3, 4, 4, 4, 4, 3, 4, 5, 3, 4, 5, 5, 4]
def zq_byt : List (List Int32) := [[111, 110, 101], [102, 97, 99, 116], [103, 111, 110, 101], [111, 100, 100, 115], [114, 117, 108, 101], [97, 110, 121], [98, 111, 114, 110], [116, 114, 105, 101, 100], [107, 105, 110], [98, 97, 114, 101], [102, 105, 114, 115, 116], [116, 104, 105, 114, 100], [108, 97, 115, 116]]
def zq_str : List (Nat × String) := [(63, "one"), (72, "fact"), (77, "gone"), (82, "odds"), (87, "rule"), (152, "any"), (154, "born"), (156, "tried"), (158, "kin"), (160, "bare"), (162, "first"), (164, "third"), (166, "last")]
/-- what stays: texts, statics, the script -/
def zq_J (ν : zq_E) (U : State) (H : Heap) : Prop := vk_S 13 zq_len zq_byt (fun i => ν.1 (100 + i) 0) (fun i => ν.1 (200 + i) 0) (zq_A ν) U H ∧ va_Z "java/lang/String" "COMPACT_STRINGS" "Z" (.int 1) (zq_A ν) U H ∧ va_Zq "jdk/internal/util/Preconditions" "SIOOBE_FORMATTER" "Ljava/util/function/BiFunction;" (zq_A ν) U H ∧ (∀ (i : Nat) (q : Nat × String), zq_str[i]? = some q → vk_R "ThirdSon$Teller" q.1 q.2 (ν.1 (100 + i) 0) U) ∧ va_X (ν.1 60 0) ν.2.2.2.2.2 ν.2.2.2.2.1 U H ∧ ¬ zq_A ν (ν.1 60 0)
theorem zq_J.go {ν : zq_E} {s U : State} {H : Heap} {locs : List Loc} (h : zq_J ν s s.heap) (hS : va_S (zq_A ν) s.heap H locs) (hW : s.WarmedH U.vm) : zq_J ν U H := by
  obtain ⟨h1, h2, h3, h4, h5, h6⟩ := h
  refine ⟨vk_S.moved hW.alike (h1.kept hS.2.1), va_Z.moved hW.alike (h2.kept hS.2.1), va_Zq.moved hW.alike (h3.kept hS.2.1), fun i q hq => vk_R.warm hW (h4 i q hq), va_X.moved hW.alike (h5.kept (hS.2.1 _ ?_ h6)), h6⟩
  obtain ⟨scr, hs, -⟩ := h5
  exact (Array.getElem?_eq_some_iff.mp hs).1
theorem zq_J.call {ν : zq_E} {U : State} (h : zq_J ν U U.heap) (g : JFrame) (mk : MethodId) (a : Array Value) : zq_J ν (U.calling g mk a) (U.calling g mk a).heap := by
  obtain ⟨h1, h2, h3, h4, h5, h6⟩ := h
  exact ⟨vk_S.moved (u := U) (U := U.calling g mk a) (Vm.Alike.refl U.vm) h1, va_Z.moved (u := U) (U := U.calling g mk a) (Vm.Alike.refl U.vm) h2, va_Zq.moved (u := U) (U := U.calling g mk a) (Vm.Alike.refl U.vm) h3, fun i q hq => vk_R.same rfl (h4 i q hq), va_X.moved (u := U) (U := U.calling g mk a) (Vm.Alike.refl U.vm) h5, h6⟩
/-! locals -/
def zq_ct : zq_V → Nat
  | .inr (.inl _) => 2
  | _ => 1
theorem zq_ct_ev (ν : zq_E) (v : zq_V) : (zq_ev ν v).category = zq_ct v := by
  rcases v with x | x | (_ | r) <;> rfl
def zq_LH (ν : zq_E) (nL : Nat) (arr : Array Slot) (ls : List (Option zq_V)) : Prop := arr.size = nL ∧ lv_wf arr ∧ ∀ (i : Nat) (v : zq_V), ls[i]? = some (some v) → arr[i]? = some (.val (zq_ev ν v))
def zq_pk (ν : zq_E) (ls : List (Option zq_V)) (i : Nat) : Option (Nat × Value) := match ls[i]? with
  | some (some v) => some (i, zq_ev ν v)
  | _ => none
def zq_al (ν : zq_E) (ls : List (Option zq_V)) : List (Nat × Value) := (List.range ls.length).filterMap (zq_pk ν ls)
theorem zq_al_mem {ν : zq_E} {ls : List (Option zq_V)} {i : Nat} {v : zq_V} (h : ls[i]? = some (some v)) : (i, zq_ev ν v) ∈ zq_al ν ls :=
  List.mem_filterMap.mpr ⟨i, List.mem_range.mpr (List.getElem?_eq_some_iff.mp h).1, by simp only [zq_pk, h]⟩
theorem zq_al_of {ν : zq_E} {ls : List (Option zq_V)} {q : Nat × Value} (h : q ∈ zq_al ν ls) : ∃ v, ls[q.1]? = some (some v) ∧ q.2 = zq_ev ν v := by
  obtain ⟨i, -, hi⟩ := List.mem_filterMap.mp h
  unfold zq_pk at hi
  split at hi
  · next v hv =>
    cases hi
    exact ⟨v, hv, rfl⟩
  · cases hi
theorem zq_LH_has {ν : zq_E} {nL : Nat} {arr : Array Slot} {ls : List (Option zq_V)} (h : zq_LH ν nL arr ls) : lv_has arr nL (zq_al ν ls) := by
  refine ⟨h.1, h.2.1, fun q hq => ?_⟩
  obtain ⟨v, hv, he⟩ := zq_al_of hq
  rw [he]
  exact h.2.2 _ _ hv
def zq_nl (ls : List (Option zq_V)) (i : Nat) : Bool := match i with
  | 0 => true
  | i + 1 => match ls[i]? with
    | some (some (.inr (.inl _))) => false
    | _ => true
theorem zq_nl_spec {ls : List (Option zq_V)} {i i' : Nat} {w : zq_V} (h : zq_nl ls i = true) (hi : i' + 1 = i) (hw : ls[i']? = some (some w)) : zq_ct w = 1 := by
  subst hi
  rcases w with x | x | x
  · rfl
  · simp [zq_nl, hw] at h
  · rcases x with _ | x <;> rfl
theorem zq_LH_of1 {ν : zq_E} {nL : Nat} {arr : Array Slot} {ls : List (Option zq_V)} {i : Nat} {v : zq_V} (hnl : zq_nl ls i = true) (h : lv_has arr nL ((i, zq_ev ν v) :: (zq_al ν ls).filter (fun q => !(q.1 == i) && !(q.1 + 1 == i && q.2.category == 2)))) : zq_LH ν nL arr (ls.set i (some v)) := by
  refine ⟨h.1, h.2.1, fun i' w hw => ?_⟩
  rw [List.getElem?_set] at hw
  by_cases e : i = i'
  · subst e
    rw [if_pos rfl] at hw
    split at hw
    · cases hw
      exact h.2.2 _ List.mem_cons_self
    · cases hw
  · rw [if_neg e] at hw
    refine h.2.2 (i', zq_ev ν w) (List.mem_cons_of_mem _ (List.mem_filter.mpr ⟨zq_al_mem hw, ?_⟩))
    have h1 : (i' == i) = false := by simpa using fun q => e q.symm
    by_cases h2 : i' + 1 = i
    · have h3 := zq_nl_spec hnl h2 hw
      simp [h1, zq_ct_ev, h3]
    · simp [h1, h2]
theorem zq_LH_of2 {ν : zq_E} {nL : Nat} {arr : Array Slot} {ls : List (Option zq_V)} {i : Nat} {x : Int64} (hnl : zq_nl ls i = true) (h : lv_has arr nL ((i, .long x) :: (zq_al ν ls).filter (fun q => !(q.1 == i) && (!(q.1 == i + 1) && !(q.1 + 1 == i && q.2.category == 2))))) : zq_LH ν nL arr ((ls.set i (some (zq_L x))).set (i + 1) none) := by
  refine ⟨h.1, h.2.1, fun i' w hw => ?_⟩
  rw [List.getElem?_set] at hw
  by_cases e1 : i + 1 = i'
  · subst e1
    rw [if_pos rfl] at hw
    split at hw <;> cases hw
  · rw [if_neg e1, List.getElem?_set] at hw
    by_cases e : i = i'
    · subst e
      rw [if_pos rfl] at hw
      split at hw
      · cases hw
        exact h.2.2 _ List.mem_cons_self
      · cases hw
    · rw [if_neg e] at hw
      refine h.2.2 (i', zq_ev ν w) (List.mem_cons_of_mem _ (List.mem_filter.mpr ⟨zq_al_mem hw, ?_⟩))
      have h1 : (i' == i) = false := by simpa using fun q => e q.symm
      have h0 : (i' == i + 1) = false := by simpa using fun q => e1 q.symm
      by_cases h2 : i' + 1 = i
      · have h3 := zq_nl_spec hnl h2 hw
        simp [h1, h0, zq_ct_ev, h3]
      · simp [h1, h0, h2]
def zq_en : List zq_V → List (Option zq_V)
  | [] => []
  | .inr (.inl x) :: r => some (zq_L x) :: none :: zq_en r
  | v :: r => some v :: zq_en r
theorem zq_en_args (ν : zq_E) : ∀ (l : List zq_V) (k i : Nat) (v : zq_V), (zq_en l)[i]? = some (some v) → (k + i, zq_ev ν v) ∈ lv_args k (l.map (zq_ev ν))
  | [], k, i, v, h => by simp [zq_en] at h
  | .inl x :: r, k, 0, v, h => by
    simp only [zq_en, List.getElem?_cons_zero, Option.some.injEq] at h
    subst h
    exact List.mem_cons_self
  | .inl x :: r, k, i + 1, v, h => by
    simp only [zq_en, List.getElem?_cons_succ] at h
    have := zq_en_args ν r (k + 1) i v h
    rw [show k + 1 + i = k + (i + 1) by omega] at this
    exact List.mem_cons_of_mem _ this
  | .inr (.inl x) :: r, k, 0, v, h => by
    simp only [zq_en, List.getElem?_cons_zero, Option.some.injEq] at h
    subst h
    exact List.mem_cons_self
  | .inr (.inl x) :: r, k, 1, v, h => by
    simp [zq_en] at h
  | .inr (.inl x) :: r, k, i + 2, v, h => by
    simp only [zq_en, List.getElem?_cons_succ] at h
    have := zq_en_args ν r (k + 2) i v h
    rw [show k + 2 + i = k + (i + 2) by omega] at this
    exact List.mem_cons_of_mem _ this
  | .inr (.inr x) :: r, k, 0, v, h => by
    simp only [zq_en, List.getElem?_cons_zero, Option.some.injEq] at h
    subst h
    exact List.mem_cons_self
  | .inr (.inr x) :: r, k, i + 1, v, h => by
    simp only [zq_en, List.getElem?_cons_succ] at h
    have := zq_en_args ν r (k + 1) i v h
    rw [show k + 1 + i = k + (i + 1) by omega] at this
    rcases x with _ | x
    · exact List.mem_cons_of_mem _ this
    · exact List.mem_cons_of_mem _ this
theorem zq_en_len (ν : zq_E) : ∀ l : List zq_V, (lg_sl (l.map (zq_ev ν))).length = (zq_en l).length
  | [] => rfl
  | .inl x :: r => by
    have := zq_en_len ν r
    simp [lg_sl, zq_en, zq_ev, Value.category] at this ⊢
    omega
  | .inr (.inl x) :: r => by
    have := zq_en_len ν r
    simp [lg_sl, zq_en, zq_ev, Value.category] at this ⊢
    omega
  | .inr (.inr (some x)) :: r => by
    have := zq_en_len ν r
    simp [lg_sl, zq_en, zq_ev, Value.category] at this ⊢
    omega
  | .inr (.inr none) :: r => by
    have := zq_en_len ν r
    simp [lg_sl, zq_en, zq_ev, Value.category] at this ⊢
    omega
/-! the judgements -/
def zq_C (ν : zq_E) (M : zq_M) (h : Nat) (p : Program) (R : Room) (s : State) (m : MethodId) (args : Array Value) (c : Code) (cells slots : Nat) : Prop :=
  p.tables.exec = Jvm.exec ∧ c.code = M.2.1 ∧ c.maxLocals = M.2.2.1 ∧ s.vm.findClass M.1.cls = some m.cls ∧ (∀ w ∈ zq_tbl, w.before args s = true) ∧ va_K ν.2.1 zq_cl (zq_tys ν) s ∧ zq_J ν s s.heap ∧ h ≤ R.frames ∧ 60 * h ≤ R.locals ∧ cells ≤ R.cells ∧ slots ≤ R.slots
/-- an answer and the instruction that gives it -/
def zq_rk (ret : Option FieldType) (r : Option zq_V) (ins : Instr) : Prop :=
  (ret = none ∧ r = none ∧ ins = .return_) ∨ (∃ (ty : FieldType) (x : Int32), ret = some ty ∧ r = some (zq_I x) ∧ ins = .ireturn ∧ narrow ty (.int x) = .int x) ∨ (∃ x : Int64, ret = some .long ∧ r = some (zq_L x) ∧ ins = .lreturn) ∨ (∃ (C : String) (q : zq_R), ret = some (.object C) ∧ r = some (Sum.inr (Sum.inr (some q))) ∧ ins = .areturn)
def zq_X (ν : zq_E) (M : zq_M) (Q : Option zq_V → zq_T → Prop) (p : Program) (l : Launch) (e : Env) (R : Room) (s : State) (m : MethodId) (args : Array Value) (below : List Frame) (meth : Method) (c : Code) (cells slots : Nat) (Qm : State → Prop) : Prop :=
  ∀ (r : Option zq_V) (σ' : zq_T) (ins : Instr) (H : Heap) (locs : List Loc) (pc : Nat) (arr : Array Slot), zq_rk M.2.2.2 r ins → decode M.2.1 pc = .ok (ins, 1) → Q r σ' → va_P ν.2.1 zq_cl (zq_ws ν σ') H → va_S (zq_A ν) s.heap H locs → W p l e R s m args below meth c H locs cells slots Qm (F0 m pc arr ((r.map (zq_ev ν)).toList))
def zq_G (ν : zq_E) (M : zq_M) (h : Nat) (Q : Option zq_V → zq_T → Prop) (pc : Nat) (ls : List (Option zq_V)) (st : List zq_V) (σ : zq_T) : Prop :=
  ∀ (p : Program) (l : Launch) (e : Env) (R : Room) (s : State) (m : MethodId) (args : Array Value) (below : List Frame) (meth : Method) (c : Code) (cells slots : Nat) (Qm : State → Prop) (H : Heap) (locs : List Loc) (arr : Array Slot),
    zq_ok ν → zq_C ν M h p R s m args c cells slots → zq_X ν M Q p l e R s m args below meth c cells slots Qm → va_P ν.2.1 zq_cl (zq_ws ν σ) H → va_S (zq_A ν) s.heap H locs → zq_LH ν M.2.2.1 arr ls →
    W p l e R s m args below meth c H locs cells slots Qm (F0 m pc arr (st.map (zq_ev ν)))
def zq_Pc (ν : zq_E) (args : List zq_V) (σ : zq_T) : Array Value → State → Prop := va_Pc (args.map (zq_ev ν)) (fun U => va_P ν.2.1 zq_cl (zq_ws ν σ) U.heap ∧ va_K ν.2.1 zq_cl (zq_tys ν) U ∧ zq_J ν U U.heap)
def zq_Qc (ν : zq_E) (Q : Option zq_V → zq_T → Prop) : Array Value → State → Outcome → State → Prop := fun _ st oc t => (∃ (r : Option zq_V) (σ' : zq_T), oc = .returned (r.map (zq_ev ν)) ∧ Q r σ' ∧ va_P ν.2.1 zq_cl (zq_ws ν σ') t.heap) ∧ va_F (zq_A ν) st t
def zq_rm (h : Nat) : Room := { frames := h, cells := 0, slots := 0, locals := 60 * h }
def zq_wm (M : zq_M) : List Cond := Cond.code M.1 M.2.1 M.2.2.1 M.2.2.2 :: zq_tbl
/-- a method's contract in the pure world: from these arguments and this state it returns, with Q of answer and state -/
def zq_Sp (M : zq_M) (h : Nat) (args : List zq_V) (σ : zq_T) (Q : Option zq_V → zq_T → Prop) : Prop := ∀ ν : zq_E, zq_ok ν → ∀ l : Launch, Met l M.1 (zq_wm M) (zq_rm h) (zq_Pc ν args σ) (zq_Qc ν Q) 0 0 (zq_A ν)
def zq_rv (v : zq_V) (τ : zq_T) : Option zq_V → zq_T → Prop := fun r σ' => r = some v ∧ σ' = τ
def zq_r0 (τ : zq_T) : Option zq_V → zq_T → Prop := fun r σ' => r = none ∧ σ' = τ
theorem zq_sp {M : zq_M} {h : Nat} {args : List zq_V} {σ : zq_T} {Q : Option zq_V → zq_T → Prop} (ls : List (Option zq_V)) (hpl : plainName M.1.cls = true) (hls : zq_en args ++ List.replicate (M.2.2.1 - (zq_en args).length) none = ls) (hn : (zq_en args).length ≤ M.2.2.1) (hG : ∀ ν, zq_G ν M h Q 0 ls [] σ) : zq_Sp M h args σ Q := by
  intro ν hok l
  refine Met.ofW (cc := M.2.1) (maxL := M.2.2.1) (ret := M.2.2.2) hpl rfl ?_
  intro p e s m a below meth c s₁ B hml hv
  obtain ⟨rfl, hP, hK, hJ⟩ := hv
  have hts := atoms_spec (ws := zq_wm M) B.pre
  have hlocks := B.notSynchronized
  have hlen : (lg_sl (args.map (zq_ev ν))).length ≤ M.2.2.1 := by rw [zq_en_len]; exact hn
  have hl := lv_entry (args.map (zq_ev ν)) (n := M.2.2.1) hlen
  rw [lg_entry_eq]
  generalize ((lg_sl (args.map (zq_ev ν))) ++ List.replicate (M.2.2.1 - (lg_sl (args.map (zq_ev ν))).length) Slot.unset).toArray = arr at hl ⊢
  refine hG ν p l e (headSpec (zq_wm M) (zq_rm h)).room s m _ below meth c 0 0 _ s.heap [] arr hok ⟨B.exec, B.bytes, hml, findClass_of_methodNamed B.named, fun w hw => hts w (List.mem_cons_of_mem _ hw), hK, hJ, Nat.le_refl _, Nat.le_refl _, Nat.le_refl _, Nat.le_refl _⟩ ?_ hP va_S.rf ⟨hl.1, hl.2.1, fun i v hv => ?_⟩
  · intro r σ' ins H locs pc arr hr hd hQ hP hS
    rcases hr with ⟨h1, rfl, rfl⟩ | ⟨ty, x, h1, rfl, rfl, h2⟩ | ⟨x, h1, rfl, rfl⟩ | ⟨C, q, h1, rfl, rfl⟩
    · exact W.vret B.exec B.bytes (B.returns.trans h1) (fun t ht hW => ⟨⟨none, σ', rfl, hQ, by rw [ht]; exact hP⟩, hS.F ht⟩) hS.2.2 hd
    · exact W.zret B.exec B.bytes (B.returns.trans h1) h2 (fun t ht hW => ⟨⟨some (zq_I x), σ', rfl, hQ, by rw [ht]; exact hP⟩, hS.F ht⟩) hS.2.2 hd
    · exact W.lret B.exec B.bytes (B.returns.trans h1) (fun t ht hW => ⟨⟨some (zq_L x), σ', rfl, hQ, by rw [ht]; exact hP⟩, hS.F ht⟩) hS.2.2 hd
    · exact W.aret B.exec B.bytes (B.returns.trans h1) (Or.inl ⟨C, rfl⟩) (Or.inr ⟨_, rfl⟩) (fun t ht hW => ⟨⟨some (Sum.inr (Sum.inr (some q))), σ', rfl, hQ, by rw [ht]; exact hP⟩, hS.F ht⟩) hS.2.2 hd
  · rw [← hls, List.getElem?_append] at hv
    split at hv
    · have := zq_en_args ν args 0 i v hv
      rw [Nat.zero_add] at this
      exact hl.2.2 _ this
    · rw [List.getElem?_replicate] at hv
      split at hv <;> cases hv
theorem zq_good {M : zq_M} (hc : Cond.code M.1 M.2.1 M.2.2.1 M.2.2.2 ∈ zq_tbl) : GoodIn zq_tbl (zq_wm M) := by
  intro w hw
  rcases List.mem_cons.mp hw with rfl | h
  · exact ⟨hc, good_of_word (List.mem_filter.mp hc).2⟩
  · exact ⟨h, good_of_word (List.mem_filter.mp h).2⟩
/-- fewer locals known -/
theorem zq_fewer {ν : zq_E} {M : zq_M} {h : Nat} {Q : Option zq_V → zq_T → Prop} {pc : Nat} {ls : List (Option zq_V)} {st : List zq_V} {σ : zq_T} (ls' : List (Option zq_V)) (hl : ∀ (i : Nat) (v : zq_V), ls'[i]? = some (some v) → ls[i]? = some (some v)) (k : zq_G ν M h Q pc ls' st σ) : zq_G ν M h Q pc ls st σ := by
  intro p l e R s m args below meth c cells slots Qm H locs arr hok hC hX hP hS hL
  exact k p l e R s m args below meth c cells slots Qm H locs arr hok hC hX hP hS ⟨hL.1, hL.2.1, fun i v hv => hL.2.2 i v (hl i v hv)⟩
def zq_sub : List (Option zq_V) → List (Option zq_V) → Prop
  | [], _ => True
  | none :: a, _ :: b => zq_sub a b
  | some v :: a, w :: b => w = some v ∧ zq_sub a b
  | none :: a, [] => zq_sub a []
  | some _ :: _, [] => False
theorem zq_sub_spec : ∀ {a b : List (Option zq_V)}, zq_sub a b → ∀ (i : Nat) (v : zq_V), a[i]? = some (some v) → b[i]? = some (some v)
  | [], _, _, i, v, h => by simp at h
  | none :: a, _ :: b, hs, 0, v, h => by simp at h
  | none :: a, _ :: b, hs, i + 1, v, h => by
    simp only [List.getElem?_cons_succ] at h ⊢
    exact zq_sub_spec (a := a) (b := b) hs i v h
  | some w :: a, x :: b, hs, 0, v, h => by
    simp only [List.getElem?_cons_zero, Option.some.injEq] at h ⊢
    rw [← h]
    exact hs.1
  | some w :: a, x :: b, hs, i + 1, v, h => by
    simp only [List.getElem?_cons_succ] at h ⊢
    exact zq_sub_spec (a := a) (b := b) hs.2 i v h
  | none :: a, [], hs, 0, v, h => by simp at h
  | none :: a, [], hs, i + 1, v, h => by
    simp only [List.getElem?_cons_succ] at h
    exact absurd (zq_sub_spec (a := a) (b := []) hs i v h) (by simp)
  | some _ :: _, [], hs, i, v, h => hs.elim
end
section
theorem gq_iconst {ν : zq_E} {M : zq_M} {h : Nat} {Q : Option zq_V → zq_T → Prop} {pc : Nat} {ls : List (Option zq_V)} {st : List zq_V} {σ : zq_T} {n : Int} {v : Int32} (hd : decode M.2.1 pc = .ok (.iconst n, 1)) (hv : Int32.ofInt n = v) (k : zq_G ν M h Q (pc + 1) ls (zq_I v :: st) σ) : zq_G ν M h Q pc ls (st) σ := by
  intro p l e R s m args below meth c cells slots Qm H locs arr hok hC hX hP hS hL
  exact lv_iconst hC.1 hC.2.1 hd hv (k p l e R s m args below meth c cells slots Qm H locs arr hok hC hX hP hS hL)
theorem gq_bipush {ν : zq_E} {M : zq_M} {h : Nat} {Q : Option zq_V → zq_T → Prop} {pc : Nat} {ls : List (Option zq_V)} {st : List zq_V} {σ : zq_T} {n : Int} {v : Int32} (hd : decode M.2.1 pc = .ok (.bipush n, 2)) (hv : (Int8.ofInt n).toInt32 = v) (k : zq_G ν M h Q (pc + 2) ls (zq_I v :: st) σ) : zq_G ν M h Q pc ls (st) σ := by
  intro p l e R s m args below meth c cells slots Qm H locs arr hok hC hX hP hS hL
  exact lv_bipush hC.1 hC.2.1 hd hv (k p l e R s m args below meth c cells slots Qm H locs arr hok hC hX hP hS hL)
theorem gq_sipush {ν : zq_E} {M : zq_M} {h : Nat} {Q : Option zq_V → zq_T → Prop} {pc : Nat} {ls : List (Option zq_V)} {st : List zq_V} {σ : zq_T} {n : Int} {v : Int32} (hd : decode M.2.1 pc = .ok (.sipush n, 3)) (hv : (Int16.ofInt n).toInt32 = v) (k : zq_G ν M h Q (pc + 3) ls (zq_I v :: st) σ) : zq_G ν M h Q pc ls (st) σ := by
  intro p l e R s m args below meth c cells slots Qm H locs arr hok hC hX hP hS hL
  exact lv_sipush hC.1 hC.2.1 hd hv (k p l e R s m args below meth c cells slots Qm H locs arr hok hC hX hP hS hL)
theorem gq_lconst {ν : zq_E} {M : zq_M} {h : Nat} {Q : Option zq_V → zq_T → Prop} {pc : Nat} {ls : List (Option zq_V)} {st : List zq_V} {σ : zq_T} {n : Fin 2} {v : Int64} (hd : decode M.2.1 pc = .ok (.lconst n, 1)) (hv : Int64.ofNat (n : Nat) = v) (k : zq_G ν M h Q (pc + 1) ls (zq_L v :: st) σ) : zq_G ν M h Q pc ls (st) σ := by
  intro p l e R s m args below meth c cells slots Qm H locs arr hok hC hX hP hS hL
  exact lv_lconst hC.1 hC.2.1 hd hv (k p l e R s m args below meth c cells slots Qm H locs arr hok hC hX hP hS hL)
theorem gq_iadd {ν : zq_E} {M : zq_M} {h : Nat} {Q : Option zq_V → zq_T → Prop} {pc : Nat} {ls : List (Option zq_V)} {st : List zq_V} {σ : zq_T} {x y : Int32} (hd : decode M.2.1 pc = .ok (.iadd, 1)) (k : zq_G ν M h Q (pc + 1) ls (zq_I (x + y) :: st) σ) : zq_G ν M h Q pc ls (zq_I y :: zq_I x :: st) σ := by
  intro p l e R s m args below meth c cells slots Qm H locs arr hok hC hX hP hS hL
  exact lv_iadd hC.1 hC.2.1 hd (k p l e R s m args below meth c cells slots Qm H locs arr hok hC hX hP hS hL)
theorem gq_isub {ν : zq_E} {M : zq_M} {h : Nat} {Q : Option zq_V → zq_T → Prop} {pc : Nat} {ls : List (Option zq_V)} {st : List zq_V} {σ : zq_T} {x y : Int32} (hd : decode M.2.1 pc = .ok (.isub, 1)) (k : zq_G ν M h Q (pc + 1) ls (zq_I (x - y) :: st) σ) : zq_G ν M h Q pc ls (zq_I y :: zq_I x :: st) σ := by
  intro p l e R s m args below meth c cells slots Qm H locs arr hok hC hX hP hS hL
  exact lv_isub hC.1 hC.2.1 hd (k p l e R s m args below meth c cells slots Qm H locs arr hok hC hX hP hS hL)
theorem gq_imul {ν : zq_E} {M : zq_M} {h : Nat} {Q : Option zq_V → zq_T → Prop} {pc : Nat} {ls : List (Option zq_V)} {st : List zq_V} {σ : zq_T} {x y : Int32} (hd : decode M.2.1 pc = .ok (.imul, 1)) (k : zq_G ν M h Q (pc + 1) ls (zq_I (x * y) :: st) σ) : zq_G ν M h Q pc ls (zq_I y :: zq_I x :: st) σ := by
  intro p l e R s m args below meth c cells slots Qm H locs arr hok hC hX hP hS hL
  exact lv_imul hC.1 hC.2.1 hd (k p l e R s m args below meth c cells slots Qm H locs arr hok hC hX hP hS hL)
theorem gq_iand {ν : zq_E} {M : zq_M} {h : Nat} {Q : Option zq_V → zq_T → Prop} {pc : Nat} {ls : List (Option zq_V)} {st : List zq_V} {σ : zq_T} {x y : Int32} (hd : decode M.2.1 pc = .ok (.iand, 1)) (k : zq_G ν M h Q (pc + 1) ls (zq_I (x &&& y) :: st) σ) : zq_G ν M h Q pc ls (zq_I y :: zq_I x :: st) σ := by
  intro p l e R s m args below meth c cells slots Qm H locs arr hok hC hX hP hS hL
  exact lv_iand hC.1 hC.2.1 hd (k p l e R s m args below meth c cells slots Qm H locs arr hok hC hX hP hS hL)
theorem gq_ior {ν : zq_E} {M : zq_M} {h : Nat} {Q : Option zq_V → zq_T → Prop} {pc : Nat} {ls : List (Option zq_V)} {st : List zq_V} {σ : zq_T} {x y : Int32} (hd : decode M.2.1 pc = .ok (.ior, 1)) (k : zq_G ν M h Q (pc + 1) ls (zq_I (x ||| y) :: st) σ) : zq_G ν M h Q pc ls (zq_I y :: zq_I x :: st) σ := by
  intro p l e R s m args below meth c cells slots Qm H locs arr hok hC hX hP hS hL
  exact lv_ior hC.1 hC.2.1 hd (k p l e R s m args below meth c cells slots Qm H locs arr hok hC hX hP hS hL)
theorem gq_ixor {ν : zq_E} {M : zq_M} {h : Nat} {Q : Option zq_V → zq_T → Prop} {pc : Nat} {ls : List (Option zq_V)} {st : List zq_V} {σ : zq_T} {x y : Int32} (hd : decode M.2.1 pc = .ok (.ixor, 1)) (k : zq_G ν M h Q (pc + 1) ls (zq_I (x ^^^ y) :: st) σ) : zq_G ν M h Q pc ls (zq_I y :: zq_I x :: st) σ := by
  intro p l e R s m args below meth c cells slots Qm H locs arr hok hC hX hP hS hL
  exact lv_ixor hC.1 hC.2.1 hd (k p l e R s m args below meth c cells slots Qm H locs arr hok hC hX hP hS hL)
theorem gq_ishl {ν : zq_E} {M : zq_M} {h : Nat} {Q : Option zq_V → zq_T → Prop} {pc : Nat} {ls : List (Option zq_V)} {st : List zq_V} {σ : zq_T} {x y : Int32} (hd : decode M.2.1 pc = .ok (.ishl, 1)) (k : zq_G ν M h Q (pc + 1) ls (zq_I (x <<< (y &&& 31)) :: st) σ) : zq_G ν M h Q pc ls (zq_I y :: zq_I x :: st) σ := by
  intro p l e R s m args below meth c cells slots Qm H locs arr hok hC hX hP hS hL
  exact lv_ishl hC.1 hC.2.1 hd (k p l e R s m args below meth c cells slots Qm H locs arr hok hC hX hP hS hL)
theorem gq_ishr {ν : zq_E} {M : zq_M} {h : Nat} {Q : Option zq_V → zq_T → Prop} {pc : Nat} {ls : List (Option zq_V)} {st : List zq_V} {σ : zq_T} {x y : Int32} (hd : decode M.2.1 pc = .ok (.ishr, 1)) (k : zq_G ν M h Q (pc + 1) ls (zq_I (x >>> (y &&& 31)) :: st) σ) : zq_G ν M h Q pc ls (zq_I y :: zq_I x :: st) σ := by
  intro p l e R s m args below meth c cells slots Qm H locs arr hok hC hX hP hS hL
  exact lv_ishr hC.1 hC.2.1 hd (k p l e R s m args below meth c cells slots Qm H locs arr hok hC hX hP hS hL)
theorem gq_idiv {ν : zq_E} {M : zq_M} {h : Nat} {Q : Option zq_V → zq_T → Prop} {pc : Nat} {ls : List (Option zq_V)} {st : List zq_V} {σ : zq_T} {x y : Int32} (hd : decode M.2.1 pc = .ok (.idiv, 1)) (hne : ¬ y = 0) (k : zq_G ν M h Q (pc + 1) ls (zq_I (x / y) :: st) σ) : zq_G ν M h Q pc ls (zq_I y :: zq_I x :: st) σ := by
  intro p l e R s m args below meth c cells slots Qm H locs arr hok hC hX hP hS hL
  exact lv_idiv hC.1 hC.2.1 hd hne (k p l e R s m args below meth c cells slots Qm H locs arr hok hC hX hP hS hL)
theorem gq_irem {ν : zq_E} {M : zq_M} {h : Nat} {Q : Option zq_V → zq_T → Prop} {pc : Nat} {ls : List (Option zq_V)} {st : List zq_V} {σ : zq_T} {x y : Int32} (hd : decode M.2.1 pc = .ok (.irem, 1)) (hne : ¬ y = 0) (k : zq_G ν M h Q (pc + 1) ls (zq_I (x - x / y * y) :: st) σ) : zq_G ν M h Q pc ls (zq_I y :: zq_I x :: st) σ := by
  intro p l e R s m args below meth c cells slots Qm H locs arr hok hC hX hP hS hL
  exact lv_irem hC.1 hC.2.1 hd hne (k p l e R s m args below meth c cells slots Qm H locs arr hok hC hX hP hS hL)
theorem gq_ladd {ν : zq_E} {M : zq_M} {h : Nat} {Q : Option zq_V → zq_T → Prop} {pc : Nat} {ls : List (Option zq_V)} {st : List zq_V} {σ : zq_T} {x y : Int64} (hd : decode M.2.1 pc = .ok (.ladd, 1)) (k : zq_G ν M h Q (pc + 1) ls (zq_L (x + y) :: st) σ) : zq_G ν M h Q pc ls (zq_L y :: zq_L x :: st) σ := by
  intro p l e R s m args below meth c cells slots Qm H locs arr hok hC hX hP hS hL
  exact lv_ladd hC.1 hC.2.1 hd (k p l e R s m args below meth c cells slots Qm H locs arr hok hC hX hP hS hL)
theorem gq_lsub {ν : zq_E} {M : zq_M} {h : Nat} {Q : Option zq_V → zq_T → Prop} {pc : Nat} {ls : List (Option zq_V)} {st : List zq_V} {σ : zq_T} {x y : Int64} (hd : decode M.2.1 pc = .ok (.lsub, 1)) (k : zq_G ν M h Q (pc + 1) ls (zq_L (x - y) :: st) σ) : zq_G ν M h Q pc ls (zq_L y :: zq_L x :: st) σ := by
  intro p l e R s m args below meth c cells slots Qm H locs arr hok hC hX hP hS hL
  exact lv_lsub hC.1 hC.2.1 hd (k p l e R s m args below meth c cells slots Qm H locs arr hok hC hX hP hS hL)
theorem gq_lmul {ν : zq_E} {M : zq_M} {h : Nat} {Q : Option zq_V → zq_T → Prop} {pc : Nat} {ls : List (Option zq_V)} {st : List zq_V} {σ : zq_T} {x y : Int64} (hd : decode M.2.1 pc = .ok (.lmul, 1)) (k : zq_G ν M h Q (pc + 1) ls (zq_L (x * y) :: st) σ) : zq_G ν M h Q pc ls (zq_L y :: zq_L x :: st) σ := by
  intro p l e R s m args below meth c cells slots Qm H locs arr hok hC hX hP hS hL
  exact lv_lmul hC.1 hC.2.1 hd (k p l e R s m args below meth c cells slots Qm H locs arr hok hC hX hP hS hL)
theorem gq_ldiv {ν : zq_E} {M : zq_M} {h : Nat} {Q : Option zq_V → zq_T → Prop} {pc : Nat} {ls : List (Option zq_V)} {st : List zq_V} {σ : zq_T} {x y : Int64} (hd : decode M.2.1 pc = .ok (.ldiv, 1)) (hne : ¬ y = 0) (k : zq_G ν M h Q (pc + 1) ls (zq_L (x / y) :: st) σ) : zq_G ν M h Q pc ls (zq_L y :: zq_L x :: st) σ := by
  intro p l e R s m args below meth c cells slots Qm H locs arr hok hC hX hP hS hL
  exact lv_ldiv hC.1 hC.2.1 hd hne (k p l e R s m args below meth c cells slots Qm H locs arr hok hC hX hP hS hL)
theorem gq_lrem {ν : zq_E} {M : zq_M} {h : Nat} {Q : Option zq_V → zq_T → Prop} {pc : Nat} {ls : List (Option zq_V)} {st : List zq_V} {σ : zq_T} {x y : Int64} (hd : decode M.2.1 pc = .ok (.lrem, 1)) (hne : ¬ y = 0) (k : zq_G ν M h Q (pc + 1) ls (zq_L (x - x / y * y) :: st) σ) : zq_G ν M h Q pc ls (zq_L y :: zq_L x :: st) σ := by
  intro p l e R s m args below meth c cells slots Qm H locs arr hok hC hX hP hS hL
  exact lv_lrem hC.1 hC.2.1 hd hne (k p l e R s m args below meth c cells slots Qm H locs arr hok hC hX hP hS hL)
theorem gq_iushr {ν : zq_E} {M : zq_M} {h : Nat} {Q : Option zq_V → zq_T → Prop} {pc : Nat} {ls : List (Option zq_V)} {st : List zq_V} {σ : zq_T} {x y : Int32} (hd : decode M.2.1 pc = .ok (.iushr, 1)) (k : zq_G ν M h Q (pc + 1) ls (zq_I (x.toUInt32 >>> (y.toUInt32 &&& Int32.toUInt32 31)).toInt32 :: st) σ) : zq_G ν M h Q pc ls (zq_I y :: zq_I x :: st) σ := by
  intro p l e R s m args below meth c cells slots Qm H locs arr hok hC hX hP hS hL
  exact lv_iushr hC.1 hC.2.1 hd rfl (k p l e R s m args below meth c cells slots Qm H locs arr hok hC hX hP hS hL)
theorem gq_ineg {ν : zq_E} {M : zq_M} {h : Nat} {Q : Option zq_V → zq_T → Prop} {pc : Nat} {ls : List (Option zq_V)} {st : List zq_V} {σ : zq_T} {x : Int32} (hd : decode M.2.1 pc = .ok (.ineg, 1)) (k : zq_G ν M h Q (pc + 1) ls (zq_I (-x) :: st) σ) : zq_G ν M h Q pc ls (zq_I x :: st) σ := by
  intro p l e R s m args below meth c cells slots Qm H locs arr hok hC hX hP hS hL
  exact lv_ineg hC.1 hC.2.1 hd (k p l e R s m args below meth c cells slots Qm H locs arr hok hC hX hP hS hL)
theorem gq_i2l {ν : zq_E} {M : zq_M} {h : Nat} {Q : Option zq_V → zq_T → Prop} {pc : Nat} {ls : List (Option zq_V)} {st : List zq_V} {σ : zq_T} {x : Int32} (hd : decode M.2.1 pc = .ok (.i2l, 1)) (k : zq_G ν M h Q (pc + 1) ls (zq_L x.toInt64 :: st) σ) : zq_G ν M h Q pc ls (zq_I x :: st) σ := by
  intro p l e R s m args below meth c cells slots Qm H locs arr hok hC hX hP hS hL
  exact lv_i2l hC.1 hC.2.1 hd rfl (k p l e R s m args below meth c cells slots Qm H locs arr hok hC hX hP hS hL)
theorem gq_l2i {ν : zq_E} {M : zq_M} {h : Nat} {Q : Option zq_V → zq_T → Prop} {pc : Nat} {ls : List (Option zq_V)} {st : List zq_V} {σ : zq_T} {x : Int64} (hd : decode M.2.1 pc = .ok (.l2i, 1)) (k : zq_G ν M h Q (pc + 1) ls (zq_I x.toInt32 :: st) σ) : zq_G ν M h Q pc ls (zq_L x :: st) σ := by
  intro p l e R s m args below meth c cells slots Qm H locs arr hok hC hX hP hS hL
  exact lv_l2i hC.1 hC.2.1 hd rfl (k p l e R s m args below meth c cells slots Qm H locs arr hok hC hX hP hS hL)
theorem gq_i2b {ν : zq_E} {M : zq_M} {h : Nat} {Q : Option zq_V → zq_T → Prop} {pc : Nat} {ls : List (Option zq_V)} {st : List zq_V} {σ : zq_T} {x : Int32} (hd : decode M.2.1 pc = .ok (.i2b, 1)) (k : zq_G ν M h Q (pc + 1) ls (zq_I x.toInt8.toInt32 :: st) σ) : zq_G ν M h Q pc ls (zq_I x :: st) σ := by
  intro p l e R s m args below meth c cells slots Qm H locs arr hok hC hX hP hS hL
  exact lv_i2b hC.1 hC.2.1 hd rfl (k p l e R s m args below meth c cells slots Qm H locs arr hok hC hX hP hS hL)
theorem gq_i2s {ν : zq_E} {M : zq_M} {h : Nat} {Q : Option zq_V → zq_T → Prop} {pc : Nat} {ls : List (Option zq_V)} {st : List zq_V} {σ : zq_T} {x : Int32} (hd : decode M.2.1 pc = .ok (.i2s, 1)) (k : zq_G ν M h Q (pc + 1) ls (zq_I x.toInt16.toInt32 :: st) σ) : zq_G ν M h Q pc ls (zq_I x :: st) σ := by
  intro p l e R s m args below meth c cells slots Qm H locs arr hok hC hX hP hS hL
  exact lv_i2s hC.1 hC.2.1 hd rfl (k p l e R s m args below meth c cells slots Qm H locs arr hok hC hX hP hS hL)
theorem gq_lcmp {ν : zq_E} {M : zq_M} {h : Nat} {Q : Option zq_V → zq_T → Prop} {pc : Nat} {ls : List (Option zq_V)} {st : List zq_V} {σ : zq_T} {x y : Int64} (hd : decode M.2.1 pc = .ok (.lcmp, 1)) (k : zq_G ν M h Q (pc + 1) ls (zq_I (lg_cmp x y) :: st) σ) : zq_G ν M h Q pc ls (zq_L y :: zq_L x :: st) σ := by
  intro p l e R s m args below meth c cells slots Qm H locs arr hok hC hX hP hS hL
  exact W.lcmp hC.1 hC.2.1 hd (k p l e R s m args below meth c cells slots Qm H locs arr hok hC hX hP hS hL)
theorem gq_pop {ν : zq_E} {M : zq_M} {h : Nat} {Q : Option zq_V → zq_T → Prop} {pc : Nat} {ls : List (Option zq_V)} {st : List zq_V} {σ : zq_T} {v : zq_V} (hd : decode M.2.1 pc = .ok (.pop, 1)) (hv : zq_ct v = 1) (k : zq_G ν M h Q (pc + 1) ls (st) σ) : zq_G ν M h Q pc ls (v :: st) σ := by
  intro p l e R s m args below meth c cells slots Qm H locs arr hok hC hX hP hS hL
  exact lv_pop hC.1 hC.2.1 hd ((zq_ct_ev _ _).trans hv) (k p l e R s m args below meth c cells slots Qm H locs arr hok hC hX hP hS hL)
theorem gq_dup {ν : zq_E} {M : zq_M} {h : Nat} {Q : Option zq_V → zq_T → Prop} {pc : Nat} {ls : List (Option zq_V)} {st : List zq_V} {σ : zq_T} {v : zq_V} (hd : decode M.2.1 pc = .ok (.dup, 1)) (hv : zq_ct v = 1) (k : zq_G ν M h Q (pc + 1) ls (v :: v :: st) σ) : zq_G ν M h Q pc ls (v :: st) σ := by
  intro p l e R s m args below meth c cells slots Qm H locs arr hok hC hX hP hS hL
  exact lv_dup hC.1 hC.2.1 hd ((zq_ct_ev _ _).trans hv) (k p l e R s m args below meth c cells slots Qm H locs arr hok hC hX hP hS hL)
theorem gq_dup2 {ν : zq_E} {M : zq_M} {h : Nat} {Q : Option zq_V → zq_T → Prop} {pc : Nat} {ls : List (Option zq_V)} {st : List zq_V} {σ : zq_T} {v w : zq_V} (hd : decode M.2.1 pc = .ok (.dup2, 1)) (hv : zq_ct v = 1) (hw : zq_ct w = 1) (k : zq_G ν M h Q (pc + 1) ls (v :: w :: v :: w :: st) σ) : zq_G ν M h Q pc ls (v :: w :: st) σ := by
  intro p l e R s m args below meth c cells slots Qm H locs arr hok hC hX hP hS hL
  exact lv_dup2_11 hC.1 hC.2.1 hd ((zq_ct_ev _ _).trans hv) ((zq_ct_ev _ _).trans hw) (k p l e R s m args below meth c cells slots Qm H locs arr hok hC hX hP hS hL)
theorem gq_iload {ν : zq_E} {M : zq_M} {h : Nat} {Q : Option zq_V → zq_T → Prop} {pc : Nat} {ls : List (Option zq_V)} {st : List zq_V} {σ : zq_T} {i : Nat} {x : Int32} (hd : decode M.2.1 pc = .ok (.iload i, 2)) (hl : ls[i]? = some (some (zq_I x))) (k : zq_G ν M h Q (pc + 2) ls (zq_I x :: st) σ) : zq_G ν M h Q pc ls st σ := by
  intro p l e R s m args below meth c cells slots Qm H locs arr hok hC hX hP hS hL
  exact lv_iload hC.1 hC.2.1 hd (hL.2.2 _ _ hl) (k p l e R s m args below meth c cells slots Qm H locs arr hok hC hX hP hS hL)
theorem gq_iload_n {ν : zq_E} {M : zq_M} {h : Nat} {Q : Option zq_V → zq_T → Prop} {pc : Nat} {ls : List (Option zq_V)} {st : List zq_V} {σ : zq_T} {n : Fin 4} {x : Int32} (hd : decode M.2.1 pc = .ok (.iload_n n, 1)) (hl : ls[(n : Nat)]? = some (some (zq_I x))) (k : zq_G ν M h Q (pc + 1) ls (zq_I x :: st) σ) : zq_G ν M h Q pc ls st σ := by
  intro p l e R s m args below meth c cells slots Qm H locs arr hok hC hX hP hS hL
  exact lv_iload_n hC.1 hC.2.1 hd rfl (hL.2.2 _ _ hl) (k p l e R s m args below meth c cells slots Qm H locs arr hok hC hX hP hS hL)
theorem gq_lload {ν : zq_E} {M : zq_M} {h : Nat} {Q : Option zq_V → zq_T → Prop} {pc : Nat} {ls : List (Option zq_V)} {st : List zq_V} {σ : zq_T} {i : Nat} {x : Int64} (hd : decode M.2.1 pc = .ok (.lload i, 2)) (hl : ls[i]? = some (some (zq_L x))) (k : zq_G ν M h Q (pc + 2) ls (zq_L x :: st) σ) : zq_G ν M h Q pc ls st σ := by
  intro p l e R s m args below meth c cells slots Qm H locs arr hok hC hX hP hS hL
  exact lv_lload hC.1 hC.2.1 hd (hL.2.2 _ _ hl) (k p l e R s m args below meth c cells slots Qm H locs arr hok hC hX hP hS hL)
theorem gq_lload_n {ν : zq_E} {M : zq_M} {h : Nat} {Q : Option zq_V → zq_T → Prop} {pc : Nat} {ls : List (Option zq_V)} {st : List zq_V} {σ : zq_T} {n : Fin 4} {x : Int64} (hd : decode M.2.1 pc = .ok (.lload_n n, 1)) (hl : ls[(n : Nat)]? = some (some (zq_L x))) (k : zq_G ν M h Q (pc + 1) ls (zq_L x :: st) σ) : zq_G ν M h Q pc ls st σ := by
  intro p l e R s m args below meth c cells slots Qm H locs arr hok hC hX hP hS hL
  exact lv_lload_n hC.1 hC.2.1 hd rfl (hL.2.2 _ _ hl) (k p l e R s m args below meth c cells slots Qm H locs arr hok hC hX hP hS hL)
theorem gq_aload {ν : zq_E} {M : zq_M} {h : Nat} {Q : Option zq_V → zq_T → Prop} {pc : Nat} {ls : List (Option zq_V)} {st : List zq_V} {σ : zq_T} {i t : Nat} {j : Fin 5} (hd : decode M.2.1 pc = .ok (.aload i, 2)) (hl : ls[i]? = some (some (zq_O t j))) (k : zq_G ν M h Q (pc + 2) ls (zq_O t j :: st) σ) : zq_G ν M h Q pc ls st σ := by
  intro p l e R s m args below meth c cells slots Qm H locs arr hok hC hX hP hS hL
  exact lv_aload hC.1 hC.2.1 hd (hL.2.2 _ _ hl) (k p l e R s m args below meth c cells slots Qm H locs arr hok hC hX hP hS hL)
theorem gq_aload_n {ν : zq_E} {M : zq_M} {h : Nat} {Q : Option zq_V → zq_T → Prop} {pc : Nat} {ls : List (Option zq_V)} {st : List zq_V} {σ : zq_T} {n : Fin 4} {t : Nat} {j : Fin 5} (hd : decode M.2.1 pc = .ok (.aload_n n, 1)) (hl : ls[(n : Nat)]? = some (some (zq_O t j))) (k : zq_G ν M h Q (pc + 1) ls (zq_O t j :: st) σ) : zq_G ν M h Q pc ls st σ := by
  intro p l e R s m args below meth c cells slots Qm H locs arr hok hC hX hP hS hL
  exact lv_aload_n hC.1 hC.2.1 hd rfl (hL.2.2 _ _ hl) (k p l e R s m args below meth c cells slots Qm H locs arr hok hC hX hP hS hL)
theorem gq_istore {ν : zq_E} {M : zq_M} {h : Nat} {Q : Option zq_V → zq_T → Prop} {pc : Nat} {ls : List (Option zq_V)} {st : List zq_V} {σ : zq_T} {i : Nat} {x : Int32} (hd : decode M.2.1 pc = .ok (.istore i, 2)) (hi : i < M.2.2.1) (hnl : zq_nl ls i = true) (k : zq_G ν M h Q (pc + 2) (ls.set i (some (zq_I x))) st σ) : zq_G ν M h Q pc ls (zq_I x :: st) σ := by
  intro p l e R s m args below meth c cells slots Qm H locs arr hok hC hX hP hS hL
  exact lv_istore hC.1 hC.2.1 hd (zq_LH_has hL) hi rfl (fun arr hA => k p l e R s m args below meth c cells slots Qm H locs arr hok hC hX hP hS (zq_LH_of1 hnl hA))
theorem gq_istore_n {ν : zq_E} {M : zq_M} {h : Nat} {Q : Option zq_V → zq_T → Prop} {pc : Nat} {ls : List (Option zq_V)} {st : List zq_V} {σ : zq_T} {n : Fin 4} {x : Int32} (hd : decode M.2.1 pc = .ok (.istore_n n, 1)) (hi : (n : Nat) < M.2.2.1) (hnl : zq_nl ls (n : Nat) = true) (k : zq_G ν M h Q (pc + 1) (ls.set (n : Nat) (some (zq_I x))) st σ) : zq_G ν M h Q pc ls (zq_I x :: st) σ := by
  intro p l e R s m args below meth c cells slots Qm H locs arr hok hC hX hP hS hL
  exact lv_istore_n hC.1 hC.2.1 hd rfl (zq_LH_has hL) hi rfl (fun arr hA => k p l e R s m args below meth c cells slots Qm H locs arr hok hC hX hP hS (zq_LH_of1 hnl hA))
theorem gq_astore {ν : zq_E} {M : zq_M} {h : Nat} {Q : Option zq_V → zq_T → Prop} {pc : Nat} {ls : List (Option zq_V)} {st : List zq_V} {σ : zq_T} {i t : Nat} {j : Fin 5} (hd : decode M.2.1 pc = .ok (.astore i, 2)) (hi : i < M.2.2.1) (hnl : zq_nl ls i = true) (k : zq_G ν M h Q (pc + 2) (ls.set i (some (zq_O t j))) st σ) : zq_G ν M h Q pc ls (zq_O t j :: st) σ := by
  intro p l e R s m args below meth c cells slots Qm H locs arr hok hC hX hP hS hL
  exact lv_astore hC.1 hC.2.1 hd (zq_LH_has hL) hi rfl (fun arr hA => k p l e R s m args below meth c cells slots Qm H locs arr hok hC hX hP hS (zq_LH_of1 hnl hA))
theorem gq_astore_n {ν : zq_E} {M : zq_M} {h : Nat} {Q : Option zq_V → zq_T → Prop} {pc : Nat} {ls : List (Option zq_V)} {st : List zq_V} {σ : zq_T} {n : Fin 4} {t : Nat} {j : Fin 5} (hd : decode M.2.1 pc = .ok (.astore_n n, 1)) (hi : (n : Nat) < M.2.2.1) (hnl : zq_nl ls (n : Nat) = true) (k : zq_G ν M h Q (pc + 1) (ls.set (n : Nat) (some (zq_O t j))) st σ) : zq_G ν M h Q pc ls (zq_O t j :: st) σ := by
  intro p l e R s m args below meth c cells slots Qm H locs arr hok hC hX hP hS hL
  exact lv_astore_n hC.1 hC.2.1 hd rfl (zq_LH_has hL) hi rfl (fun arr hA => k p l e R s m args below meth c cells slots Qm H locs arr hok hC hX hP hS (zq_LH_of1 hnl hA))
theorem gq_lstore {ν : zq_E} {M : zq_M} {h : Nat} {Q : Option zq_V → zq_T → Prop} {pc : Nat} {ls : List (Option zq_V)} {st : List zq_V} {σ : zq_T} {i : Nat} {x : Int64} (hd : decode M.2.1 pc = .ok (.lstore i, 2)) (hi : i + 1 < M.2.2.1) (hnl : zq_nl ls i = true) (k : zq_G ν M h Q (pc + 2) ((ls.set i (some (zq_L x))).set (i + 1) none) st σ) : zq_G ν M h Q pc ls (zq_L x :: st) σ := by
  intro p l e R s m args below meth c cells slots Qm H locs arr hok hC hX hP hS hL
  exact lv_lstore hC.1 hC.2.1 hd (zq_LH_has hL) hi rfl (fun arr hA => k p l e R s m args below meth c cells slots Qm H locs arr hok hC hX hP hS (zq_LH_of2 hnl hA))
theorem gq_lstore_n {ν : zq_E} {M : zq_M} {h : Nat} {Q : Option zq_V → zq_T → Prop} {pc : Nat} {ls : List (Option zq_V)} {st : List zq_V} {σ : zq_T} {n : Fin 4} {x : Int64} (hd : decode M.2.1 pc = .ok (.lstore_n n, 1)) (hi : (n : Nat) + 1 < M.2.2.1) (hnl : zq_nl ls (n : Nat) = true) (k : zq_G ν M h Q (pc + 1) ((ls.set (n : Nat) (some (zq_L x))).set ((n : Nat) + 1) none) st σ) : zq_G ν M h Q pc ls (zq_L x :: st) σ := by
  intro p l e R s m args below meth c cells slots Qm H locs arr hok hC hX hP hS hL
  exact lv_lstore_n hC.1 hC.2.1 hd rfl (zq_LH_has hL) hi rfl (fun arr hA => k p l e R s m args below meth c cells slots Qm H locs arr hok hC hX hP hS (zq_LH_of2 hnl hA))
theorem gq_iinc {ν : zq_E} {M : zq_M} {h : Nat} {Q : Option zq_V → zq_T → Prop} {pc : Nat} {ls : List (Option zq_V)} {st : List zq_V} {σ : zq_T} {i : Nat} {n : Int} {x v : Int32} (hd : decode M.2.1 pc = .ok (.iinc i n, 3)) (hl : ls[i]? = some (some (zq_I x))) (hv : x + Int32.ofInt n = v) (hi : i < M.2.2.1) (hnl : zq_nl ls i = true) (k : zq_G ν M h Q (pc + 3) (ls.set i (some (zq_I v))) st σ) : zq_G ν M h Q pc ls st σ := by
  intro p l e R s m args below meth c cells slots Qm H locs arr hok hC hX hP hS hL
  obtain ⟨k0, hk0⟩ := List.getElem?_of_mem (zq_al_mem (ν := ν) hl)
  exact lv_iinc hC.1 hC.2.1 hd (zq_LH_has hL) hk0 hv hi rfl (fun arr hA => k p l e R s m args below meth c cells slots Qm H locs arr hok hC hX hP hS (zq_LH_of1 (v := zq_I v) hnl hA))
theorem gq_if_eq {ν : zq_E} {M : zq_M} {h : Nat} {Q : Option zq_V → zq_T → Prop} {pc : Nat} {ls : List (Option zq_V)} {st : List zq_V} {σ : zq_T} {x : Int32} {off : Int} {tgt : Nat} (hd : decode M.2.1 pc = .ok (.ifCond .eq off, 3)) (ht : (pc : Int) + off = (tgt : Int)) (kt : x = 0 → zq_G ν M h Q tgt ls st σ) (kf : ¬ x = 0 → zq_G ν M h Q (pc + 3) ls st σ) : zq_G ν M h Q pc ls (zq_I x :: st) σ := by
  intro p l e R s m args below meth c cells slots Qm H locs arr hok hC hX hP hS hL
  exact lv_if_eq hC.1 hC.2.1 hd ht (fun q => kt q p l e R s m args below meth c cells slots Qm H locs arr hok hC hX hP hS hL) (fun q => kf q p l e R s m args below meth c cells slots Qm H locs arr hok hC hX hP hS hL)
theorem gq_if_ne {ν : zq_E} {M : zq_M} {h : Nat} {Q : Option zq_V → zq_T → Prop} {pc : Nat} {ls : List (Option zq_V)} {st : List zq_V} {σ : zq_T} {x : Int32} {off : Int} {tgt : Nat} (hd : decode M.2.1 pc = .ok (.ifCond .ne off, 3)) (ht : (pc : Int) + off = (tgt : Int)) (kt : ¬ x = 0 → zq_G ν M h Q tgt ls st σ) (kf : x = 0 → zq_G ν M h Q (pc + 3) ls st σ) : zq_G ν M h Q pc ls (zq_I x :: st) σ := by
  intro p l e R s m args below meth c cells slots Qm H locs arr hok hC hX hP hS hL
  exact lv_if_ne hC.1 hC.2.1 hd ht (fun q => kt q p l e R s m args below meth c cells slots Qm H locs arr hok hC hX hP hS hL) (fun q => kf q p l e R s m args below meth c cells slots Qm H locs arr hok hC hX hP hS hL)
theorem gq_if_lt {ν : zq_E} {M : zq_M} {h : Nat} {Q : Option zq_V → zq_T → Prop} {pc : Nat} {ls : List (Option zq_V)} {st : List zq_V} {σ : zq_T} {x : Int32} {off : Int} {tgt : Nat} (hd : decode M.2.1 pc = .ok (.ifCond .lt off, 3)) (ht : (pc : Int) + off = (tgt : Int)) (kt : x < 0 → zq_G ν M h Q tgt ls st σ) (kf : ¬ x < 0 → zq_G ν M h Q (pc + 3) ls st σ) : zq_G ν M h Q pc ls (zq_I x :: st) σ := by
  intro p l e R s m args below meth c cells slots Qm H locs arr hok hC hX hP hS hL
  exact lv_if_lt hC.1 hC.2.1 hd ht (fun q => kt q p l e R s m args below meth c cells slots Qm H locs arr hok hC hX hP hS hL) (fun q => kf q p l e R s m args below meth c cells slots Qm H locs arr hok hC hX hP hS hL)
theorem gq_if_ge {ν : zq_E} {M : zq_M} {h : Nat} {Q : Option zq_V → zq_T → Prop} {pc : Nat} {ls : List (Option zq_V)} {st : List zq_V} {σ : zq_T} {x : Int32} {off : Int} {tgt : Nat} (hd : decode M.2.1 pc = .ok (.ifCond .ge off, 3)) (ht : (pc : Int) + off = (tgt : Int)) (kt : 0 ≤ x → zq_G ν M h Q tgt ls st σ) (kf : ¬ 0 ≤ x → zq_G ν M h Q (pc + 3) ls st σ) : zq_G ν M h Q pc ls (zq_I x :: st) σ := by
  intro p l e R s m args below meth c cells slots Qm H locs arr hok hC hX hP hS hL
  exact lv_if_ge hC.1 hC.2.1 hd ht (fun q => kt q p l e R s m args below meth c cells slots Qm H locs arr hok hC hX hP hS hL) (fun q => kf q p l e R s m args below meth c cells slots Qm H locs arr hok hC hX hP hS hL)
theorem gq_if_gt {ν : zq_E} {M : zq_M} {h : Nat} {Q : Option zq_V → zq_T → Prop} {pc : Nat} {ls : List (Option zq_V)} {st : List zq_V} {σ : zq_T} {x : Int32} {off : Int} {tgt : Nat} (hd : decode M.2.1 pc = .ok (.ifCond .gt off, 3)) (ht : (pc : Int) + off = (tgt : Int)) (kt : 0 < x → zq_G ν M h Q tgt ls st σ) (kf : ¬ 0 < x → zq_G ν M h Q (pc + 3) ls st σ) : zq_G ν M h Q pc ls (zq_I x :: st) σ := by
  intro p l e R s m args below meth c cells slots Qm H locs arr hok hC hX hP hS hL
  exact lv_if_gt hC.1 hC.2.1 hd ht (fun q => kt q p l e R s m args below meth c cells slots Qm H locs arr hok hC hX hP hS hL) (fun q => kf q p l e R s m args below meth c cells slots Qm H locs arr hok hC hX hP hS hL)
theorem gq_if_le {ν : zq_E} {M : zq_M} {h : Nat} {Q : Option zq_V → zq_T → Prop} {pc : Nat} {ls : List (Option zq_V)} {st : List zq_V} {σ : zq_T} {x : Int32} {off : Int} {tgt : Nat} (hd : decode M.2.1 pc = .ok (.ifCond .le off, 3)) (ht : (pc : Int) + off = (tgt : Int)) (kt : x ≤ 0 → zq_G ν M h Q tgt ls st σ) (kf : ¬ x ≤ 0 → zq_G ν M h Q (pc + 3) ls st σ) : zq_G ν M h Q pc ls (zq_I x :: st) σ := by
  intro p l e R s m args below meth c cells slots Qm H locs arr hok hC hX hP hS hL
  exact lv_if_le hC.1 hC.2.1 hd ht (fun q => kt q p l e R s m args below meth c cells slots Qm H locs arr hok hC hX hP hS hL) (fun q => kf q p l e R s m args below meth c cells slots Qm H locs arr hok hC hX hP hS hL)
theorem gq_icmp_eq {ν : zq_E} {M : zq_M} {h : Nat} {Q : Option zq_V → zq_T → Prop} {pc : Nat} {ls : List (Option zq_V)} {st : List zq_V} {σ : zq_T} {x y : Int32} {off : Int} {tgt : Nat} (hd : decode M.2.1 pc = .ok (.if_icmp .eq off, 3)) (ht : (pc : Int) + off = (tgt : Int)) (kt : x = y → zq_G ν M h Q tgt ls st σ) (kf : ¬ x = y → zq_G ν M h Q (pc + 3) ls st σ) : zq_G ν M h Q pc ls (zq_I y :: zq_I x :: st) σ := by
  intro p l e R s m args below meth c cells slots Qm H locs arr hok hC hX hP hS hL
  exact lv_icmp_eq hC.1 hC.2.1 hd ht (fun q => kt q p l e R s m args below meth c cells slots Qm H locs arr hok hC hX hP hS hL) (fun q => kf q p l e R s m args below meth c cells slots Qm H locs arr hok hC hX hP hS hL)
theorem gq_icmp_ne {ν : zq_E} {M : zq_M} {h : Nat} {Q : Option zq_V → zq_T → Prop} {pc : Nat} {ls : List (Option zq_V)} {st : List zq_V} {σ : zq_T} {x y : Int32} {off : Int} {tgt : Nat} (hd : decode M.2.1 pc = .ok (.if_icmp .ne off, 3)) (ht : (pc : Int) + off = (tgt : Int)) (kt : ¬ x = y → zq_G ν M h Q tgt ls st σ) (kf : x = y → zq_G ν M h Q (pc + 3) ls st σ) : zq_G ν M h Q pc ls (zq_I y :: zq_I x :: st) σ := by
  intro p l e R s m args below meth c cells slots Qm H locs arr hok hC hX hP hS hL
  exact lv_icmp_ne hC.1 hC.2.1 hd ht (fun q => kt q p l e R s m args below meth c cells slots Qm H locs arr hok hC hX hP hS hL) (fun q => kf q p l e R s m args below meth c cells slots Qm H locs arr hok hC hX hP hS hL)
theorem gq_icmp_lt {ν : zq_E} {M : zq_M} {h : Nat} {Q : Option zq_V → zq_T → Prop} {pc : Nat} {ls : List (Option zq_V)} {st : List zq_V} {σ : zq_T} {x y : Int32} {off : Int} {tgt : Nat} (hd : decode M.2.1 pc = .ok (.if_icmp .lt off, 3)) (ht : (pc : Int) + off = (tgt : Int)) (kt : x < y → zq_G ν M h Q tgt ls st σ) (kf : ¬ x < y → zq_G ν M h Q (pc + 3) ls st σ) : zq_G ν M h Q pc ls (zq_I y :: zq_I x :: st) σ := by
  intro p l e R s m args below meth c cells slots Qm H locs arr hok hC hX hP hS hL
  exact lv_icmp_lt hC.1 hC.2.1 hd ht (fun q => kt q p l e R s m args below meth c cells slots Qm H locs arr hok hC hX hP hS hL) (fun q => kf q p l e R s m args below meth c cells slots Qm H locs arr hok hC hX hP hS hL)
theorem gq_icmp_ge {ν : zq_E} {M : zq_M} {h : Nat} {Q : Option zq_V → zq_T → Prop} {pc : Nat} {ls : List (Option zq_V)} {st : List zq_V} {σ : zq_T} {x y : Int32} {off : Int} {tgt : Nat} (hd : decode M.2.1 pc = .ok (.if_icmp .ge off, 3)) (ht : (pc : Int) + off = (tgt : Int)) (kt : y ≤ x → zq_G ν M h Q tgt ls st σ) (kf : ¬ y ≤ x → zq_G ν M h Q (pc + 3) ls st σ) : zq_G ν M h Q pc ls (zq_I y :: zq_I x :: st) σ := by
  intro p l e R s m args below meth c cells slots Qm H locs arr hok hC hX hP hS hL
  exact lv_icmp_ge hC.1 hC.2.1 hd ht (fun q => kt q p l e R s m args below meth c cells slots Qm H locs arr hok hC hX hP hS hL) (fun q => kf q p l e R s m args below meth c cells slots Qm H locs arr hok hC hX hP hS hL)
theorem gq_icmp_gt {ν : zq_E} {M : zq_M} {h : Nat} {Q : Option zq_V → zq_T → Prop} {pc : Nat} {ls : List (Option zq_V)} {st : List zq_V} {σ : zq_T} {x y : Int32} {off : Int} {tgt : Nat} (hd : decode M.2.1 pc = .ok (.if_icmp .gt off, 3)) (ht : (pc : Int) + off = (tgt : Int)) (kt : y < x → zq_G ν M h Q tgt ls st σ) (kf : ¬ y < x → zq_G ν M h Q (pc + 3) ls st σ) : zq_G ν M h Q pc ls (zq_I y :: zq_I x :: st) σ := by
  intro p l e R s m args below meth c cells slots Qm H locs arr hok hC hX hP hS hL
  exact lv_icmp_gt hC.1 hC.2.1 hd ht (fun q => kt q p l e R s m args below meth c cells slots Qm H locs arr hok hC hX hP hS hL) (fun q => kf q p l e R s m args below meth c cells slots Qm H locs arr hok hC hX hP hS hL)
theorem gq_icmp_le {ν : zq_E} {M : zq_M} {h : Nat} {Q : Option zq_V → zq_T → Prop} {pc : Nat} {ls : List (Option zq_V)} {st : List zq_V} {σ : zq_T} {x y : Int32} {off : Int} {tgt : Nat} (hd : decode M.2.1 pc = .ok (.if_icmp .le off, 3)) (ht : (pc : Int) + off = (tgt : Int)) (kt : x ≤ y → zq_G ν M h Q tgt ls st σ) (kf : ¬ x ≤ y → zq_G ν M h Q (pc + 3) ls st σ) : zq_G ν M h Q pc ls (zq_I y :: zq_I x :: st) σ := by
  intro p l e R s m args below meth c cells slots Qm H locs arr hok hC hX hP hS hL
  exact lv_icmp_le hC.1 hC.2.1 hd ht (fun q => kt q p l e R s m args below meth c cells slots Qm H locs arr hok hC hX hP hS hL) (fun q => kf q p l e R s m args below meth c cells slots Qm H locs arr hok hC hX hP hS hL)
theorem gq_goto {ν : zq_E} {M : zq_M} {h : Nat} {Q : Option zq_V → zq_T → Prop} {pc : Nat} {ls : List (Option zq_V)} {st : List zq_V} {σ : zq_T} {off : Int} {tgt : Nat} (hd : decode M.2.1 pc = .ok (.goto off, 3)) (ht : (pc : Int) + off = (tgt : Int)) (k : zq_G ν M h Q tgt ls st σ) : zq_G ν M h Q pc ls st σ := by
  intro p l e R s m args below meth c cells slots Qm H locs arr hok hC hX hP hS hL
  exact lv_goto hC.1 hC.2.1 hd ht (k p l e R s m args below meth c cells slots Qm H locs arr hok hC hX hP hS hL)
theorem gq_ifnonnull {ν : zq_E} {M : zq_M} {h : Nat} {Q : Option zq_V → zq_T → Prop} {pc : Nat} {ls : List (Option zq_V)} {st : List zq_V} {σ : zq_T} {t : Nat} {j : Fin 5} {off : Int} {tgt : Nat} (hd : decode M.2.1 pc = .ok (.ifnonnull off, 3)) (ht : (pc : Int) + off = (tgt : Int)) (k : zq_G ν M h Q tgt ls st σ) : zq_G ν M h Q pc ls (zq_O t j :: st) σ := by
  intro p l e R s m args below meth c cells slots Qm H locs arr hok hC hX hP hS hL
  exact lv_ifnonnull hC.1 hC.2.1 hd ht (k p l e R s m args below meth c cells slots Qm H locs arr hok hC hX hP hS hL)
theorem gq_ifnull {ν : zq_E} {M : zq_M} {h : Nat} {Q : Option zq_V → zq_T → Prop} {pc : Nat} {ls : List (Option zq_V)} {st : List zq_V} {σ : zq_T} {t : Nat} {j : Fin 5} {off : Int} (hd : decode M.2.1 pc = .ok (.ifnull off, 3)) (k : zq_G ν M h Q (pc + 3) ls st σ) : zq_G ν M h Q pc ls (zq_O t j :: st) σ := by
  intro p l e R s m args below meth c cells slots Qm H locs arr hok hC hX hP hS hL
  exact lv_ifnull hC.1 hC.2.1 hd (k p l e R s m args below meth c cells slots Qm H locs arr hok hC hX hP hS hL)
theorem gq_tin {ν : zq_E} {M : zq_M} {h : Nat} {Q : Option zq_V → zq_T → Prop} {pc : Nat} {ls : List (Option zq_V)} {st : List zq_V} {σ : zq_T} {dflt lo hi : Int} {offs : Array Int} {len : Nat} {x : Int32} {off : Int} {tgt : Nat} (hd : decode M.2.1 pc = .ok (.tableswitch dflt lo hi offs, len)) (h1 : ¬ x.toInt < lo) (h2 : ¬ hi < x.toInt) (ho : offs[(x.toInt - lo).toNat]? = some off) (ht : (pc : Int) + off = (tgt : Int)) (k : zq_G ν M h Q tgt ls st σ) : zq_G ν M h Q pc ls (zq_I x :: st) σ := by
  intro p l e R s m args below meth c cells slots Qm H locs arr hok hC hX hP hS hL
  exact lv_tableIn hC.1 hC.2.1 hd h1 h2 ho ht (k p l e R s m args below meth c cells slots Qm H locs arr hok hC hX hP hS hL)
theorem gq_tout {ν : zq_E} {M : zq_M} {h : Nat} {Q : Option zq_V → zq_T → Prop} {pc : Nat} {ls : List (Option zq_V)} {st : List zq_V} {σ : zq_T} {dflt lo hi : Int} {offs : Array Int} {len : Nat} {x : Int32} {tgt : Nat} (hd : decode M.2.1 pc = .ok (.tableswitch dflt lo hi offs, len)) (h1 : x.toInt < lo ∨ hi < x.toInt) (ht : (pc : Int) + dflt = (tgt : Int)) (k : zq_G ν M h Q tgt ls st σ) : zq_G ν M h Q pc ls (zq_I x :: st) σ := by
  intro p l e R s m args below meth c cells slots Qm H locs arr hok hC hX hP hS hL
  exact lv_tableOut hC.1 hC.2.1 hd h1 ht (k p l e R s m args below meth c cells slots Qm H locs arr hok hC hX hP hS hL)
theorem gq_lsw {ν : zq_E} {M : zq_M} {h : Nat} {Q : Option zq_V → zq_T → Prop} {pc : Nat} {ls : List (Option zq_V)} {st : List zq_V} {σ : zq_T} {dflt : Int} {ps : Array (Int × Int)} {len : Nat} {x : Int32} {off : Int} {tgt : Nat} (hd : decode M.2.1 pc = .ok (.lookupswitch dflt ps, len)) (hp : (ps.toList.zip (ps.toList.drop 1)).all (fun (a, next) => a.1 < next.1) = true) (ho : Op.lookupswitch.offset ps.toList dflt x.toInt = off) (ht : (pc : Int) + off = (tgt : Int)) (k : zq_G ν M h Q tgt ls st σ) : zq_G ν M h Q pc ls (zq_I x :: st) σ := by
  intro p l e R s m args below meth c cells slots Qm H locs arr hok hC hX hP hS hL
  exact lv_lookup hC.1 hC.2.1 hd hp ho ht (k p l e R s m args below meth c cells slots Qm H locs arr hok hC hX hP hS hL)
theorem gq_ldc {ν : zq_E} {M : zq_M} {h : Nat} {Q : Option zq_V → zq_T → Prop} {pc : Nat} {ls : List (Option zq_V)} {st : List zq_V} {σ : zq_T} {idx : Nat} {v : Int32} (hw : Cond.constant M.1.cls idx v ∈ zq_tbl) (hd : decode M.2.1 pc = .ok (.ldc idx, 2)) (k : zq_G ν M h Q (pc + 2) ls (zq_I v :: st) σ) : zq_G ν M h Q pc ls st σ := by
  intro p l e R s m args below meth c cells slots Qm H locs arr hok hC hX hP hS hL
  exact lv_ldc hC.1 hC.2.1 hC.2.2.2.1 (hC.2.2.2.2.1 _ hw) hd (k p l e R s m args below meth c cells slots Qm H locs arr hok hC hX hP hS hL)
theorem gq_ldcw {ν : zq_E} {M : zq_M} {h : Nat} {Q : Option zq_V → zq_T → Prop} {pc : Nat} {ls : List (Option zq_V)} {st : List zq_V} {σ : zq_T} {idx : Nat} {v : Int32} (hw : Cond.constant M.1.cls idx v ∈ zq_tbl) (hd : decode M.2.1 pc = .ok (.ldc_w idx, 3)) (k : zq_G ν M h Q (pc + 3) ls (zq_I v :: st) σ) : zq_G ν M h Q pc ls st σ := by
  intro p l e R s m args below meth c cells slots Qm H locs arr hok hC hX hP hS hL
  exact lv_ldcw hC.1 hC.2.1 hC.2.2.2.1 (hC.2.2.2.2.1 _ hw) hd (k p l e R s m args below meth c cells slots Qm H locs arr hok hC hX hP hS hL)
theorem gq_ldc2 {ν : zq_E} {M : zq_M} {h : Nat} {Q : Option zq_V → zq_T → Prop} {pc : Nat} {ls : List (Option zq_V)} {st : List zq_V} {σ : zq_T} {idx : Nat} {v : Int64} (hw : Cond.constantLong M.1.cls idx v ∈ zq_tbl) (hd : decode M.2.1 pc = .ok (.ldc2_w idx, 3)) (k : zq_G ν M h Q (pc + 3) ls (zq_L v :: st) σ) : zq_G ν M h Q pc ls st σ := by
  intro p l e R s m args below meth c cells slots Qm H locs arr hok hC hX hP hS hL
  exact lv_ldc2 hC.1 hC.2.1 hC.2.2.2.1 (hC.2.2.2.2.1 _ hw) hd (k p l e R s m args below meth c cells slots Qm H locs arr hok hC hX hP hS hL)
theorem gq_ldcS {ν : zq_E} {M : zq_M} {h : Nat} {Q : Option zq_V → zq_T → Prop} {pc : Nat} {ls : List (Option zq_V)} {st : List zq_V} {σ : zq_T} {idx i : Nat} {tx : String} (hw : zq_str[i]? = some (idx, tx)) (hown : M.1.cls = "ThirdSon$Teller") (hd : decode M.2.1 pc = .ok (.ldc idx, 2)) (k : zq_G ν M h Q (pc + 2) ls (zq_O (100 + i) 0 :: st) σ) : zq_G ν M h Q pc ls st σ := by
  intro p l e R s m args below meth c cells slots Qm H locs arr hok hC hX hP hS hL
  exact va_ldcS hC.1 hC.2.1 (own := "ThirdSon$Teller") (by rw [← hown]; exact hC.2.2.2.1) (hC.2.2.2.2.2.2.1.2.2.2.1 i _ hw) hd (k p l e R s m args below meth c cells slots Qm H locs arr hok hC hX hP hS hL)
theorem gq_ireturn {ν : zq_E} {M : zq_M} {h : Nat} {Q : Option zq_V → zq_T → Prop} {pc : Nat} {ls : List (Option zq_V)} {st : List zq_V} {σ : zq_T} {x : Int32} (ty : FieldType) (hd : decode M.2.1 pc = .ok (.ireturn, 1)) (hr : M.2.2.2 = some ty) (hn : narrow ty (.int x) = .int x) (hq : Q (some (zq_I x)) σ) : zq_G ν M h Q pc ls [zq_I x] σ := by
  intro p l e R s m args below meth c cells slots Qm H locs arr hok hC hX hP hS hL
  exact hX (some (zq_I x)) σ .ireturn H locs pc arr (Or.inr (Or.inl ⟨ty, x, hr, rfl, rfl, hn⟩)) hd hq hP hS
theorem gq_lreturn {ν : zq_E} {M : zq_M} {h : Nat} {Q : Option zq_V → zq_T → Prop} {pc : Nat} {ls : List (Option zq_V)} {st : List zq_V} {σ : zq_T} {x : Int64} (hd : decode M.2.1 pc = .ok (.lreturn, 1)) (hr : M.2.2.2 = some .long) (hq : Q (some (zq_L x)) σ) : zq_G ν M h Q pc ls [zq_L x] σ := by
  intro p l e R s m args below meth c cells slots Qm H locs arr hok hC hX hP hS hL
  exact hX (some (zq_L x)) σ .lreturn H locs pc arr (Or.inr (Or.inr (Or.inl ⟨x, hr, rfl, rfl⟩))) hd hq hP hS
theorem gq_areturn {ν : zq_E} {M : zq_M} {h : Nat} {Q : Option zq_V → zq_T → Prop} {pc : Nat} {ls : List (Option zq_V)} {st : List zq_V} {σ : zq_T} {t : Nat} {j : Fin 5} {C : String} (hd : decode M.2.1 pc = .ok (.areturn, 1)) (hr : M.2.2.2 = some (.object C)) (hq : Q (some (zq_O t j)) σ) : zq_G ν M h Q pc ls [zq_O t j] σ := by
  intro p l e R s m args below meth c cells slots Qm H locs arr hok hC hX hP hS hL
  exact hX (some (zq_O t j)) σ .areturn H locs pc arr (Or.inr (Or.inr (Or.inr ⟨C, (t, j), hr, rfl, rfl⟩))) hd hq hP hS
theorem gq_return {ν : zq_E} {M : zq_M} {h : Nat} {Q : Option zq_V → zq_T → Prop} {pc : Nat} {ls : List (Option zq_V)} {st : List zq_V} {σ : zq_T} (hd : decode M.2.1 pc = .ok (.return_, 1)) (hr : M.2.2.2 = none) (hq : Q none σ) : zq_G ν M h Q pc ls [] σ := by
  intro p l e R s m args below meth c cells slots Qm H locs arr hok hC hX hP hS hL
  exact hX none σ .return_ H locs pc arr (Or.inl ⟨hr, rfl, rfl⟩) hd hq hP hS
/-! fields -/
def zq_F (own : String) (idx t k : Nat) : Prop := ∃ (ci N : Nat) (C : String) (T : u_T), zq_kd t = (0, ci, N) ∧ zq_cl[ci]? = some (C, T, N) ∧ (∀ w ∈ u_ws C T N, w ∈ zq_tbl) ∧ k < N ∧ Cond.fieldLink own idx (T k).1 (T k).2.1 (T k).2.2.1 ∈ zq_tbl
def zq_W (own : String) (idx t k : Nat) (ty : FieldType) : Prop := ∃ (ci N : Nat) (C : String) (T : u_T) (ty0 : Nat → FieldType), zq_kd t = (0, ci, N) ∧ zq_cl[ci]? = some (C, T, N) ∧ (∀ w ∈ u_ws C T N, w ∈ zq_tbl) ∧ k < N ∧ Cond.fieldLink own idx (T k).1 (T k).2.1 (T k).2.2.1 ∈ zq_tbl ∧ (∀ k, k < N → parseFieldDescriptor (T k).2.2.1 = some (ty0 k)) ∧ (∀ a, a < N → ∀ b, b < N → a ≠ b → (T a).2.1 ≠ (T b).2.1) ∧ (T k).2.2.2 = false ∧ parseFieldDescriptor (T k).2.2.1 = some ty
theorem zq_el_obj {ν : zq_E} {σ : zq_T} {t ci N : Nat} {j : Fin 5} (h : zq_kd t = (0, ci, N)) : zq_el ν σ t j = .inr (ci, (List.range N).map (fun k => zq_ev ν (zq_fv σ t j k))) := by
  unfold zq_el
  rw [h]
  rfl
theorem zq_el_ints {ν : zq_E} {σ : zq_T} {t n : Nat} {j : Fin 5} (h : zq_kd t = (1, n, 0)) : zq_el ν σ t j = .inl (ν.2.2.1 1, n, .inl (σ.1 t j)) := by
  unfold zq_el
  rw [h]
  rfl
theorem zq_el_bytes {ν : zq_E} {σ : zq_T} {t n : Nat} {j : Fin 5} (h : zq_kd t = (2, n, 0)) : zq_el ν σ t j = .inl (ν.2.2.1 2, n, .inl (σ.1 t j)) := by
  unfold zq_el
  rw [h]
  rfl
theorem zq_el_bools {ν : zq_E} {σ : zq_T} {t n : Nat} {j : Fin 5} (h : zq_kd t = (4, n, 0)) : zq_el ν σ t j = .inl (ν.2.2.1 4, n, .inl (σ.1 t j)) := by
  unfold zq_el
  rw [h]
  rfl
theorem zq_el_longs {ν : zq_E} {σ : zq_T} {t n : Nat} {j : Fin 5} (h : zq_kd t = (3, n, 0)) : zq_el ν σ t j = .inl (ν.2.2.1 3, n, .inr (.inl σ.2.1)) := by
  unfold zq_el
  rw [h]
  rfl
theorem zq_el_refs {ν : zq_E} {σ : zq_T} {t n : Nat} {j : Fin 5} (h : zq_kd t = (5, n, 0)) : zq_el ν σ t j = .inl (ν.2.2.1 5, n, .inr (.inr (.inr (.inr (zq_rows ν))))) := by
  unfold zq_el
  rw [h]
  rfl
theorem zq_el_up {ν : zq_E} {σ : zq_T} {t t' : Nat} {j j' : Fin 5} {k : Nat} {x : Int32} (h : (t', j') ≠ (t, j)) : zq_el ν σ t' j' = zq_el ν (zq_up σ.1 t j k x, σ.2) t' j' := by
  have e : ∀ i, zq_up σ.1 t j k x t' j' i = σ.1 t' j' i := fun i => if_neg fun q => h (by rw [q.1, q.2.1])
  have e2 : zq_up σ.1 t j k x t' j' = σ.1 t' j' := funext e
  have e3 : ∀ i, zq_fv (zq_up σ.1 t j k x, σ.2) t' j' i = zq_fv σ t' j' i := fun i => by
    simp only [zq_fv, e]
  simp only [zq_el, e2, e3]
section FLD
variable {ν : zq_E} {M : zq_M} {h : Nat} {Q : Option zq_V → zq_T → Prop} {pc : Nat} {ls : List (Option zq_V)} {st : List zq_V} {σ : zq_T}
theorem gq_getG {idx t k : Nat} {j : Fin 5} {v : zq_V} (hF : zq_F M.1.cls idx t k) (hf : zq_fv σ t j k = v) (hv : zq_vd t j = true) (hd : decode M.2.1 pc = .ok (.getfield idx, 3)) (kk : zq_G ν M h Q (pc + 3) ls (v :: st) σ) : zq_G ν M h Q pc ls (zq_O t j :: st) σ := by
  intro p l e R s m args below meth c cells slots Qm H locs arr hok hC hX hP hS hL
  obtain ⟨ci, N, C, T, h1, h2, h3, h4, h5⟩ := hF
  obtain ⟨q0, hq, hw⟩ := zq_at hv
  have he : (zq_ws ν σ)[q0]? = some (ν.1 t j, .inr (ci, (List.range N).map (fun k => zq_ev ν (zq_fv σ t j k)))) := by rw [hw, zq_el_obj h1]
  exact va_get (D := ν.2.1) (v := zq_ev ν v) hC.1 hC.2.1 hC.2.2.2.2.1 h3 hC.2.2.2.1 hC.2.2.2.2.2.1 hP q0 he h2 k h4 (hC.2.2.2.2.1 _ h5) (fun _ h9 => h9) (by simp [h4, hf]) hd (kk p l e R s m args below meth c cells slots Qm H locs arr hok hC hX hP hS hL)
/-- an int field -/
theorem gq_getI {idx t k : Nat} {j : Fin 5} (hF : zq_F M.1.cls idx t k) (hf : zq_ff t k = (0, 0)) (hv : zq_vd t j = true) (hd : decode M.2.1 pc = .ok (.getfield idx, 3)) (kk : zq_G ν M h Q (pc + 3) ls (zq_I (σ.1 t j k) :: st) σ) : zq_G ν M h Q pc ls (zq_O t j :: st) σ := gq_getG hF (by simp only [zq_fv, hf]) hv hd kk
/-- a place beside it -/
theorem gq_getR {idx t k : Nat} {j : Fin 5} (t' : Nat) (hF : zq_F M.1.cls idx t k) (hf : zq_ff t k = (1, t')) (hv : zq_vd t j = true) (hd : decode M.2.1 pc = .ok (.getfield idx, 3)) (kk : zq_G ν M h Q (pc + 3) ls (zq_O t' j :: st) σ) : zq_G ν M h Q pc ls (zq_O t j :: st) σ := gq_getG hF (by simp only [zq_fv, hf]) hv hd kk
/-- a duchy that is always the same -/
theorem gq_getX {idx t k : Nat} {j : Fin 5} (a : Nat) (j' : Fin 5) (hF : zq_F M.1.cls idx t k) (hf : zq_ff t k = (2, a)) (hj : zq_fin a = j') (hv : zq_vd t j = true) (hd : decode M.2.1 pc = .ok (.getfield idx, 3)) (kk : zq_G ν M h Q (pc + 3) ls (zq_O 10 j' :: st) σ) : zq_G ν M h Q pc ls (zq_O t j :: st) σ := gq_getG hF (by simp only [zq_fv, hf, hj]) hv hd kk
/-- 'duchy' -/
theorem gq_getU {idx t k : Nat} {j : Fin 5} (hF : zq_F M.1.cls idx t k) (hf : zq_ff t k = (3, 0)) (hv : zq_vd t j = true) (hd : decode M.2.1 pc = .ok (.getfield idx, 3)) (kk : zq_G ν M h Q (pc + 3) ls (zq_O 10 σ.2.2.1 :: st) σ) : zq_G ν M h Q pc ls (zq_O t j :: st) σ := gq_getG hF (by simp only [zq_fv, hf]) hv hd kk
/-- 'draft' -/
theorem gq_getY {idx t k : Nat} {j : Fin 5} (hF : zq_F M.1.cls idx t k) (hf : zq_ff t k = (4, 0)) (hv : zq_vd t j = true) (hd : decode M.2.1 pc = .ok (.getfield idx, 3)) (kk : zq_G ν M h Q (pc + 3) ls (zq_O 10 σ.2.2.2 :: st) σ) : zq_G ν M h Q pc ls (zq_O t j :: st) σ := gq_getG hF (by simp only [zq_fv, hf]) hv hd kk
theorem gq_putG {idx t k : Nat} {j : Fin 5} {v : zq_V} {ty : FieldType} {σ' : zq_T} (hF : zq_W M.1.cls idx t k ty) (hn : ∀ ν, narrow ty (zq_ev ν v) = zq_ev ν v) (hfit : ∀ ν, fits ty (zq_ev ν v) = true) (hsame : ∀ i, i ≠ k → zq_fv σ t j i = zq_fv σ' t j i) (hnew : zq_fv σ' t j k = v) (ho : ∀ t' j', (t', j') ∈ zq_cs → (t', j') ≠ (t, j) → zq_el ν σ t' j' = zq_el ν σ' t' j') (hv : zq_vd t j = true) (hd : decode M.2.1 pc = .ok (.putfield idx, 3)) (kk : zq_G ν M h Q (pc + 3) ls st σ') : zq_G ν M h Q pc ls (v :: zq_O t j :: st) σ := by
  intro p l e R s m args below meth c cells slots Qm H locs arr hok hC hX hP hS hL
  obtain ⟨ci, N, C, T, ty0, h1, h2, h3, h4, h5, h6, h7, h8, h9⟩ := hF
  obtain ⟨q0, hq, hw⟩ := zq_at hv
  have he : (zq_ws ν σ)[q0]? = some (ν.1 t j, .inr (ci, (List.range N).map (fun k => zq_ev ν (zq_fv σ t j k)))) := by rw [hw, zq_el_obj h1]
  have hset : (zq_ws ν σ).set q0 (ν.1 t j, .inr (ci, ((List.range N).map (fun k => zq_ev ν (zq_fv σ t j k))).set k (zq_ev ν v))) = zq_ws ν σ' := by
    refine zq_set hq ?_ ho
    rw [zq_el_obj h1]
    congr 2
    refine List.ext_getElem? fun i => ?_
    rw [List.getElem?_set]
    by_cases e1 : k = i
    · subst e1
      simp [h4, hnew]
    · rw [if_neg e1]
      simp only [List.getElem?_map]
      rw [show (fun a => zq_ev ν (zq_fv σ t j a)) = fun a => zq_ev ν (zq_fv σ t j a) from rfl]
      rcases Nat.lt_or_ge i N with q | q
      · simp [q, hsame i (fun e => e1 e.symm)]
      · simp [Nat.not_lt.mpr q]
  refine va_put (D := ν.2.1) (v := zq_ev ν v) (ty := ty) hC.1 hC.2.1 hC.2.2.2.2.1 h3 ty0 h6 h7 hC.2.2.2.1 hC.2.2.2.2.2.1 hP (zq_D hok σ) hS q0 he h2 k h4 (hC.2.2.2.2.1 _ h5) (fun _ h9 => h9) h8 h9 (hn ν) (hfit ν) (by simp [h4]) hd (fun H1 locs1 hP1 hD1 hS1 => ?_)
  rw [hset] at hP1
  exact kk p l e R s m args below meth c cells slots Qm H1 locs1 arr hok hC hX hP1 hS1 hL
theorem zq_fv_up {t t' : Nat} {j j' : Fin 5} {k i : Nat} {x : Int32} (h : i ≠ k) : zq_fv σ t' j' i = zq_fv (zq_up σ.1 t j k x, σ.2) t' j' i := by
  have e : zq_up σ.1 t j k x t' j' i = σ.1 t' j' i := if_neg fun q => h q.2.2
  simp only [zq_fv, e]
theorem zq_up_at (f : Nat → Fin 5 → Nat → Int32) (t : Nat) (j : Fin 5) (k : Nat) (x : Int32) : zq_up f t j k x t j k = x := if_pos ⟨rfl, rfl, rfl⟩
/-- an int field is written -/
theorem gq_putI {idx t k : Nat} {j : Fin 5} {x : Int32} (hF : zq_W M.1.cls idx t k .int) (hf : zq_ff t k = (0, 0)) (hv : zq_vd t j = true) (hd : decode M.2.1 pc = .ok (.putfield idx, 3)) (kk : zq_G ν M h Q (pc + 3) ls st (zq_up σ.1 t j k x, σ.2)) : zq_G ν M h Q pc ls (zq_I x :: zq_O t j :: st) σ :=
  gq_putG hF (fun _ => rfl) (fun _ => rfl) (fun i hi => zq_fv_up hi) (by simp only [zq_fv, hf, zq_up_at]) (fun t' j' _ hne => zq_el_up hne) hv hd kk
theorem zq_ff_dyn : ∀ t k : Nat, t ≠ 0 → (zq_ff t k).1 < 3 := by
  intro t k ht
  have gl : ∀ (l : List (Nat × Nat)), (∀ q ∈ l, q.1 < 3) → (l.getD k (0, 0)).1 < 3 := by
    intro l hl
    rw [List.getD_eq_getElem?_getD]
    cases hk : l[k]? with
    | none => decide
    | some q => exact hl q (List.mem_of_getElem? hk)
  unfold zq_ff
  split
  · exact absurd rfl ht
  · exact gl _ (by decide)
  · exact gl _ (by decide)
  · exact gl _ (by decide)
  · exact gl _ (by decide)
  · decide
theorem zq_cs_0 : ∀ j : Fin 5, (0, j) ∈ zq_cs → j = 0 := by decide +kernel
theorem zq_fv_dyn {σ σ' : zq_T} (h1 : σ.1 = σ'.1) {t : Nat} (ht : t ≠ 0) (j : Fin 5) (i : Nat) : zq_fv σ t j i = zq_fv σ' t j i := by
  have h4 := zq_ff_dyn t i ht
  have hx : (zq_ff t i).1 = 0 ∨ (zq_ff t i).1 = 1 ∨ (zq_ff t i).1 = 2 := by omega
  unfold zq_fv
  generalize zq_ff t i = z at hx ⊢
  obtain ⟨a, b⟩ := z
  rcases hx with e | e | e <;> (simp only at e; subst e)
  · show zq_I (σ.1 t j i) = zq_I (σ'.1 t j i)
    rw [h1]
  · rfl
  · rfl
theorem zq_el_dyn {σ σ' : zq_T} (h1 : σ.1 = σ'.1) (h2 : σ.2.1 = σ'.2.1) {t : Nat} (ht : t ≠ 0) (j : Fin 5) : zq_el ν σ t j = zq_el ν σ' t j := by
  have e : ∀ i, zq_fv σ t j i = zq_fv σ' t j i := zq_fv_dyn h1 ht j
  simp only [zq_el, h1, h2, e]
/-- 'duchy' is written -/
theorem gq_putU {idx : Nat} {d : Fin 5} (hF : zq_W M.1.cls idx 0 9 (.object "ThirdSon$Duchy")) (hd : decode M.2.1 pc = .ok (.putfield idx, 3)) (kk : zq_G ν M h Q (pc + 3) ls st (σ.1, σ.2.1, d, σ.2.2.2)) : zq_G ν M h Q pc ls (zq_O 10 d :: zq_O 0 0 :: st) σ := by
  refine gq_putG hF (fun _ => rfl) (fun _ => rfl) (fun i hi => ?_) rfl (fun t' j' hm hne => ?_) rfl hd kk
  · by_cases h3 : i = 10
    · subst h3; rfl
    · have h4 : (zq_ff 0 i).1 < 3 := by
        rcases Nat.lt_or_ge i 11 with q | q
        · have : ∀ i : Fin 11, i.val ≠ 9 → i.val ≠ 10 → (zq_ff 0 i.val).1 < 3 := by decide
          exact this ⟨i, q⟩ hi h3
        · have : zq_ff 0 i = (0, 0) := by
            show List.getD _ i (0, 0) = _
            rw [List.getD_eq_getElem?_getD, List.getElem?_eq_none (by simpa using q)]
            rfl
          rw [this]
          decide
      have hx : (zq_ff 0 i).1 = 0 ∨ (zq_ff 0 i).1 = 1 ∨ (zq_ff 0 i).1 = 2 := by omega
      unfold zq_fv
      generalize zq_ff 0 i = z at hx ⊢
      obtain ⟨a, b⟩ := z
      rcases hx with e | e | e <;> (simp only at e; subst e; rfl)
  · by_cases ht : t' = 0
    · subst ht
      have := zq_cs_0 j' hm
      subst this
      exact absurd rfl hne
    · exact zq_el_dyn (σ := σ) (σ' := (σ.1, σ.2.1, d, σ.2.2.2)) rfl rfl ht j'
/-- 'draft' is written -/
theorem gq_putY {idx : Nat} {d : Fin 5} (hF : zq_W M.1.cls idx 0 10 (.object "ThirdSon$Duchy")) (hd : decode M.2.1 pc = .ok (.putfield idx, 3)) (kk : zq_G ν M h Q (pc + 3) ls st (σ.1, σ.2.1, σ.2.2.1, d)) : zq_G ν M h Q pc ls (zq_O 10 d :: zq_O 0 0 :: st) σ := by
  refine gq_putG hF (fun _ => rfl) (fun _ => rfl) (fun i hi => ?_) rfl (fun t' j' hm hne => ?_) rfl hd kk
  · by_cases h3 : i = 9
    · subst h3; rfl
    · have h4 : (zq_ff 0 i).1 < 3 := by
        rcases Nat.lt_or_ge i 11 with q | q
        · have : ∀ i : Fin 11, i.val ≠ 9 → i.val ≠ 10 → (zq_ff 0 i.val).1 < 3 := by decide
          exact this ⟨i, q⟩ h3 hi
        · have : zq_ff 0 i = (0, 0) := by
            show List.getD _ i (0, 0) = _
            rw [List.getD_eq_getElem?_getD, List.getElem?_eq_none (by simpa using q)]
            rfl
          rw [this]
          decide
      have hx : (zq_ff 0 i).1 = 0 ∨ (zq_ff 0 i).1 = 1 ∨ (zq_ff 0 i).1 = 2 := by omega
      unfold zq_fv
      generalize zq_ff 0 i = z at hx ⊢
      obtain ⟨a, b⟩ := z
      rcases hx with e | e | e <;> (simp only at e; subst e; rfl)
  · by_cases ht : t' = 0
    · subst ht
      have := zq_cs_0 j' hm
      subst this
      exact absurd rfl hne
    · exact zq_el_dyn (σ := σ) (σ' := (σ.1, σ.2.1, σ.2.2.1, d)) rfl rfl ht j'
/-! arrays -/
theorem gq_iald {t n : Nat} {j : Fin 5} {i : Int32} (hkd : zq_kd t = (1, n, 0)) (hv : zq_vd t j = true) (hin : vp_in i n) (hd : decode M.2.1 pc = .ok (.iaload, 1)) (kk : zq_G ν M h Q (pc + 1) ls (zq_I (σ.1 t j i.toNatClampNeg) :: st) σ) : zq_G ν M h Q pc ls (zq_I i :: zq_O t j :: st) σ := by
  intro p l e R s m args below meth c cells slots Qm H locs arr hok hC hX hP hS hL
  obtain ⟨q0, hq, hw⟩ := zq_at hv
  exact va_iald hC.1 hC.2.1 hC.2.2.2.2.2.1 hP q0 0 (by rw [hw, zq_el_ints hkd]) rfl hin hd (kk p l e R s m args below meth c cells slots Qm H locs arr hok hC hX hP hS hL)
theorem gq_bald {t n : Nat} {j : Fin 5} {i : Int32} (hkd : zq_kd t = (2, n, 0)) (hv : zq_vd t j = true) (hin : vp_in i n) (hd : decode M.2.1 pc = .ok (.baload, 1)) (kk : zq_G ν M h Q (pc + 1) ls (zq_I (σ.1 t j i.toNatClampNeg) :: st) σ) : zq_G ν M h Q pc ls (zq_I i :: zq_O t j :: st) σ := by
  intro p l e R s m args below meth c cells slots Qm H locs arr hok hC hX hP hS hL
  obtain ⟨q0, hq, hw⟩ := zq_at hv
  exact va_bald hC.1 hC.2.1 hC.2.2.2.2.2.1 hP q0 1 (by rw [hw, zq_el_bytes hkd]) rfl hin hd (kk p l e R s m args below meth c cells slots Qm H locs arr hok hC hX hP hS hL)
theorem gq_zald {t n : Nat} {j : Fin 5} {i : Int32} (hkd : zq_kd t = (4, n, 0)) (hv : zq_vd t j = true) (hin : vp_in i n) (hd : decode M.2.1 pc = .ok (.baload, 1)) (kk : zq_G ν M h Q (pc + 1) ls (zq_I (σ.1 t j i.toNatClampNeg) :: st) σ) : zq_G ν M h Q pc ls (zq_I i :: zq_O t j :: st) σ := by
  intro p l e R s m args below meth c cells slots Qm H locs arr hok hC hX hP hS hL
  obtain ⟨q0, hq, hw⟩ := zq_at hv
  exact va_zald hC.1 hC.2.1 hC.2.2.2.2.2.1 hP q0 3 (by rw [hw, zq_el_bools hkd]) rfl hin hd (kk p l e R s m args below meth c cells slots Qm H locs arr hok hC hX hP hS hL)
theorem gq_lald {t n : Nat} {j : Fin 5} {i : Int32} (hkd : zq_kd t = (3, n, 0)) (hv : zq_vd t j = true) (hin : vp_in i n) (hd : decode M.2.1 pc = .ok (.laload, 1)) (kk : zq_G ν M h Q (pc + 1) ls (zq_L (σ.2.1 i.toNatClampNeg) :: st) σ) : zq_G ν M h Q pc ls (zq_I i :: zq_O t j :: st) σ := by
  intro p l e R s m args below meth c cells slots Qm H locs arr hok hC hX hP hS hL
  obtain ⟨q0, hq, hw⟩ := zq_at hv
  exact va_lald hC.1 hC.2.1 hC.2.2.2.2.2.1 hP q0 2 (by rw [hw, zq_el_longs hkd]) rfl hin hd (kk p l e R s m args below meth c cells slots Qm H locs arr hok hC hX hP hS hL)
theorem gq_aald {i : Int32} (hin : vp_in i 4) (hd : decode M.2.1 pc = .ok (.aaload, 1)) (kk : ∀ j : Fin 5, j.val = i.toNatClampNeg → zq_G ν M h Q (pc + 1) ls (zq_O 6 j :: st) σ) : zq_G ν M h Q pc ls (zq_I i :: zq_O 5 0 :: st) σ := by
  intro p l e R s m args below meth c cells slots Qm H locs arr hok hC hX hP hS hL
  obtain ⟨q0, hq, hw⟩ := zq_at (t := 5) (j := 0) rfl
  have hlt : i.toNatClampNeg < 4 := Nat.not_le.mp fun q => hin (Or.inr q)
  have he : (zq_ws ν σ)[q0]? = some (ν.1 5 0, .inl (ν.2.2.1 5, 4, .inr (.inr (.inr (.inr (zq_rows ν)))))) := by rw [hw, zq_el_refs rfl]
  have hv : zq_rows ν i.toNatClampNeg = some (ν.1 6 ⟨i.toNatClampNeg, by omega⟩) := by
    unfold zq_rows
    rw [dif_pos hlt]
  exact W.aald (v := .ref (ν.1 6 ⟨i.toNatClampNeg, by omega⟩)) (ty := .array .int) hC.1 hC.2.1 (hP q0 _ he) ((hC.2.2.2.2.2.1.2 4 (ν.2.2.1 5, .array .int) rfl).1 4 (fun j => va_rf (zq_rows ν j))) rfl (fun q => by cases q) (by show ¬ (i < 0 ∨ (arrV _ _ _).slots.size ≤ _); rw [arrV_size]; exact hin) (by show (arrV _ _ _).slots[_]? = _; rw [arrV_read _ _ hlt, hv]; rfl) rfl rfl hd (kk ⟨i.toNatClampNeg, by omega⟩ rfl p l e R s m args below meth c cells slots Qm H locs arr hok hC hX hP hS hL)
theorem zq_upd_at (f : Nat → Fin 5 → Nat → Int32) (t : Nat) (j : Fin 5) (k : Nat) (x : Int32) : upd (f t j) k x = zq_up f t j k x t j := funext fun i => by
  simp only [upd, zq_up, true_and]
theorem gq_iast {t n : Nat} {j : Fin 5} {i x : Int32} (hkd : zq_kd t = (1, n, 0)) (hv : zq_vd t j = true) (hin : vp_in i n) (hd : decode M.2.1 pc = .ok (.iastore, 1)) (kk : zq_G ν M h Q (pc + 1) ls st (zq_up σ.1 t j i.toNatClampNeg x, σ.2)) : zq_G ν M h Q pc ls (zq_I x :: zq_I i :: zq_O t j :: st) σ := by
  intro p l e R s m args below meth c cells slots Qm H locs arr hok hC hX hP hS hL
  obtain ⟨q0, hq, hw⟩ := zq_at hv
  refine va_iast hC.1 hC.2.1 hC.2.2.2.2.2.1 hP (zq_D hok σ) hS q0 0 (by rw [hw, zq_el_ints hkd]) rfl hin hd (fun H1 locs1 hP1 hD1 hS1 => ?_)
  rw [zq_set (σ' := (zq_up σ.1 t j i.toNatClampNeg x, σ.2)) hq (by rw [zq_el_ints hkd, zq_upd_at]) (fun t' j' _ hne => zq_el_up hne)] at hP1
  exact kk p l e R s m args below meth c cells slots Qm H1 locs1 arr hok hC hX hP1 hS1 hL
theorem gq_bast {t n : Nat} {j : Fin 5} {i x : Int32} (hkd : zq_kd t = (2, n, 0)) (hv : zq_vd t j = true) (hin : vp_in i n) (hd : decode M.2.1 pc = .ok (.bastore, 1)) (kk : zq_G ν M h Q (pc + 1) ls st (zq_up σ.1 t j i.toNatClampNeg x.toInt8.toInt32, σ.2)) : zq_G ν M h Q pc ls (zq_I x :: zq_I i :: zq_O t j :: st) σ := by
  intro p l e R s m args below meth c cells slots Qm H locs arr hok hC hX hP hS hL
  obtain ⟨q0, hq, hw⟩ := zq_at hv
  refine va_bast hC.1 hC.2.1 hC.2.2.2.2.2.1 hP (zq_D hok σ) hS q0 1 (by rw [hw, zq_el_bytes hkd]) rfl hin hd (fun H1 locs1 hP1 hD1 hS1 => ?_)
  rw [zq_set (σ' := (zq_up σ.1 t j i.toNatClampNeg x.toInt8.toInt32, σ.2)) hq (by rw [zq_el_bytes hkd, zq_upd_at, vp_nar_byte]) (fun t' j' _ hne => zq_el_up hne)] at hP1
  exact kk p l e R s m args below meth c cells slots Qm H1 locs1 arr hok hC hX hP1 hS1 hL
theorem gq_zast {t n : Nat} {j : Fin 5} {i x : Int32} (hkd : zq_kd t = (4, n, 0)) (hv : zq_vd t j = true) (hin : vp_in i n) (hd : decode M.2.1 pc = .ok (.bastore, 1)) (kk : zq_G ν M h Q (pc + 1) ls st (zq_up σ.1 t j i.toNatClampNeg (vp_nar .boolean x), σ.2)) : zq_G ν M h Q pc ls (zq_I x :: zq_I i :: zq_O t j :: st) σ := by
  intro p l e R s m args below meth c cells slots Qm H locs arr hok hC hX hP hS hL
  obtain ⟨q0, hq, hw⟩ := zq_at hv
  refine va_zast hC.1 hC.2.1 hC.2.2.2.2.2.1 hP (zq_D hok σ) hS q0 3 (by rw [hw, zq_el_bools hkd]) rfl hin hd (fun H1 locs1 hP1 hD1 hS1 => ?_)
  rw [zq_set (σ' := (zq_up σ.1 t j i.toNatClampNeg (vp_nar .boolean x), σ.2)) hq (by rw [zq_el_bools hkd, zq_upd_at]) (fun t' j' _ hne => zq_el_up hne)] at hP1
  exact kk p l e R s m args below meth c cells slots Qm H1 locs1 arr hok hC hX hP1 hS1 hL
theorem zq_kd_3 : ∀ t : Nat, (zq_kd t).1 = 3 → t = 42 := by
  intro t h
  rcases Nat.lt_or_ge t 48 with q | q
  · have : ∀ t : Fin 48, (zq_kd t.val).1 = 3 → t.val = 42 := by decide
    exact this ⟨t, q⟩ h
  · exfalso
    have e : zq_kd t = (9, 0, 0) := by
      show List.getD _ t (9, 0, 0) = _
      rw [List.getD_eq_getElem?_getD, List.getElem?_eq_none (by simpa using q)]
      rfl
    rw [e] at h
    exact absurd h (by decide)
theorem zq_cs_42 : ∀ j : Fin 5, (42, j) ∈ zq_cs → j = 0 := by decide +kernel
theorem gq_last {n : Nat} {i : Int32} {x : Int64} (hin : vp_in i 128) (hd : decode M.2.1 pc = .ok (.lastore, 1)) (kk : zq_G ν M h Q (pc + 1) ls st (σ.1, vp_updL σ.2.1 i.toNatClampNeg x, σ.2.2)) : zq_G ν M h Q pc ls (zq_L x :: zq_I i :: zq_O 42 0 :: st) σ := by
  intro p l e R s m args below meth c cells slots Qm H locs arr hok hC hX hP hS hL
  obtain ⟨q0, hq, hw⟩ := zq_at (t := 42) (j := 0) rfl
  refine va_last hC.1 hC.2.1 hC.2.2.2.2.2.1 hP (zq_D hok σ) hS q0 2 (by rw [hw, zq_el_longs (n := 128) rfl]) rfl hin hd (fun H1 locs1 hP1 hD1 hS1 => ?_)
  rw [zq_set (σ' := (σ.1, vp_updL σ.2.1 i.toNatClampNeg x, σ.2.2)) hq (by rw [zq_el_longs (n := 128) rfl]) (fun t' j' hm hne => ?_)] at hP1
  · exact kk p l e R s m args below meth c cells slots Qm H1 locs1 arr hok hC hX hP1 hS1 hL
  · have h3 : (zq_kd t').1 ≠ 3 := by
      intro h3
      have e1 := zq_kd_3 t' h3
      subst e1
      have e2 := zq_cs_42 j' hm
      subst e2
      exact hne rfl
    have e : ∀ i2, zq_fv σ t' j' i2 = zq_fv (σ.1, vp_updL σ.2.1 i.toNatClampNeg x, σ.2.2) t' j' i2 := fun i2 => rfl
    unfold zq_el
    generalize zq_kd t' = z at h3 ⊢
    obtain ⟨a, b, c'⟩ := z
    match a, h3 with
    | 0, _ => rfl
    | 1, _ => rfl
    | 2, _ => rfl
    | 3, h3 => exact absurd rfl h3
    | 4, _ => rfl
    | 5, _ => rfl
    | a + 6, _ => rfl
theorem gq_alen {t n : Nat} {j : Fin 5} {v : Int32} (hkd : zq_kd t = (1, n, 0)) (hv : zq_vd t j = true) (hn : Int32.ofNat n = v) (hd : decode M.2.1 pc = .ok (.arraylength, 1)) (kk : zq_G ν M h Q (pc + 1) ls (zq_I v :: st) σ) : zq_G ν M h Q pc ls (zq_O t j :: st) σ := by
  intro p l e R s m args below meth c cells slots Qm H locs arr hok hC hX hP hS hL
  obtain ⟨q0, hq, hw⟩ := zq_at hv
  exact va_alen hC.1 hC.2.1 hC.2.2.2.2.2.1 hP q0 0 (by rw [hw, zq_el_ints hkd]) (ty := .int) rfl hn hd (kk p l e R s m args below meth c cells slots Qm H locs arr hok hC hX hP hS hL)
/-! calls -/
theorem zq_callR {p : Program} {l : Launch} {e : Env} {R : Room} {s : State} {m : MethodId} {args : Array Value} {below : List Frame} {meth : Method} {c : Code} {H : Heap} {locs : List Loc} {cells slots : Nat} {Qm : State → Prop} {arr : Array Slot} {rest st0 : List Value} {a : Array Value} {Q' : Option zq_V → zq_T → Prop} (hr : va_Run p l e R s m args below meth c H locs cells slots 0 0 (F0 m pc arr st0) rest (zq_Qc ν Q' a) (zq_A ν)) (hS : va_S (zq_A ν) s.heap H locs) (kk : ∀ (r : Option zq_V) (σ' : zq_T) (H1 : Heap) (locs1 : List Loc), Q' r σ' → va_P ν.2.1 zq_cl (zq_ws ν σ') H1 → va_S (zq_A ν) s.heap H1 locs1 → W p l e R s m args below meth c H1 locs1 cells slots Qm (F0 m (pc + 3) arr ((r.map (zq_ev ν)).toList ++ rest))) : W p l e R s m args below meth c H locs cells slots Qm (F0 m pc arr st0) := by
  intro T hT X
  obtain ⟨v, st₀, t, T', L, h0, X', hL, e1, e2, ⟨⟨r, σ', hv, hQ, hP⟩, hz, hk⟩, st⟩ := hr T hT X
  cases hv
  rw [h0] at hz hk
  obtain ⟨t2, a1, b1⟩ := kk r σ' T'.heap (locs ++ L) hQ (by rw [e1]; exact hP) ⟨Nat.le_trans hS.1 (by rw [e1]; exact hz), fun q h1 h2 => by rw [e1, hk q (Nat.lt_of_lt_of_le h1 hS.1) h2]; exact hS.2.1 q h1 h2, fun q hq => by
      rcases List.mem_append.mp hq with h | h
      · exact hS.2.2 q h
      · exact hL q h⟩ T' rfl X'
  exact ⟨t2, st t2 a1, b1⟩
theorem zq_blind (ν : zq_E) (a : List zq_V) (σ : zq_T) : FrameBlind (zq_Pc ν a σ) := fun v U g mk q => ⟨q.1, q.2.1, va_K.moved (u := U) (U := U.calling g mk v) (Vm.Alike.refl U.vm) q.2.2.1, q.2.2.2.call g mk v⟩
theorem zq_rest (ν : zq_E) : ∀ st : List zq_V, ((st.map (zq_ev ν)).map fun v => v.category).sum = (st.map zq_ct).sum
  | [] => rfl
  | v :: st => by simp only [List.map_cons, List.sum_cons, zq_ct_ev, zq_rest ν st]
theorem gq_callRecv {Mj : zq_M} {h' n idx : Nat} {As : List zq_V} {t : Nat} {j : Fin 5} {Q' : Option zq_V → zq_T → Prop} {st0 : List zq_V} (hrecv : ∀ (s : State) (H : Heap) (locs : List Loc), va_K ν.2.1 zq_cl (zq_tys ν) s → zq_J ν s s.heap → va_P ν.2.1 zq_cl (zq_ws ν σ) H → va_S (zq_A ν) s.heap H locs → ∃ cellB : Cell, H[ν.1 t j]? = some cellB ∧ cellB.vm.isStatics = false ∧ s.vm.findClass Mj.1.cls = some cellB.cls) (hSp : zq_Sp Mj h' (zq_O t j :: As) σ Q') (hm : zq_MV Mj n) (hlk : Cond.methodLink M.1.cls idx Mj.1 ∈ zq_tbl) (hd : decode M.2.1 pc = .ok (.invokevirtual idx, 3)) (hh : h' + 1 ≤ h) (hn : As.length = n) (hst : As.reverse ++ zq_O t j :: st = st0) (hct : (st.map zq_ct).sum ≤ 8) (kk : ∀ r σ', Q' r σ' → zq_G ν M h Q (pc + 3) ls (r.toList ++ st) σ') : zq_G ν M h Q pc ls st0 σ := by
  intro p l e R s m args below meth c cells slots Qm H locs arr hok hC hX hP hS hL
  obtain ⟨m1, m2, m3, m4, m5, m6, m7, m8⟩ := hm
  obtain ⟨c1, c2, c3, c4, c5, c6, c7, c8, c9, c10, c11⟩ := id hC
  have hMet := hSp ν hok l
  subst hst
  have cw : CallW R s args M.1.cls Mj.1.cls idx Mj.1 Mj.2.1 Mj.2.2.1 Mj.2.2.2 (zq_wm Mj) (zq_rm h') 0 0 n := ⟨callB_of n c5 (zq_good m1) rfl rfl rfl (c5 _ m4) (c5 _ hlk) ⟨m5.1, m5.2, m6⟩ ⟨Nat.le_trans hh c8, by show 8 + (Mj.2.2.1 + 11) + 60 * h' ≤ R.locals; omega⟩, c5 _ m2, c5 _ m3⟩
  refine zq_callR (va_runV (As := As.map (zq_ev ν)) (rest := st.map (zq_ev ν)) (b := ν.1 t j) ⟨c1, c2, c3, c4, c5⟩ hMet cw ⟨zq_blind ν _ σ, hrecv s H locs c6 c7 hP hS, fun U hU hW => ⟨by rw [List.map_cons]; rfl, by rw [hU]; exact hP, va_K.moved hW.alike c6, by rw [hU]; exact c7.go hS hW⟩⟩ rfl (by rw [List.length_map]; exact hn) hL.1 (by simp [zq_ev]) (lv_room (by rw [zq_rest]; exact hct)) hd ⟨c10, c11⟩) hS (fun r σ' H1 locs1 hQ' hP1 hS1 => ?_)
  have := kk r σ' hQ' p l e R s m args below meth c cells slots Qm H1 locs1 arr hok hC hX hP1 hS1 hL
  rw [List.map_append] at this
  rcases r with _ | r
  · exact this
  · exact this
theorem gq_callV {Mj : zq_M} {h' n idx : Nat} {As : List zq_V} {t ci N : Nat} {j : Fin 5} {Q' : Option zq_V → zq_T → Prop} {st0 : List zq_V} (hSp : zq_Sp Mj h' (zq_O t j :: As) σ Q') (hm : zq_MV Mj n) (hlk : Cond.methodLink M.1.cls idx Mj.1 ∈ zq_tbl) (hd : decode M.2.1 pc = .ok (.invokevirtual idx, 3)) (hkd : zq_kd t = (0, ci, N)) (hcl : (zq_cl[ci]?).map (fun q => q.1) = some Mj.1.cls) (hv : zq_vd t j = true) (hh : h' + 1 ≤ h) (hn : As.length = n) (hst : As.reverse ++ zq_O t j :: st = st0) (hct : (st.map zq_ct).sum ≤ 8) (kk : ∀ r σ', Q' r σ' → zq_G ν M h Q (pc + 3) ls (r.toList ++ st) σ') : zq_G ν M h Q pc ls st0 σ := by
  refine gq_callRecv (fun s H locs hK hJ hP hS => ?_) hSp hm hlk hd hh hn hst hct kk
  obtain ⟨q0, hq, hw⟩ := zq_at hv
  cases hci : zq_cl[ci]? with
  | none => rw [hci] at hcl; cases hcl
  | some r =>
    rw [hci] at hcl
    rw [← show r.1 = Mj.1.cls from Option.some.inj hcl]
    exact va_recv hK hP hci (by rw [hw, zq_el_obj hkd])
theorem gq_callS {Mj : zq_M} {h' n idx : Nat} {As : List zq_V} {Q' : Option zq_V → zq_T → Prop} {st0 : List zq_V} (hSp : zq_Sp Mj h' As σ Q') (hm : zq_MS Mj n) (hlk : Cond.methodLink M.1.cls idx Mj.1 ∈ zq_tbl) (hd : decode M.2.1 pc = .ok (.invokestatic idx, 3)) (hh : h' + 1 ≤ h) (hn : As.length = n) (hst : As.reverse ++ st = st0) (hct : (st.map zq_ct).sum ≤ 8) (kk : ∀ r σ', Q' r σ' → zq_G ν M h Q (pc + 3) ls (r.toList ++ st) σ') : zq_G ν M h Q pc ls st0 σ := by
  intro p l e R s m args below meth c cells slots Qm H locs arr hok hC hX hP hS hL
  obtain ⟨m1, m2, m4, m5, m6, m7, m8⟩ := hm
  obtain ⟨c1, c2, c3, c4, c5, c6, c7, c8, c9, c10, c11⟩ := id hC
  have hMet := hSp ν hok l
  subst hst
  have cw : CallB R s args M.1.cls idx Mj.1 Mj.2.1 Mj.2.2.1 Mj.2.2.2 (zq_wm Mj) (zq_rm h') 0 0 n ∧ (Cond.static Mj.1).before args s = true := ⟨callB_of n c5 (zq_good m1) rfl rfl rfl (c5 _ m4) (c5 _ hlk) ⟨m5.1, m5.2, m6⟩ ⟨Nat.le_trans hh c8, by show 8 + (Mj.2.2.1 + 11) + 60 * h' ≤ R.locals; omega⟩, c5 _ m2⟩
  refine zq_callR (va_runS (As := As.map (zq_ev ν)) (rest := st.map (zq_ev ν)) ⟨c1, c2, c3, c4, c5⟩ hMet cw ⟨zq_blind ν _ σ, fun U hU hW => ⟨rfl, by rw [hU]; exact hP, va_K.moved hW.alike c6, by rw [hU]; exact c7.go hS hW⟩⟩ rfl (by rw [List.length_map]; exact hn) hL.1 (by simp) (lv_room (by rw [zq_rest]; exact hct)) hd ⟨c10, c11⟩) hS (fun r σ' H1 locs1 hQ' hP1 hS1 => ?_)
  have := kk r σ' hQ' p l e R s m args below meth c cells slots Qm H1 locs1 arr hok hC hX hP1 hS1 hL
  rw [List.map_append] at this
  rcases r with _ | r
  · exact this
  · exact this
/-- calls that answer one value; that answer nothing -/
theorem gq_cV {Mj : zq_M} {h' n idx : Nat} {As : List zq_V} {t ci N : Nat} {j : Fin 5} {v : zq_V} {τ : zq_T} {st0 : List zq_V} (hSp : zq_Sp Mj h' (zq_O t j :: As) σ (zq_rv v τ)) (hm : zq_MV Mj n) (hlk : Cond.methodLink M.1.cls idx Mj.1 ∈ zq_tbl) (hd : decode M.2.1 pc = .ok (.invokevirtual idx, 3)) (hkd : zq_kd t = (0, ci, N)) (hcl : (zq_cl[ci]?).map (fun q => q.1) = some Mj.1.cls) (hv : zq_vd t j = true) (hh : h' + 1 ≤ h) (hn : As.length = n) (hst : As.reverse ++ zq_O t j :: st = st0) (hct : (st.map zq_ct).sum ≤ 8) (kk : zq_G ν M h Q (pc + 3) ls (v :: st) τ) : zq_G ν M h Q pc ls st0 σ :=
  gq_callV hSp hm hlk hd hkd hcl hv hh hn hst hct (fun r σ' q => by obtain ⟨rfl, rfl⟩ := q; exact kk)
theorem gq_cV0 {Mj : zq_M} {h' n idx : Nat} {As : List zq_V} {t ci N : Nat} {j : Fin 5} {τ : zq_T} {st0 : List zq_V} (hSp : zq_Sp Mj h' (zq_O t j :: As) σ (zq_r0 τ)) (hm : zq_MV Mj n) (hlk : Cond.methodLink M.1.cls idx Mj.1 ∈ zq_tbl) (hd : decode M.2.1 pc = .ok (.invokevirtual idx, 3)) (hkd : zq_kd t = (0, ci, N)) (hcl : (zq_cl[ci]?).map (fun q => q.1) = some Mj.1.cls) (hv : zq_vd t j = true) (hh : h' + 1 ≤ h) (hn : As.length = n) (hst : As.reverse ++ zq_O t j :: st = st0) (hct : (st.map zq_ct).sum ≤ 8) (kk : zq_G ν M h Q (pc + 3) ls st τ) : zq_G ν M h Q pc ls st0 σ :=
  gq_callV hSp hm hlk hd hkd hcl hv hh hn hst hct (fun r σ' q => by obtain ⟨rfl, rfl⟩ := q; exact kk)
theorem gq_cS {Mj : zq_M} {h' n idx : Nat} {As : List zq_V} {v : zq_V} {τ : zq_T} {st0 : List zq_V} (hSp : zq_Sp Mj h' As σ (zq_rv v τ)) (hm : zq_MS Mj n) (hlk : Cond.methodLink M.1.cls idx Mj.1 ∈ zq_tbl) (hd : decode M.2.1 pc = .ok (.invokestatic idx, 3)) (hh : h' + 1 ≤ h) (hn : As.length = n) (hst : As.reverse ++ st = st0) (hct : (st.map zq_ct).sum ≤ 8) (kk : zq_G ν M h Q (pc + 3) ls (v :: st) τ) : zq_G ν M h Q pc ls st0 σ :=
  gq_callS hSp hm hlk hd hh hn hst hct (fun r σ' q => by obtain ⟨rfl, rfl⟩ := q; exact kk)
theorem gq_cS0 {Mj : zq_M} {h' n idx : Nat} {As : List zq_V} {τ : zq_T} {st0 : List zq_V} (hSp : zq_Sp Mj h' As σ (zq_r0 τ)) (hm : zq_MS Mj n) (hlk : Cond.methodLink M.1.cls idx Mj.1 ∈ zq_tbl) (hd : decode M.2.1 pc = .ok (.invokestatic idx, 3)) (hh : h' + 1 ≤ h) (hn : As.length = n) (hst : As.reverse ++ st = st0) (hct : (st.map zq_ct).sum ≤ 8) (kk : zq_G ν M h Q (pc + 3) ls st τ) : zq_G ν M h Q pc ls st0 σ :=
  gq_callS hSp hm hlk hd hh hn hst hct (fun r σ' q => by obtain ⟨rfl, rfl⟩ := q; exact kk)
end FLD
theorem zx_max1 : Cond.methodLink "ThirdSon" 286 Lib.MathLoose.max_long.x ∈ zq_tbl := zl_S_286
theorem zx_max2 : Cond.static Lib.MathLoose.max_long.x ∈ zq_tbl := zq_in 692 (by decide +kernel) rfl
theorem zx_max3 : Cond.code Lib.MathLoose.max_long.x Lib.MathLoose.max_long.code 4 (some .long) ∈ zq_tbl := zq_in 693 (by decide +kernel) rfl
theorem gq_lmax {ν : zq_E} {M : zq_M} {h : Nat} {Q : Option zq_V → zq_T → Prop} {pc : Nat} {ls : List (Option zq_V)} {st : List zq_V} {σ : zq_T} {x y : Int64} (hown : M.1.cls = "ThirdSon") (hd : decode M.2.1 pc = .ok (.invokestatic 286, 3)) (hh : 1 ≤ h) (hct : (st.map zq_ct).sum ≤ 8) (kk : zq_G ν M h Q (pc + 3) ls (zq_L (if y < x then x else y) :: st) σ) : zq_G ν M h Q pc ls (zq_L y :: zq_L x :: st) σ := by
  intro p l e R s m args below meth c cells slots Qm H locs arr hok hC hX hP hS hL
  obtain ⟨c1, c2, c3, c4, c5, c6, c7, c8, c9, c10, c11⟩ := id hC
  exact va_mmax_long c1 c2 (c3.trans hL.1.symm) (own := "ThirdSon") (by rw [← hown]; exact c4) (c5 _ zx_max1) (c5 _ zx_max2) (c5 _ zi_JM) (c5 _ zx_max3) (by omega) (by rw [zq_rest]; omega) c10 c11 hd (kk p l e R s m args below meth c cells slots Qm H locs arr hok hC hX hP hS hL)
end
