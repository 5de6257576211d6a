section
-- ===== PART A: goes FIRST, ahead of the names: the tables' words, and 'selects' of the private methods out of them =====
/-- a private method of a class that the tables say can be made, by its rows of tables_1 -/
def lw_okq (q : MethodName × Nat) : Prop := (q.1.cls ≠ "java/lang/invoke/MethodHandle" ∧ q.1.cls ≠ "java/lang/invoke/VarHandle") ∧ Cond.instantiable q.1.cls q.2 ∈ tables_1 ∧ Cond.privateMethod q.1 ∈ tables_1 ∧ Cond.instanceMethod q.1 ∈ tables_1
theorem lw_p0 : lw_okq (⟨"ThirdSon$Tape", "byteAt", "(I)I"⟩, 6) := ⟨⟨by decide +kernel, by decide +kernel⟩, List.mem_of_getElem? (i := 22) (by decide +kernel), List.mem_of_getElem? (i := 235) (by decide +kernel), List.mem_of_getElem? (i := 236) (by decide +kernel)⟩
theorem lw_p1 : lw_okq (⟨"ThirdSon$Tape", "readName", "()V"⟩, 6) := ⟨⟨by decide +kernel, by decide +kernel⟩, List.mem_of_getElem? (i := 22) (by decide +kernel), List.mem_of_getElem? (i := 242) (by decide +kernel), List.mem_of_getElem? (i := 243) (by decide +kernel)⟩
theorem lw_p2 : lw_okq (⟨"ThirdSon$Tape", "readNumber", "()V"⟩, 6) := ⟨⟨by decide +kernel, by decide +kernel⟩, List.mem_of_getElem? (i := 22) (by decide +kernel), List.mem_of_getElem? (i := 249) (by decide +kernel), List.mem_of_getElem? (i := 250) (by decide +kernel)⟩
theorem lw_p3 : lw_okq (⟨"ThirdSon$Teller", "tellLine", "(LThirdSon$Tape;LThirdSon$Duchy;)Z"⟩, 4) := ⟨⟨by decide +kernel, by decide +kernel⟩, List.mem_of_getElem? (i := 53) (by decide +kernel), List.mem_of_getElem? (i := 253) (by decide +kernel), List.mem_of_getElem? (i := 254) (by decide +kernel)⟩
theorem lw_p4 : lw_okq (⟨"ThirdSon$Teller", "tellOne", "(LThirdSon$Tape;LThirdSon$Duchy;)Z"⟩, 4) := ⟨⟨by decide +kernel, by decide +kernel⟩, List.mem_of_getElem? (i := 53) (by decide +kernel), List.mem_of_getElem? (i := 310) (by decide +kernel), List.mem_of_getElem? (i := 311) (by decide +kernel)⟩
theorem lw_p5 : lw_okq (⟨"ThirdSon$Teller", "fail", "(II)Z"⟩, 4) := ⟨⟨by decide +kernel, by decide +kernel⟩, List.mem_of_getElem? (i := 53) (by decide +kernel), List.mem_of_getElem? (i := 314) (by decide +kernel), List.mem_of_getElem? (i := 315) (by decide +kernel)⟩
theorem lw_p6 : lw_okq (⟨"ThirdSon$Teller", "misplaced", "(LThirdSon$Tape;)Z"⟩, 4) := ⟨⟨by decide +kernel, by decide +kernel⟩, List.mem_of_getElem? (i := 53) (by decide +kernel), List.mem_of_getElem? (i := 327) (by decide +kernel), List.mem_of_getElem? (i := 328) (by decide +kernel)⟩
theorem lw_p7 : lw_okq (⟨"ThirdSon$Teller", "tellFact", "(LThirdSon$Tape;LThirdSon$Duchy;)Z"⟩, 4) := ⟨⟨by decide +kernel, by decide +kernel⟩, List.mem_of_getElem? (i := 53) (by decide +kernel), List.mem_of_getElem? (i := 332) (by decide +kernel), List.mem_of_getElem? (i := 333) (by decide +kernel)⟩
theorem lw_p8 : lw_okq (⟨"ThirdSon$Teller", "number", "(LThirdSon$Tape;II)Z"⟩, 4) := ⟨⟨by decide +kernel, by decide +kernel⟩, List.mem_of_getElem? (i := 53) (by decide +kernel), List.mem_of_getElem? (i := 336) (by decide +kernel), List.mem_of_getElem? (i := 337) (by decide +kernel)⟩
theorem lw_p9 : lw_okq (⟨"ThirdSon$Teller", "stop", "(LThirdSon$Tape;)Z"⟩, 4) := ⟨⟨by decide +kernel, by decide +kernel⟩, List.mem_of_getElem? (i := 53) (by decide +kernel), List.mem_of_getElem? (i := 340) (by decide +kernel), List.mem_of_getElem? (i := 341) (by decide +kernel)⟩
theorem lw_p10 : lw_okq (⟨"ThirdSon$Teller", "tellGone", "(LThirdSon$Tape;LThirdSon$Duchy;)Z"⟩, 4) := ⟨⟨by decide +kernel, by decide +kernel⟩, List.mem_of_getElem? (i := 53) (by decide +kernel), List.mem_of_getElem? (i := 345) (by decide +kernel), List.mem_of_getElem? (i := 346) (by decide +kernel)⟩
theorem lw_p11 : lw_okq (⟨"ThirdSon$Teller", "tellOdds", "(LThirdSon$Tape;LThirdSon$Duchy;)Z"⟩, 4) := ⟨⟨by decide +kernel, by decide +kernel⟩, List.mem_of_getElem? (i := 53) (by decide +kernel), List.mem_of_getElem? (i := 354) (by decide +kernel), List.mem_of_getElem? (i := 355) (by decide +kernel)⟩
theorem lw_p12 : lw_okq (⟨"ThirdSon$Teller", "tellRule", "(LThirdSon$Tape;LThirdSon$Duchy;)Z"⟩, 4) := ⟨⟨by decide +kernel, by decide +kernel⟩, List.mem_of_getElem? (i := 53) (by decide +kernel), List.mem_of_getElem? (i := 362) (by decide +kernel), List.mem_of_getElem? (i := 363) (by decide +kernel)⟩
theorem lw_p13 : lw_okq (⟨"ThirdSon$Teller", "checkWhole", "(LThirdSon$Tape;LThirdSon$Duchy;)V"⟩, 4) := ⟨⟨by decide +kernel, by decide +kernel⟩, List.mem_of_getElem? (i := 53) (by decide +kernel), List.mem_of_getElem? (i := 387) (by decide +kernel), List.mem_of_getElem? (i := 388) (by decide +kernel)⟩
theorem lw_p14 : lw_okq (⟨"ThirdSon", "shortestRow", "(III)I"⟩, 15) := ⟨⟨by decide +kernel, by decide +kernel⟩, List.mem_of_getElem? (i := 14) (by decide +kernel), List.mem_of_getElem? (i := 520) (by decide +kernel), List.mem_of_getElem? (i := 521) (by decide +kernel)⟩
theorem lw_p15 : lw_okq (⟨"ThirdSon", "givingSomewhere", "()I"⟩, 15) := ⟨⟨by decide +kernel, by decide +kernel⟩, List.mem_of_getElem? (i := 14) (by decide +kernel), List.mem_of_getElem? (i := 557) (by decide +kernel), List.mem_of_getElem? (i := 558) (by decide +kernel)⟩
def lw_privs_1 : List (MethodName × Nat) := [(⟨"ThirdSon$Tape", "byteAt", "(I)I"⟩, 6), (⟨"ThirdSon$Tape", "readName", "()V"⟩, 6), (⟨"ThirdSon$Tape", "readNumber", "()V"⟩, 6), (⟨"ThirdSon$Teller", "tellLine", "(LThirdSon$Tape;LThirdSon$Duchy;)Z"⟩, 4), (⟨"ThirdSon$Teller", "tellOne", "(LThirdSon$Tape;LThirdSon$Duchy;)Z"⟩, 4), (⟨"ThirdSon$Teller", "fail", "(II)Z"⟩, 4), (⟨"ThirdSon$Teller", "misplaced", "(LThirdSon$Tape;)Z"⟩, 4), (⟨"ThirdSon$Teller", "tellFact", "(LThirdSon$Tape;LThirdSon$Duchy;)Z"⟩, 4), (⟨"ThirdSon$Teller", "number", "(LThirdSon$Tape;II)Z"⟩, 4), (⟨"ThirdSon$Teller", "stop", "(LThirdSon$Tape;)Z"⟩, 4), (⟨"ThirdSon$Teller", "tellGone", "(LThirdSon$Tape;LThirdSon$Duchy;)Z"⟩, 4), (⟨"ThirdSon$Teller", "tellOdds", "(LThirdSon$Tape;LThirdSon$Duchy;)Z"⟩, 4), (⟨"ThirdSon$Teller", "tellRule", "(LThirdSon$Tape;LThirdSon$Duchy;)Z"⟩, 4), (⟨"ThirdSon$Teller", "checkWhole", "(LThirdSon$Tape;LThirdSon$Duchy;)V"⟩, 4), (⟨"ThirdSon", "shortestRow", "(III)I"⟩, 15), (⟨"ThirdSon", "givingSomewhere", "()I"⟩, 15)]
theorem lw_r1 : ∀ q ∈ lw_privs_1, lw_okq q := List.forall_mem_cons.mpr ⟨lw_p0, List.forall_mem_cons.mpr ⟨lw_p1, List.forall_mem_cons.mpr ⟨lw_p2, List.forall_mem_cons.mpr ⟨lw_p3, List.forall_mem_cons.mpr ⟨lw_p4, List.forall_mem_cons.mpr ⟨lw_p5, List.forall_mem_cons.mpr ⟨lw_p6, List.forall_mem_cons.mpr ⟨lw_p7, List.forall_mem_cons.mpr ⟨lw_p8, List.forall_mem_cons.mpr ⟨lw_p9, List.forall_mem_cons.mpr ⟨lw_p10, List.forall_mem_cons.mpr ⟨lw_p11, List.forall_mem_cons.mpr ⟨lw_p12, List.forall_mem_cons.mpr ⟨lw_p13, List.forall_mem_cons.mpr ⟨lw_p14, List.forall_mem_cons.mpr ⟨lw_p15, fun _ h => absurd h List.not_mem_nil⟩⟩⟩⟩⟩⟩⟩⟩⟩⟩⟩⟩⟩⟩⟩⟩
theorem lw_p16 : lw_okq (⟨"ThirdSon", "givingEverywhere", "()I"⟩, 15) := ⟨⟨by decide +kernel, by decide +kernel⟩, List.mem_of_getElem? (i := 14) (by decide +kernel), List.mem_of_getElem? (i := 569) (by decide +kernel), List.mem_of_getElem? (i := 570) (by decide +kernel)⟩
theorem lw_p17 : lw_okq (⟨"ThirdSon", "rulesAtWork", "(II)I"⟩, 15) := ⟨⟨by decide +kernel, by decide +kernel⟩, List.mem_of_getElem? (i := 14) (by decide +kernel), List.mem_of_getElem? (i := 574) (by decide +kernel), List.mem_of_getElem? (i := 575) (by decide +kernel)⟩
theorem lw_p18 : lw_okq (⟨"ThirdSon", "sameOwnersBy", "(I)Z"⟩, 15) := ⟨⟨by decide +kernel, by decide +kernel⟩, List.mem_of_getElem? (i := 14) (by decide +kernel), List.mem_of_getElem? (i := 588) (by decide +kernel), List.mem_of_getElem? (i := 589) (by decide +kernel)⟩
theorem lw_p19 : lw_okq (⟨"ThirdSon", "waysTo", "(II)J"⟩, 15) := ⟨⟨by decide +kernel, by decide +kernel⟩, List.mem_of_getElem? (i := 14) (by decide +kernel), List.mem_of_getElem? (i := 605) (by decide +kernel), List.mem_of_getElem? (i := 606) (by decide +kernel)⟩
theorem lw_p20 : lw_okq (⟨"ThirdSon", "waysTryingFor", "(IIII)J"⟩, 15) := ⟨⟨by decide +kernel, by decide +kernel⟩, List.mem_of_getElem? (i := 14) (by decide +kernel), List.mem_of_getElem? (i := 623) (by decide +kernel), List.mem_of_getElem? (i := 624) (by decide +kernel)⟩
theorem lw_p21 : lw_okq (⟨"ThirdSon", "waysAtBest", "(III)J"⟩, 15) := ⟨⟨by decide +kernel, by decide +kernel⟩, List.mem_of_getElem? (i := 14) (by decide +kernel), List.mem_of_getElem? (i := 628) (by decide +kernel), List.mem_of_getElem? (i := 629) (by decide +kernel)⟩
theorem lw_p22 : lw_okq (⟨"ThirdSon", "isAsSeen", "(I)Z"⟩, 15) := ⟨⟨by decide +kernel, by decide +kernel⟩, List.mem_of_getElem? (i := 14) (by decide +kernel), List.mem_of_getElem? (i := 647) (by decide +kernel), List.mem_of_getElem? (i := 648) (by decide +kernel)⟩
theorem lw_p23 : lw_okq (⟨"ThirdSon", "image", "(I)LThirdSon$Duchy;"⟩, 15) := ⟨⟨by decide +kernel, by decide +kernel⟩, List.mem_of_getElem? (i := 14) (by decide +kernel), List.mem_of_getElem? (i := 666) (by decide +kernel), List.mem_of_getElem? (i := 667) (by decide +kernel)⟩
theorem lw_p24 : lw_okq (⟨"ThirdSon$Sheets", "isCell", "(II)Z"⟩, 3) := ⟨⟨by decide +kernel, by decide +kernel⟩, List.mem_of_getElem? (i := 74) (by decide +kernel), List.mem_of_getElem? (i := 704) (by decide +kernel), List.mem_of_getElem? (i := 705) (by decide +kernel)⟩
theorem lw_p25 : lw_okq (⟨"ThirdSonModel", "step", "()V"⟩, 34) := ⟨⟨by decide +kernel, by decide +kernel⟩, List.mem_of_getElem? (i := 746) (by decide +kernel), List.mem_of_getElem? (i := 873) (by decide +kernel), List.mem_of_getElem? (i := 874) (by decide +kernel)⟩
theorem lw_p26 : lw_okq (⟨"ThirdSonModel", "byteAt", "(I)I"⟩, 34) := ⟨⟨by decide +kernel, by decide +kernel⟩, List.mem_of_getElem? (i := 746) (by decide +kernel), List.mem_of_getElem? (i := 877) (by decide +kernel), List.mem_of_getElem? (i := 878) (by decide +kernel)⟩
theorem lw_p27 : lw_okq (⟨"ThirdSonModel", "fails", "(I)V"⟩, 34) := ⟨⟨by decide +kernel, by decide +kernel⟩, List.mem_of_getElem? (i := 746) (by decide +kernel), List.mem_of_getElem? (i := 885) (by decide +kernel), List.mem_of_getElem? (i := 886) (by decide +kernel)⟩
theorem lw_p28 : lw_okq (⟨"ThirdSonModel", "readLine", "()V"⟩, 34) := ⟨⟨by decide +kernel, by decide +kernel⟩, List.mem_of_getElem? (i := 746) (by decide +kernel), List.mem_of_getElem? (i := 889) (by decide +kernel), List.mem_of_getElem? (i := 890) (by decide +kernel)⟩
theorem lw_p29 : lw_okq (⟨"ThirdSonModel", "nameHere", "()I"⟩, 34) := ⟨⟨by decide +kernel, by decide +kernel⟩, List.mem_of_getElem? (i := 746) (by decide +kernel), List.mem_of_getElem? (i := 893) (by decide +kernel), List.mem_of_getElem? (i := 894) (by decide +kernel)⟩
theorem lw_p30 : lw_okq (⟨"ThirdSonModel", "readMore", "(I)V"⟩, 34) := ⟨⟨by decide +kernel, by decide +kernel⟩, List.mem_of_getElem? (i := 746) (by decide +kernel), List.mem_of_getElem? (i := 898) (by decide +kernel), List.mem_of_getElem? (i := 899) (by decide +kernel)⟩
theorem lw_p31 : lw_okq (⟨"ThirdSonModel", "other", "(III)I"⟩, 34) := ⟨⟨by decide +kernel, by decide +kernel⟩, List.mem_of_getElem? (i := 746) (by decide +kernel), List.mem_of_getElem? (i := 902) (by decide +kernel), List.mem_of_getElem? (i := 903) (by decide +kernel)⟩
def lw_privs_2 : List (MethodName × Nat) := [(⟨"ThirdSon", "givingEverywhere", "()I"⟩, 15), (⟨"ThirdSon", "rulesAtWork", "(II)I"⟩, 15), (⟨"ThirdSon", "sameOwnersBy", "(I)Z"⟩, 15), (⟨"ThirdSon", "waysTo", "(II)J"⟩, 15), (⟨"ThirdSon", "waysTryingFor", "(IIII)J"⟩, 15), (⟨"ThirdSon", "waysAtBest", "(III)J"⟩, 15), (⟨"ThirdSon", "isAsSeen", "(I)Z"⟩, 15), (⟨"ThirdSon", "image", "(I)LThirdSon$Duchy;"⟩, 15), (⟨"ThirdSon$Sheets", "isCell", "(II)Z"⟩, 3), (⟨"ThirdSonModel", "step", "()V"⟩, 34), (⟨"ThirdSonModel", "byteAt", "(I)I"⟩, 34), (⟨"ThirdSonModel", "fails", "(I)V"⟩, 34), (⟨"ThirdSonModel", "readLine", "()V"⟩, 34), (⟨"ThirdSonModel", "nameHere", "()I"⟩, 34), (⟨"ThirdSonModel", "readMore", "(I)V"⟩, 34), (⟨"ThirdSonModel", "other", "(III)I"⟩, 34)]
theorem lw_r2 : ∀ q ∈ lw_privs_2, lw_okq q := List.forall_mem_cons.mpr ⟨lw_p16, List.forall_mem_cons.mpr ⟨lw_p17, List.forall_mem_cons.mpr ⟨lw_p18, List.forall_mem_cons.mpr ⟨lw_p19, List.forall_mem_cons.mpr ⟨lw_p20, List.forall_mem_cons.mpr ⟨lw_p21, List.forall_mem_cons.mpr ⟨lw_p22, List.forall_mem_cons.mpr ⟨lw_p23, List.forall_mem_cons.mpr ⟨lw_p24, List.forall_mem_cons.mpr ⟨lw_p25, List.forall_mem_cons.mpr ⟨lw_p26, List.forall_mem_cons.mpr ⟨lw_p27, List.forall_mem_cons.mpr ⟨lw_p28, List.forall_mem_cons.mpr ⟨lw_p29, List.forall_mem_cons.mpr ⟨lw_p30, List.forall_mem_cons.mpr ⟨lw_p31, fun _ h => absurd h List.not_mem_nil⟩⟩⟩⟩⟩⟩⟩⟩⟩⟩⟩⟩⟩⟩⟩⟩
theorem lw_p32 : lw_okq (⟨"ThirdSonModel", "person", "(I)I"⟩, 34) := ⟨⟨by decide +kernel, by decide +kernel⟩, List.mem_of_getElem? (i := 746) (by decide +kernel), List.mem_of_getElem? (i := 906) (by decide +kernel), List.mem_of_getElem? (i := 907) (by decide +kernel)⟩
theorem lw_p33 : lw_okq (⟨"ThirdSonModel", "readRule", "()V"⟩, 34) := ⟨⟨by decide +kernel, by decide +kernel⟩, List.mem_of_getElem? (i := 746) (by decide +kernel), List.mem_of_getElem? (i := 910) (by decide +kernel), List.mem_of_getElem? (i := 911) (by decide +kernel)⟩
theorem lw_p34 : lw_okq (⟨"ThirdSonModel", "claimHere", "()I"⟩, 34) := ⟨⟨by decide +kernel, by decide +kernel⟩, List.mem_of_getElem? (i := 746) (by decide +kernel), List.mem_of_getElem? (i := 914) (by decide +kernel), List.mem_of_getElem? (i := 915) (by decide +kernel)⟩
theorem lw_p35 : lw_okq (⟨"ThirdSonModel", "areAlike", "()Z"⟩, 34) := ⟨⟨by decide +kernel, by decide +kernel⟩, List.mem_of_getElem? (i := 746) (by decide +kernel), List.mem_of_getElem? (i := 920) (by decide +kernel), List.mem_of_getElem? (i := 921) (by decide +kernel)⟩
theorem lw_p36 : lw_okq (⟨"ThirdSonModel", "isOne", "(I)Z"⟩, 34) := ⟨⟨by decide +kernel, by decide +kernel⟩, List.mem_of_getElem? (i := 746) (by decide +kernel), List.mem_of_getElem? (i := 936) (by decide +kernel), List.mem_of_getElem? (i := 937) (by decide +kernel)⟩
theorem lw_p37 : lw_okq (⟨"ThirdSonModel", "bornAs", "(II)I"⟩, 34) := ⟨⟨by decide +kernel, by decide +kernel⟩, List.mem_of_getElem? (i := 746) (by decide +kernel), List.mem_of_getElem? (i := 941) (by decide +kernel), List.mem_of_getElem? (i := 942) (by decide +kernel)⟩
theorem lw_p38 : lw_okq (⟨"ThirdSonModel", "childrenOf", "(II)I"⟩, 34) := ⟨⟨by decide +kernel, by decide +kernel⟩, List.mem_of_getElem? (i := 746) (by decide +kernel), List.mem_of_getElem? (i := 948) (by decide +kernel), List.mem_of_getElem? (i := 949) (by decide +kernel)⟩
theorem lw_p39 : lw_okq (⟨"ThirdSonModel", "isRule", "(I)Z"⟩, 34) := ⟨⟨by decide +kernel, by decide +kernel⟩, List.mem_of_getElem? (i := 746) (by decide +kernel), List.mem_of_getElem? (i := 963) (by decide +kernel), List.mem_of_getElem? (i := 964) (by decide +kernel)⟩
theorem lw_p40 : lw_okq (⟨"ThirdSonModel", "whoMeet", "(II)I"⟩, 34) := ⟨⟨by decide +kernel, by decide +kernel⟩, List.mem_of_getElem? (i := 746) (by decide +kernel), List.mem_of_getElem? (i := 968) (by decide +kernel), List.mem_of_getElem? (i := 969) (by decide +kernel)⟩
theorem lw_p41 : lw_okq (⟨"ThirdSonModel", "meets", "(III)Z"⟩, 34) := ⟨⟨by decide +kernel, by decide +kernel⟩, List.mem_of_getElem? (i := 746) (by decide +kernel), List.mem_of_getElem? (i := 972) (by decide +kernel), List.mem_of_getElem? (i := 973) (by decide +kernel)⟩
theorem lw_p42 : lw_okq (⟨"ThirdSonModel", "isAbove", "(II)Z"⟩, 34) := ⟨⟨by decide +kernel, by decide +kernel⟩, List.mem_of_getElem? (i := 746) (by decide +kernel), List.mem_of_getElem? (i := 976) (by decide +kernel), List.mem_of_getElem? (i := 977) (by decide +kernel)⟩
theorem lw_p43 : lw_okq (⟨"ThirdSonModel", "gives", "(II)I"⟩, 34) := ⟨⟨by decide +kernel, by decide +kernel⟩, List.mem_of_getElem? (i := 746) (by decide +kernel), List.mem_of_getElem? (i := 980) (by decide +kernel), List.mem_of_getElem? (i := 981) (by decide +kernel)⟩
theorem lw_p44 : lw_okq (⟨"ThirdSonModel", "givesBy", "(III)I"⟩, 34) := ⟨⟨by decide +kernel, by decide +kernel⟩, List.mem_of_getElem? (i := 746) (by decide +kernel), List.mem_of_getElem? (i := 984) (by decide +kernel), List.mem_of_getElem? (i := 985) (by decide +kernel)⟩
theorem lw_p45 : lw_okq (⟨"ThirdSonModel", "ownerIn", "(II)I"⟩, 34) := ⟨⟨by decide +kernel, by decide +kernel⟩, List.mem_of_getElem? (i := 746) (by decide +kernel), List.mem_of_getElem? (i := 996) (by decide +kernel), List.mem_of_getElem? (i := 997) (by decide +kernel)⟩
theorem lw_p46 : lw_okq (⟨"ThirdSonModel", "ownerBy", "(III)I"⟩, 34) := ⟨⟨by decide +kernel, by decide +kernel⟩, List.mem_of_getElem? (i := 746) (by decide +kernel), List.mem_of_getElem? (i := 1000) (by decide +kernel), List.mem_of_getElem? (i := 1001) (by decide +kernel)⟩
theorem lw_p47 : lw_okq (⟨"ThirdSonModel", "ruleBy", "(IIII)I"⟩, 34) := ⟨⟨by decide +kernel, by decide +kernel⟩, List.mem_of_getElem? (i := 746) (by decide +kernel), List.mem_of_getElem? (i := 1004) (by decide +kernel), List.mem_of_getElem? (i := 1005) (by decide +kernel)⟩
def lw_privs_3 : List (MethodName × Nat) := [(⟨"ThirdSonModel", "person", "(I)I"⟩, 34), (⟨"ThirdSonModel", "readRule", "()V"⟩, 34), (⟨"ThirdSonModel", "claimHere", "()I"⟩, 34), (⟨"ThirdSonModel", "areAlike", "()Z"⟩, 34), (⟨"ThirdSonModel", "isOne", "(I)Z"⟩, 34), (⟨"ThirdSonModel", "bornAs", "(II)I"⟩, 34), (⟨"ThirdSonModel", "childrenOf", "(II)I"⟩, 34), (⟨"ThirdSonModel", "isRule", "(I)Z"⟩, 34), (⟨"ThirdSonModel", "whoMeet", "(II)I"⟩, 34), (⟨"ThirdSonModel", "meets", "(III)Z"⟩, 34), (⟨"ThirdSonModel", "isAbove", "(II)Z"⟩, 34), (⟨"ThirdSonModel", "gives", "(II)I"⟩, 34), (⟨"ThirdSonModel", "givesBy", "(III)I"⟩, 34), (⟨"ThirdSonModel", "ownerIn", "(II)I"⟩, 34), (⟨"ThirdSonModel", "ownerBy", "(III)I"⟩, 34), (⟨"ThirdSonModel", "ruleBy", "(IIII)I"⟩, 34)]
theorem lw_r3 : ∀ q ∈ lw_privs_3, lw_okq q := List.forall_mem_cons.mpr ⟨lw_p32, List.forall_mem_cons.mpr ⟨lw_p33, List.forall_mem_cons.mpr ⟨lw_p34, List.forall_mem_cons.mpr ⟨lw_p35, List.forall_mem_cons.mpr ⟨lw_p36, List.forall_mem_cons.mpr ⟨lw_p37, List.forall_mem_cons.mpr ⟨lw_p38, List.forall_mem_cons.mpr ⟨lw_p39, List.forall_mem_cons.mpr ⟨lw_p40, List.forall_mem_cons.mpr ⟨lw_p41, List.forall_mem_cons.mpr ⟨lw_p42, List.forall_mem_cons.mpr ⟨lw_p43, List.forall_mem_cons.mpr ⟨lw_p44, List.forall_mem_cons.mpr ⟨lw_p45, List.forall_mem_cons.mpr ⟨lw_p46, List.forall_mem_cons.mpr ⟨lw_p47, fun _ h => absurd h List.not_mem_nil⟩⟩⟩⟩⟩⟩⟩⟩⟩⟩⟩⟩⟩⟩⟩⟩
theorem lw_p48 : lw_okq (⟨"ThirdSonModel", "done", "(I)I"⟩, 34) := ⟨⟨by decide +kernel, by decide +kernel⟩, List.mem_of_getElem? (i := 746) (by decide +kernel), List.mem_of_getElem? (i := 1016) (by decide +kernel), List.mem_of_getElem? (i := 1017) (by decide +kernel)⟩
theorem lw_p49 : lw_okq (⟨"ThirdSonModel", "isDeed", "(I)Z"⟩, 34) := ⟨⟨by decide +kernel, by decide +kernel⟩, List.mem_of_getElem? (i := 746) (by decide +kernel), List.mem_of_getElem? (i := 1020) (by decide +kernel), List.mem_of_getElem? (i := 1021) (by decide +kernel)⟩
theorem lw_p50 : lw_okq (⟨"ThirdSonModel", "canDo", "(I)Z"⟩, 34) := ⟨⟨by decide +kernel, by decide +kernel⟩, List.mem_of_getElem? (i := 746) (by decide +kernel), List.mem_of_getElem? (i := 1024) (by decide +kernel), List.mem_of_getElem? (i := 1025) (by decide +kernel)⟩
theorem lw_p51 : lw_okq (⟨"ThirdSonModel", "doesIt", "(I)V"⟩, 34) := ⟨⟨by decide +kernel, by decide +kernel⟩, List.mem_of_getElem? (i := 746) (by decide +kernel), List.mem_of_getElem? (i := 1028) (by decide +kernel), List.mem_of_getElem? (i := 1029) (by decide +kernel)⟩
theorem lw_p52 : lw_okq (⟨"ThirdSonModel", "sets", "(ZII)I"⟩, 34) := ⟨⟨by decide +kernel, by decide +kernel⟩, List.mem_of_getElem? (i := 746) (by decide +kernel), List.mem_of_getElem? (i := 1040) (by decide +kernel), List.mem_of_getElem? (i := 1041) (by decide +kernel)⟩
theorem lw_p53 : lw_okq (⟨"ThirdSonModel", "isHisBy", "(IIII)Z"⟩, 34) := ⟨⟨by decide +kernel, by decide +kernel⟩, List.mem_of_getElem? (i := 746) (by decide +kernel), List.mem_of_getElem? (i := 1066) (by decide +kernel), List.mem_of_getElem? (i := 1067) (by decide +kernel)⟩
theorem lw_p54 : lw_okq (⟨"ThirdSonModel", "copies", "(II)V"⟩, 34) := ⟨⟨by decide +kernel, by decide +kernel⟩, List.mem_of_getElem? (i := 746) (by decide +kernel), List.mem_of_getElem? (i := 1070) (by decide +kernel), List.mem_of_getElem? (i := 1071) (by decide +kernel)⟩
theorem lw_p55 : lw_okq (⟨"ThirdSonModel", "cases", "()I"⟩, 34) := ⟨⟨by decide +kernel, by decide +kernel⟩, List.mem_of_getElem? (i := 746) (by decide +kernel), List.mem_of_getElem? (i := 1086) (by decide +kernel), List.mem_of_getElem? (i := 1087) (by decide +kernel)⟩
theorem lw_p56 : lw_okq (⟨"ThirdSonModel", "isEnough", "(I)Z"⟩, 34) := ⟨⟨by decide +kernel, by decide +kernel⟩, List.mem_of_getElem? (i := 746) (by decide +kernel), List.mem_of_getElem? (i := 1097) (by decide +kernel), List.mem_of_getElem? (i := 1098) (by decide +kernel)⟩
theorem lw_p57 : lw_okq (⟨"ThirdSonModel", "layValues", "(III)V"⟩, 34) := ⟨⟨by decide +kernel, by decide +kernel⟩, List.mem_of_getElem? (i := 746) (by decide +kernel), List.mem_of_getElem? (i := 1125) (by decide +kernel), List.mem_of_getElem? (i := 1126) (by decide +kernel)⟩
theorem lw_p58 : lw_okq (⟨"ThirdSonModel", "stops", "(IIII)J"⟩, 34) := ⟨⟨by decide +kernel, by decide +kernel⟩, List.mem_of_getElem? (i := 746) (by decide +kernel), List.mem_of_getElem? (i := 1129) (by decide +kernel), List.mem_of_getElem? (i := 1130) (by decide +kernel)⟩
theorem lw_p59 : lw_okq (⟨"ThirdSonModel", "triesFor", "(III)J"⟩, 34) := ⟨⟨by decide +kernel, by decide +kernel⟩, List.mem_of_getElem? (i := 746) (by decide +kernel), List.mem_of_getElem? (i := 1138) (by decide +kernel), List.mem_of_getElem? (i := 1139) (by decide +kernel)⟩
def lw_privs_4 : List (MethodName × Nat) := [(⟨"ThirdSonModel", "done", "(I)I"⟩, 34), (⟨"ThirdSonModel", "isDeed", "(I)Z"⟩, 34), (⟨"ThirdSonModel", "canDo", "(I)Z"⟩, 34), (⟨"ThirdSonModel", "doesIt", "(I)V"⟩, 34), (⟨"ThirdSonModel", "sets", "(ZII)I"⟩, 34), (⟨"ThirdSonModel", "isHisBy", "(IIII)Z"⟩, 34), (⟨"ThirdSonModel", "copies", "(II)V"⟩, 34), (⟨"ThirdSonModel", "cases", "()I"⟩, 34), (⟨"ThirdSonModel", "isEnough", "(I)Z"⟩, 34), (⟨"ThirdSonModel", "layValues", "(III)V"⟩, 34), (⟨"ThirdSonModel", "stops", "(IIII)J"⟩, 34), (⟨"ThirdSonModel", "triesFor", "(III)J"⟩, 34)]
theorem lw_r4 : ∀ q ∈ lw_privs_4, lw_okq q := List.forall_mem_cons.mpr ⟨lw_p48, List.forall_mem_cons.mpr ⟨lw_p49, List.forall_mem_cons.mpr ⟨lw_p50, List.forall_mem_cons.mpr ⟨lw_p51, List.forall_mem_cons.mpr ⟨lw_p52, List.forall_mem_cons.mpr ⟨lw_p53, List.forall_mem_cons.mpr ⟨lw_p54, List.forall_mem_cons.mpr ⟨lw_p55, List.forall_mem_cons.mpr ⟨lw_p56, List.forall_mem_cons.mpr ⟨lw_p57, List.forall_mem_cons.mpr ⟨lw_p58, List.forall_mem_cons.mpr ⟨lw_p59, fun _ h => absurd h List.not_mem_nil⟩⟩⟩⟩⟩⟩⟩⟩⟩⟩⟩⟩
def lw_privs : List (MethodName × Nat) := lw_privs_1 ++ (lw_privs_2 ++ (lw_privs_3 ++ (lw_privs_4)))
def lw_tbl : List Cond := k2_sels lw_privs ++ tables_1
theorem lw_privs_ok : ∀ q ∈ lw_privs, lw_okq q := by
  show ∀ q ∈ lw_privs_1 ++ (lw_privs_2 ++ (lw_privs_3 ++ (lw_privs_4))), lw_okq q
  exact List.forall_mem_append.mpr ⟨lw_r1, List.forall_mem_append.mpr ⟨lw_r2, List.forall_mem_append.mpr ⟨lw_r3, lw_r4⟩⟩⟩
end
section
def RX0 : String := "ThirdSon$Duchy"
def TX0 : u_T := fun k => match k with
  | 0 => ("ThirdSon$Duchy", "people", "I", false)
  | 1 => ("ThirdSon$Duchy", "gone", "I", false)
  | 2 => ("ThirdSon$Duchy", "rules", "I", false)
  | 3 => ("ThirdSon$Duchy", "parents", "[I", true)
  | 4 => ("ThirdSon$Duchy", "ancestors", "[I", true)
  | 5 => ("ThirdSon$Duchy", "facts", "[I", true)
  | 6 => ("ThirdSon$Duchy", "tries", "[I", true)
  | 7 => ("ThirdSon$Duchy", "odds", "[I", true)
  | 8 => ("ThirdSon$Duchy", "ranks", "[I", true)
  | 9 => ("ThirdSon$Duchy", "things", "[I", true)
  | 10 => ("ThirdSon$Duchy", "claims", "[I", true)
  | 11 => ("ThirdSon$Duchy", "numbers", "[I", true)
  | _ => ("ThirdSon$Duchy", "picks", "[I", true)
def tyX0 : Nat → FieldType := fun k => match k with
  | 0 => .int
  | 1 => .int
  | 2 => .int
  | 3 => .array .int
  | 4 => .array .int
  | 5 => .array .int
  | 6 => .array .int
  | 7 => .array .int
  | 8 => .array .int
  | 9 => .array .int
  | 10 => .array .int
  | 11 => .array .int
  | _ => .array .int
abbrev wsX00 : List Cond := u_ws RX0 TX0 13
theorem nmX0 : ∀ a, a < 13 → ∀ b, b < 13 → a ≠ b → (TX0 a).2.1 ≠ (TX0 b).2.1 := by decide +kernel
theorem tyX0_ok : ∀ k, k < 13 → parseFieldDescriptor (TX0 k).2.2.1 = some (tyX0 k) := by decide +kernel
def RX1 : String := "ThirdSon$Sheets"
def TX1 : u_T := fun k => match k with
  | 0 => ("ThirdSon$Sheets", "cells", "[[I", true)
  | 1 => ("ThirdSon$Sheets", "lanes", "[I", true)
  | _ => ("ThirdSon$Sheets", "sizes", "[I", true)
def tyX1 : Nat → FieldType := fun k => match k with
  | 0 => .array (.array .int)
  | 1 => .array .int
  | _ => .array .int
abbrev wsX10 : List Cond := u_ws RX1 TX1 3
theorem nmX1 : ∀ a, a < 3 → ∀ b, b < 3 → a ≠ b → (TX1 a).2.1 ≠ (TX1 b).2.1 := by decide +kernel
theorem tyX1_ok : ∀ k, k < 3 → parseFieldDescriptor (TX1 k).2.2.1 = some (tyX1 k) := by decide +kernel
def RX2 : String := "ThirdSon$Tape"
def TX2 : u_T := fun k => match k with
  | 0 => ("ThirdSon$Tape", "bytes", "[B", true)
  | 1 => ("ThirdSon$Tape", "length", "I", false)
  | 2 => ("ThirdSon$Tape", "kind", "I", false)
  | 3 => ("ThirdSon$Tape", "start", "I", false)
  | 4 => ("ThirdSon$Tape", "value", "I", false)
  | _ => ("ThirdSon$Tape", "at", "I", false)
def tyX2 : Nat → FieldType := fun k => match k with
  | 0 => .array .byte
  | 1 => .int
  | 2 => .int
  | 3 => .int
  | 4 => .int
  | _ => .int
abbrev wsX20 : List Cond := u_ws RX2 TX2 6
theorem nmX2 : ∀ a, a < 6 → ∀ b, b < 6 → a ≠ b → (TX2 a).2.1 ≠ (TX2 b).2.1 := by decide +kernel
theorem tyX2_ok : ∀ k, k < 6 → parseFieldDescriptor (TX2 k).2.2.1 = some (tyX2 k) := by decide +kernel
def RX3 : String := "ThirdSon$Teller"
def TX3 : u_T := fun k => match k with
  | 0 => ("ThirdSon$Teller", "fault", "I", false)
  | 1 => ("ThirdSon$Teller", "place", "I", false)
  | 2 => ("ThirdSon$Teller", "named", "I", false)
  | _ => ("ThirdSon$Teller", "weighed", "I", false)
def tyX3 : Nat → FieldType := fun k => match k with
  | 0 => .int
  | 1 => .int
  | 2 => .int
  | _ => .int
abbrev wsX30 : List Cond := u_ws RX3 TX3 4
theorem nmX3 : ∀ a, a < 4 → ∀ b, b < 4 → a ≠ b → (TX3 a).2.1 ≠ (TX3 b).2.1 := by decide +kernel
theorem tyX3_ok : ∀ k, k < 4 → parseFieldDescriptor (TX3 k).2.2.1 = some (tyX3 k) := by decide +kernel
def RX4 : String := "ThirdSon"
def TX4 : u_T := fun k => match k with
  | 0 => ("ThirdSon", "tape", "LThirdSon$Tape;", true)
  | 1 => ("ThirdSon", "teller", "LThirdSon$Teller;", true)
  | 2 => ("ThirdSon", "sheets", "LThirdSon$Sheets;", true)
  | 3 => ("ThirdSon", "firstImage", "LThirdSon$Duchy;", true)
  | 4 => ("ThirdSon", "secondImage", "LThirdSon$Duchy;", true)
  | 5 => ("ThirdSon", "trial", "LThirdSon$Duchy;", true)
  | 6 => ("ThirdSon", "row", "[I", true)
  | 7 => ("ThirdSon", "seenThings", "[I", true)
  | 8 => ("ThirdSon", "seenOwners", "[I", true)
  | 9 => ("ThirdSon", "duchy", "LThirdSon$Duchy;", false)
  | 10 => ("ThirdSon", "draft", "LThirdSon$Duchy;", false)
  | 11 => ("ThirdSon", "textFault", "I", false)
  | 12 => ("ThirdSon", "readFault", "I", false)
  | 13 => ("ThirdSon", "seen", "I", false)
  | _ => ("ThirdSon", "kept", "I", false)
def tyX4 : Nat → FieldType := fun k => match k with
  | 0 => .object "ThirdSon$Tape"
  | 1 => .object "ThirdSon$Teller"
  | 2 => .object "ThirdSon$Sheets"
  | 3 => .object "ThirdSon$Duchy"
  | 4 => .object "ThirdSon$Duchy"
  | 5 => .object "ThirdSon$Duchy"
  | 6 => .array .int
  | 7 => .array .int
  | 8 => .array .int
  | 9 => .object "ThirdSon$Duchy"
  | 10 => .object "ThirdSon$Duchy"
  | 11 => .int
  | 12 => .int
  | 13 => .int
  | _ => .int
abbrev wsX40 : List Cond := u_ws RX4 TX4 15
theorem nmX4 : ∀ a, a < 15 → ∀ b, b < 15 → a ≠ b → (TX4 a).2.1 ≠ (TX4 b).2.1 := by decide +kernel
theorem tyX4_ok : ∀ k, k < 15 → parseFieldDescriptor (TX4 k).2.2.1 = some (tyX4 k) := by decide +kernel
def RX5 : String := "ThirdSonModel"
def TX5 : u_T := fun k => match k with
  | 0 => ("ThirdSonModel", "state", "[I", true)
  | 1 => ("ThirdSonModel", "parents", "[I", true)
  | 2 => ("ThirdSonModel", "rules", "[I", true)
  | 3 => ("ThirdSonModel", "oneMany", "I", false)
  | 4 => ("ThirdSonModel", "ruleMany", "I", false)
  | 5 => ("ThirdSonModel", "readPage", "[I", true)
  | 6 => ("ThirdSonModel", "readParents", "[I", true)
  | 7 => ("ThirdSonModel", "readRules", "[I", true)
  | 8 => ("ThirdSonModel", "readOnes", "I", false)
  | 9 => ("ThirdSonModel", "readMany", "I", false)
  | 10 => ("ThirdSonModel", "oddsTold", "I", false)
  | 11 => ("ThirdSonModel", "highOne", "I", false)
  | 12 => ("ThirdSonModel", "tape", "[I", true)
  | 13 => ("ThirdSonModel", "taped", "I", false)
  | 14 => ("ThirdSonModel", "fault", "I", false)
  | 15 => ("ThirdSonModel", "broken", "I", false)
  | 16 => ("ThirdSonModel", "brokenAt", "I", false)
  | 17 => ("ThirdSonModel", "spot", "I", false)
  | 18 => ("ThirdSonModel", "here", "I", false)
  | 19 => ("ThirdSonModel", "token", "I", false)
  | 20 => ("ThirdSonModel", "value", "I", false)
  | 21 => ("ThirdSonModel", "cuts", "[I", true)
  | 22 => ("ThirdSonModel", "letters", "[I", true)
  | 23 => ("ThirdSonModel", "mosts", "[I", true)
  | 24 => ("ThirdSonModel", "row", "[I", true)
  | 25 => ("ThirdSonModel", "block", "I", false)
  | 26 => ("ThirdSonModel", "values", "[J", true)
  | 27 => ("ThirdSonModel", "seen", "[I", true)
  | 28 => ("ThirdSonModel", "seenMany", "I", false)
  | 29 => ("ThirdSonModel", "isKept", "[Z", true)
  | 30 => ("ThirdSonModel", "lanes", "[I", true)
  | 31 => ("ThirdSonModel", "lengths", "[I", true)
  | 32 => ("ThirdSonModel", "cells", "[I", true)
  | _ => ("ThirdSonModel", "torn", "I", false)
def tyX5 : Nat → FieldType := fun k => match k with
  | 0 => .array .int
  | 1 => .array .int
  | 2 => .array .int
  | 3 => .int
  | 4 => .int
  | 5 => .array .int
  | 6 => .array .int
  | 7 => .array .int
  | 8 => .int
  | 9 => .int
  | 10 => .int
  | 11 => .int
  | 12 => .array .int
  | 13 => .int
  | 14 => .int
  | 15 => .int
  | 16 => .int
  | 17 => .int
  | 18 => .int
  | 19 => .int
  | 20 => .int
  | 21 => .array .int
  | 22 => .array .int
  | 23 => .array .int
  | 24 => .array .int
  | 25 => .int
  | 26 => .array .long
  | 27 => .array .int
  | 28 => .int
  | 29 => .array .boolean
  | 30 => .array .int
  | 31 => .array .int
  | 32 => .array .int
  | _ => .int
abbrev wsX50 : List Cond := u_ws RX5 TX5 34
theorem nmX5 : ∀ a, a < 34 → ∀ b, b < 34 → a ≠ b → (TX5 a).2.1 ≠ (TX5 b).2.1 := by decide +kernel
theorem tyX5_ok : ∀ k, k < 34 → parseFieldDescriptor (TX5 k).2.2.1 = some (tyX5 k) := by decide +kernel
def RJ6 : String := "java/lang/Integer"
def RJ9 : String := "java/lang/Math"
def RJ0 : String := "java/lang/String"
def RJ1 : String := "java/lang/StringLatin1"
def RJ2 : String := "java/lang/StringUTF16"
def RJ3 : String := "jdk/internal/util/Preconditions"
def RL : String := "ThirdSonLaw"
abbrev zq_M : Type := MethodName × ByteArray × Nat × Option FieldType
def zm_D_init : zq_M := (⟨"ThirdSon$Duchy", "<init>", "()V"⟩, prog_2_method_1_code, 1, none)
def zm_D_clear : zq_M := (⟨"ThirdSon$Duchy", "clear", "()V"⟩, prog_2_method_2_code, 2, none)
def zm_D_copyFrom : zq_M := (⟨"ThirdSon$Duchy", "copyFrom", "(LThirdSon$Duchy;)V"⟩, prog_2_method_3_code, 3, none)
def zm_D_addOne : zq_M := (⟨"ThirdSon$Duchy", "addOne", "(I)V"⟩, prog_2_method_4_code, 2, none)
def zm_D_addRule : zq_M := (⟨"ThirdSon$Duchy", "addRule", "(IIIII)V"⟩, prog_2_method_5_code, 6, none)
def zm_D_isOne : zq_M := (⟨"ThirdSon$Duchy", "isOne", "(I)Z"⟩, prog_2_method_6_code, 2, some .boolean)
def zm_D_isRule : zq_M := (⟨"ThirdSon$Duchy", "isRule", "(I)Z"⟩, prog_2_method_7_code, 2, some .boolean)
def zm_D_isGone : zq_M := (⟨"ThirdSon$Duchy", "isGone", "(I)Z"⟩, prog_2_method_8_code, 2, some .boolean)
def zm_D_isKnown : zq_M := (⟨"ThirdSon$Duchy", "isKnown", "(II)Z"⟩, prog_2_method_9_code, 3, some .boolean)
def zm_D_everybody : zq_M := (⟨"ThirdSon$Duchy", "everybody", "()I"⟩, prog_2_method_10_code, 1, some .int)
def zm_D_allRules : zq_M := (⟨"ThirdSon$Duchy", "allRules", "()I"⟩, prog_2_method_11_code, 1, some .int)
def zm_D_cases : zq_M := (⟨"ThirdSon$Duchy", "cases", "()I"⟩, prog_2_method_12_code, 1, some .int)
def zm_D_placeAmongBorn : zq_M := (⟨"ThirdSon$Duchy", "placeAmongBorn", "(II)I"⟩, prog_2_method_13_code, 5, some .int)
def zm_D_childrenLeft : zq_M := (⟨"ThirdSon$Duchy", "childrenLeft", "(II)I"⟩, prog_2_method_14_code, 5, some .int)
def zm_D_meets : zq_M := (⟨"ThirdSon$Duchy", "meets", "(III)Z"⟩, prog_2_method_15_code, 5, some .boolean)
def zm_D_whoMeet : zq_M := (⟨"ThirdSon$Duchy", "whoMeet", "(II)I"⟩, prog_2_method_16_code, 5, some .int)
def zm_D_receiver : zq_M := (⟨"ThirdSon$Duchy", "receiver", "(II)I"⟩, prog_2_method_17_code, 6, some .int)
def zm_D_rightOn : zq_M := (⟨"ThirdSon$Duchy", "rightOn", "(III)I"⟩, prog_2_method_18_code, 7, some .int)
def zm_D_ownerIn : zq_M := (⟨"ThirdSon$Duchy", "ownerIn", "(III)I"⟩, prog_2_method_19_code, 4, some .int)
def zm_D_ownerNow : zq_M := (⟨"ThirdSon$Duchy", "ownerNow", "(I)I"⟩, prog_2_method_20_code, 2, some .int)
def zm_D_thingsOf : zq_M := (⟨"ThirdSon$Duchy", "thingsOf", "(I)I"⟩, prog_2_method_21_code, 4, some .int)
def zm_D_givingRules : zq_M := (⟨"ThirdSon$Duchy", "givingRules", "(I)I"⟩, prog_2_method_22_code, 4, some .int)
def zm_D_act : zq_M := (⟨"ThirdSon$Duchy", "act", "(I)I"⟩, prog_2_method_23_code, 4, some .int)
def zm_D_takeBack : zq_M := (⟨"ThirdSon$Duchy", "takeBack", "(I)V"⟩, prog_2_method_24_code, 4, none)
def zm_D_hasEqualRanks : zq_M := (⟨"ThirdSon$Duchy", "hasEqualRanks", "()Z"⟩, prog_2_method_25_code, 3, some .boolean)
def zm_D_ownedThings : zq_M := (⟨"ThirdSon$Duchy", "ownedThings", "()I"⟩, prog_2_method_26_code, 3, some .int)
def zm_D_knownFacts : zq_M := (⟨"ThirdSon$Duchy", "knownFacts", "()I"⟩, prog_2_method_27_code, 3, some .int)
def zm_D_allTries : zq_M := (⟨"ThirdSon$Duchy", "allTries", "()I"⟩, prog_2_method_28_code, 3, some .int)
def zm_H_init : zq_M := (⟨"ThirdSon$Sheets", "<init>", "()V"⟩, prog_3_method_1_code, 1, none)
def zm_H_isSheet : zq_M := (⟨"ThirdSon$Sheets", "isSheet", "(I)Z"⟩, prog_3_method_2_code, 2, some .boolean)
def zm_H_isLane : zq_M := (⟨"ThirdSon$Sheets", "isLane", "(I)Z"⟩, prog_3_method_3_code, 2, some .boolean)
def zm_H_laneOf : zq_M := (⟨"ThirdSon$Sheets", "laneOf", "(I)I"⟩, prog_3_method_4_code, 2, some .int)
def zm_H_sizeOf : zq_M := (⟨"ThirdSon$Sheets", "sizeOf", "(I)I"⟩, prog_3_method_5_code, 2, some .int)
def zm_H_renew : zq_M := (⟨"ThirdSon$Sheets", "renew", "(III)V"⟩, prog_3_method_6_code, 5, none)
def zm_H_faultAt : zq_M := (⟨"ThirdSon$Sheets", "faultAt", "(III)I"⟩, prog_3_method_7_code, 4, some .int)
def zm_H_put : zq_M := (⟨"ThirdSon$Sheets", "put", "(III)V"⟩, prog_3_method_8_code, 4, none)
def zm_H_cell : zq_M := (⟨"ThirdSon$Sheets", "cell", "(II)I"⟩, prog_3_method_9_code, 3, some .int)
def zm_H_isCell : zq_M := (⟨"ThirdSon$Sheets", "isCell", "(II)Z"⟩, prog_3_method_10_code, 3, some .boolean)
def zm_P_init : zq_M := (⟨"ThirdSon$Tape", "<init>", "()V"⟩, prog_4_method_1_code, 1, none)
def zm_P_append : zq_M := (⟨"ThirdSon$Tape", "append", "(I)Z"⟩, prog_4_method_2_code, 2, some .boolean)
def zm_P_rewind : zq_M := (⟨"ThirdSon$Tape", "rewind", "()V"⟩, prog_4_method_3_code, 1, none)
def zm_P_advance : zq_M := (⟨"ThirdSon$Tape", "advance", "()V"⟩, prog_4_method_4_code, 2, none)
def zm_P_isWord : zq_M := (⟨"ThirdSon$Tape", "isWord", "(Ljava/lang/String;)Z"⟩, prog_4_method_5_code, 3, some .boolean)
def zm_P_readName : zq_M := (⟨"ThirdSon$Tape", "readName", "()V"⟩, prog_4_method_6_code, 1, none)
def zm_P_readNumber : zq_M := (⟨"ThirdSon$Tape", "readNumber", "()V"⟩, prog_4_method_7_code, 1, none)
def zm_P_byteAt : zq_M := (⟨"ThirdSon$Tape", "byteAt", "(I)I"⟩, prog_4_method_8_code, 2, some .int)
def zm_P_isLetter : zq_M := (⟨"ThirdSon$Tape", "isLetter", "(I)Z"⟩, prog_4_method_9_code, 1, some .boolean)
def zm_P_isFigure : zq_M := (⟨"ThirdSon$Tape", "isFigure", "(I)Z"⟩, prog_4_method_10_code, 1, some .boolean)
def zm_E_init : zq_M := (⟨"ThirdSon$Teller", "<init>", "()V"⟩, prog_5_method_1_code, 1, none)
def zm_E_tell : zq_M := (⟨"ThirdSon$Teller", "tell", "(LThirdSon$Tape;LThirdSon$Duchy;)I"⟩, prog_5_method_2_code, 4, some .int)
def zm_E_checkWhole : zq_M := (⟨"ThirdSon$Teller", "checkWhole", "(LThirdSon$Tape;LThirdSon$Duchy;)V"⟩, prog_5_method_3_code, 3, none)
def zm_E_tellLine : zq_M := (⟨"ThirdSon$Teller", "tellLine", "(LThirdSon$Tape;LThirdSon$Duchy;)Z"⟩, prog_5_method_4_code, 3, some .boolean)
def zm_E_tellOne : zq_M := (⟨"ThirdSon$Teller", "tellOne", "(LThirdSon$Tape;LThirdSon$Duchy;)Z"⟩, prog_5_method_5_code, 4, some .boolean)
def zm_E_tellFact : zq_M := (⟨"ThirdSon$Teller", "tellFact", "(LThirdSon$Tape;LThirdSon$Duchy;)Z"⟩, prog_5_method_6_code, 4, some .boolean)
def zm_E_tellGone : zq_M := (⟨"ThirdSon$Teller", "tellGone", "(LThirdSon$Tape;LThirdSon$Duchy;)Z"⟩, prog_5_method_7_code, 3, some .boolean)
def zm_E_tellOdds : zq_M := (⟨"ThirdSon$Teller", "tellOdds", "(LThirdSon$Tape;LThirdSon$Duchy;)Z"⟩, prog_5_method_8_code, 4, some .boolean)
def zm_E_tellRule : zq_M := (⟨"ThirdSon$Teller", "tellRule", "(LThirdSon$Tape;LThirdSon$Duchy;)Z"⟩, prog_5_method_9_code, 8, some .boolean)
def zm_E_claimNamed : zq_M := (⟨"ThirdSon$Teller", "claimNamed", "(LThirdSon$Tape;)I"⟩, prog_5_method_10_code, 1, some .int)
def zm_E_mostOf : zq_M := (⟨"ThirdSon$Teller", "mostOf", "(I)I"⟩, prog_5_method_11_code, 1, some .int)
def zm_E_pickNamed : zq_M := (⟨"ThirdSon$Teller", "pickNamed", "(LThirdSon$Tape;)I"⟩, prog_5_method_12_code, 1, some .int)
def zm_E_number : zq_M := (⟨"ThirdSon$Teller", "number", "(LThirdSon$Tape;II)Z"⟩, prog_5_method_13_code, 4, some .boolean)
def zm_E_stop : zq_M := (⟨"ThirdSon$Teller", "stop", "(LThirdSon$Tape;)Z"⟩, prog_5_method_14_code, 2, some .boolean)
def zm_E_misplaced : zq_M := (⟨"ThirdSon$Teller", "misplaced", "(LThirdSon$Tape;)Z"⟩, prog_5_method_15_code, 2, some .boolean)
def zm_E_fail : zq_M := (⟨"ThirdSon$Teller", "fail", "(II)Z"⟩, prog_5_method_16_code, 3, some .boolean)
def zm_S_init : zq_M := (⟨"ThirdSon", "<init>", "()V"⟩, prog_1_method_1_code, 1, none)
def zm_S_feed : zq_M := (⟨"ThirdSon", "feed", "(I)I"⟩, prog_1_method_2_code, 2, some .int)
def zm_S_end : zq_M := (⟨"ThirdSon", "end", "(I)I"⟩, prog_1_method_3_code, 3, some .int)
def zm_S_text : zq_M := (⟨"ThirdSon", "text", "()I"⟩, prog_1_method_4_code, 3, some .int)
def zm_S_fault : zq_M := (⟨"ThirdSon", "fault", "()I"⟩, prog_1_method_5_code, 1, some .int)
def zm_S_rule : zq_M := (⟨"ThirdSon", "rule", "(I)I"⟩, prog_1_method_6_code, 2, some .int)
def zm_S_one : zq_M := (⟨"ThirdSon", "one", "(II)I"⟩, prog_1_method_7_code, 3, some .int)
def zm_S_odd : zq_M := (⟨"ThirdSon", "odd", "(I)I"⟩, prog_1_method_8_code, 2, some .int)
def zm_S_law : zq_M := (⟨"ThirdSon", "law", "(II)I"⟩, prog_1_method_9_code, 3, some .int)
def zm_S_owner : zq_M := (⟨"ThirdSon", "owner", "(I)I"⟩, prog_1_method_10_code, 2, some .int)
def zm_S_by : zq_M := (⟨"ThirdSon", "by", "(I)I"⟩, prog_1_method_11_code, 2, some .int)
def zm_S_does : zq_M := (⟨"ThirdSon", "does", "(I)I"⟩, prog_1_method_12_code, 2, some .int)
def zm_S_comes : zq_M := (⟨"ThirdSon", "comes", "(I)I"⟩, prog_1_method_13_code, 3, some .int)
def zm_S_tries : zq_M := (⟨"ThirdSon", "tries", "(II)I"⟩, prog_1_method_14_code, 4, some .int)
def zm_S_hush : zq_M := (⟨"ThirdSon", "hush", "(II)I"⟩, prog_1_method_15_code, 4, some .int)
def zm_S_weigh : zq_M := (⟨"ThirdSon", "weigh", "(II)I"⟩, prog_1_method_16_code, 4, some .int)
def zm_S_rank : zq_M := (⟨"ThirdSon", "rank", "(II)I"⟩, prog_1_method_17_code, 4, some .int)
def zm_S_pick : zq_M := (⟨"ThirdSon", "pick", "(II)I"⟩, prog_1_method_18_code, 4, some .int)
def zm_S_claim : zq_M := (⟨"ThirdSon", "claim", "(IIII)I"⟩, prog_1_method_19_code, 7, some .int)
def zm_S_pivot : zq_M := (⟨"ThirdSon", "pivot", "(I)I"⟩, prog_1_method_20_code, 6, some .int)
def zm_S_spoils : zq_M := (⟨"ThirdSon", "spoils", "(I)I"⟩, prog_1_method_21_code, 6, some .int)
def zm_S_dead : zq_M := (⟨"ThirdSon", "dead", "(I)I"⟩, prog_1_method_22_code, 3, some .int)
def zm_S_least : zq_M := (⟨"ThirdSon", "least", "(I)I"⟩, prog_1_method_23_code, 5, some .int)
def zm_S_who : zq_M := (⟨"ThirdSon", "who", "(I)I"⟩, prog_1_method_24_code, 5, some .int)
def zm_S_via : zq_M := (⟨"ThirdSon", "via", "(II)I"⟩, prog_1_method_25_code, 3, some .int)
def zm_S_odds : zq_M := (⟨"ThirdSon", "odds", "(IIII)J"⟩, prog_1_method_26_code, 8, some .long)
def zm_S_turn : zq_M := (⟨"ThirdSon", "turn", "(II)I"⟩, prog_1_method_27_code, 4, some .int)
def zm_S_best : zq_M := (⟨"ThirdSon", "best", "(IIII)J"⟩, prog_1_method_28_code, 11, some .long)
def zm_S_see : zq_M := (⟨"ThirdSon", "see", "(II)I"⟩, prog_1_method_29_code, 3, some .int)
def zm_S_forget : zq_M := (⟨"ThirdSon", "forget", "(I)I"⟩, prog_1_method_30_code, 3, some .int)
def zm_S_fits : zq_M := (⟨"ThirdSon", "fits", "(I)I"⟩, prog_1_method_31_code, 7, some .int)
def zm_S_drift : zq_M := (⟨"ThirdSon", "drift", "(III)I"⟩, prog_1_method_32_code, 10, some .int)
def zm_S_keep : zq_M := (⟨"ThirdSon", "keep", "(I)I"⟩, prog_1_method_33_code, 3, some .int)
def zm_S_back : zq_M := (⟨"ThirdSon", "back", "(I)I"⟩, prog_1_method_34_code, 2, some .int)
def zm_S_sheet : zq_M := (⟨"ThirdSon", "sheet", "(III)I"⟩, prog_1_method_35_code, 4, some .int)
def zm_S_lay : zq_M := (⟨"ThirdSon", "lay", "(III)I"⟩, prog_1_method_36_code, 5, some .int)
def zm_S_read : zq_M := (⟨"ThirdSon", "read", "(IIII)I"⟩, prog_1_method_37_code, 7, some .int)
def zm_S_torn : zq_M := (⟨"ThirdSon", "torn", "()I"⟩, prog_1_method_38_code, 1, some .int)
def zm_S_count : zq_M := (⟨"ThirdSon", "count", "(I)I"⟩, prog_1_method_39_code, 2, some .int)
def zm_S_isFact : zq_M := (⟨"ThirdSon", "isFact", "(I)Z"⟩, prog_1_method_40_code, 1, some .boolean)
def zm_S_isThing : zq_M := (⟨"ThirdSon", "isThing", "(I)Z"⟩, prog_1_method_41_code, 1, some .boolean)
def zm_S_isPick : zq_M := (⟨"ThirdSon", "isPick", "(I)Z"⟩, prog_1_method_42_code, 1, some .boolean)
def zm_S_shortestRow : zq_M := (⟨"ThirdSon", "shortestRow", "(III)I"⟩, prog_1_method_43_code, 5, some .int)
def zm_S_findRow : zq_M := (⟨"ThirdSon", "findRow", "(LThirdSon$Duchy;[IIIIII)Z"⟩, prog_1_method_44_code, 9, some .boolean)
def zm_S_givingSomewhere : zq_M := (⟨"ThirdSon", "givingSomewhere", "()I"⟩, prog_1_method_45_code, 3, some .int)
def zm_S_givingEverywhere : zq_M := (⟨"ThirdSon", "givingEverywhere", "()I"⟩, prog_1_method_46_code, 3, some .int)
def zm_S_rulesAtWork : zq_M := (⟨"ThirdSon", "rulesAtWork", "(II)I"⟩, prog_1_method_47_code, 7, some .int)
def zm_S_sameOwnersBy : zq_M := (⟨"ThirdSon", "sameOwnersBy", "(I)Z"⟩, prog_1_method_48_code, 4, some .boolean)
def zm_S_waysTo : zq_M := (⟨"ThirdSon", "waysTo", "(II)J"⟩, prog_1_method_49_code, 5, some .long)
def zm_S_isAsSeen : zq_M := (⟨"ThirdSon", "isAsSeen", "(I)Z"⟩, prog_1_method_50_code, 3, some .boolean)
def zm_S_waysAtBest : zq_M := (⟨"ThirdSon", "waysAtBest", "(III)J"⟩, prog_1_method_51_code, 8, some .long)
def zm_S_waysTryingFor : zq_M := (⟨"ThirdSon", "waysTryingFor", "(IIII)J"⟩, prog_1_method_52_code, 10, some .long)
def zm_S_image : zq_M := (⟨"ThirdSon", "image", "(I)LThirdSon$Duchy;"⟩, prog_1_method_53_code, 2, some (.object "ThirdSon$Duchy"))
def zm_S_nextSeed : zq_M := (⟨"ThirdSon", "nextSeed", "(I)I"⟩, prog_1_method_54_code, 1, some .int)
def zm_S_drawn : zq_M := (⟨"ThirdSon", "drawn", "(I)I"⟩, prog_1_method_55_code, 1, some .int)
def zm_S_power : zq_M := (⟨"ThirdSon", "power", "(II)J"⟩, prog_1_method_56_code, 5, some .long)
def zm_S_lowestTerms : zq_M := (⟨"ThirdSon", "lowestTerms", "(JJI)J"⟩, prog_1_method_57_code, 12, some .long)
def zm_M_init : zq_M := (⟨"ThirdSonModel", "<init>", "()V"⟩, prog_7_method_1_code, 1, none)
def zm_M_in : zq_M := (⟨"ThirdSonModel", "in", "(JJJ)Z"⟩, prog_7_method_3_code, 6, some .boolean)
def zm_M_feed : zq_M := (⟨"ThirdSonModel", "feed", "(I)I"⟩, prog_7_method_4_code, 2, some .int)
def zm_M_end : zq_M := (⟨"ThirdSonModel", "end", "(I)I"⟩, prog_7_method_5_code, 3, some .int)
def zm_M_byteAt : zq_M := (⟨"ThirdSonModel", "byteAt", "(I)I"⟩, prog_7_method_6_code, 2, some .int)
def zm_M_fails : zq_M := (⟨"ThirdSonModel", "fails", "(I)V"⟩, prog_7_method_7_code, 2, none)
def zm_M_nameHere : zq_M := (⟨"ThirdSonModel", "nameHere", "()I"⟩, prog_7_method_8_code, 4, some .int)
def zm_M_step : zq_M := (⟨"ThirdSonModel", "step", "()V"⟩, prog_7_method_9_code, 2, none)
def zm_M_other : zq_M := (⟨"ThirdSonModel", "other", "(III)I"⟩, prog_7_method_10_code, 5, some .int)
def zm_M_person : zq_M := (⟨"ThirdSonModel", "person", "(I)I"⟩, prog_7_method_11_code, 3, some .int)
def zm_M_claimHere : zq_M := (⟨"ThirdSonModel", "claimHere", "()I"⟩, prog_7_method_12_code, 3, some .int)
def zm_M_readRule : zq_M := (⟨"ThirdSonModel", "readRule", "()V"⟩, prog_7_method_13_code, 4, none)
def zm_M_readMore : zq_M := (⟨"ThirdSonModel", "readMore", "(I)V"⟩, prog_7_method_14_code, 3, none)
def zm_M_readLine : zq_M := (⟨"ThirdSonModel", "readLine", "()V"⟩, prog_7_method_15_code, 2, none)
def zm_M_areAlike : zq_M := (⟨"ThirdSonModel", "areAlike", "()Z"⟩, prog_7_method_16_code, 4, some .boolean)
def zm_M_text : zq_M := (⟨"ThirdSonModel", "text", "()I"⟩, prog_7_method_17_code, 3, some .int)
def zm_M_fault : zq_M := (⟨"ThirdSonModel", "fault", "()I"⟩, prog_7_method_18_code, 1, some .int)
def zm_M_isOne : zq_M := (⟨"ThirdSonModel", "isOne", "(I)Z"⟩, prog_7_method_19_code, 2, some .boolean)
def zm_M_isRule : zq_M := (⟨"ThirdSonModel", "isRule", "(I)Z"⟩, prog_7_method_20_code, 2, some .boolean)
def zm_M_isThing : zq_M := (⟨"ThirdSonModel", "isThing", "(I)Z"⟩, prog_7_method_21_code, 1, some .boolean)
def zm_M_isFact : zq_M := (⟨"ThirdSonModel", "isFact", "(I)Z"⟩, prog_7_method_22_code, 1, some .boolean)
def zm_M_isThere : zq_M := (⟨"ThirdSonModel", "isThere", "(II)Z"⟩, prog_7_method_23_code, 2, some .boolean)
def zm_M_rule : zq_M := (⟨"ThirdSonModel", "rule", "(I)I"⟩, prog_7_method_24_code, 2, some .int)
def zm_M_bornAs : zq_M := (⟨"ThirdSonModel", "bornAs", "(II)I"⟩, prog_7_method_25_code, 5, some .int)
def zm_M_childrenOf : zq_M := (⟨"ThirdSonModel", "childrenOf", "(II)I"⟩, prog_7_method_26_code, 5, some .int)
def zm_M_isAbove : zq_M := (⟨"ThirdSonModel", "isAbove", "(II)Z"⟩, prog_7_method_27_code, 4, some .boolean)
def zm_M_meets : zq_M := (⟨"ThirdSonModel", "meets", "(III)Z"⟩, prog_7_method_28_code, 5, some .boolean)
def zm_M_whoMeet : zq_M := (⟨"ThirdSonModel", "whoMeet", "(II)I"⟩, prog_7_method_29_code, 5, some .int)
def zm_M_givesBy : zq_M := (⟨"ThirdSonModel", "givesBy", "(III)I"⟩, prog_7_method_30_code, 8, some .int)
def zm_M_gives : zq_M := (⟨"ThirdSonModel", "gives", "(II)I"⟩, prog_7_method_31_code, 3, some .int)
def zm_M_ruleBy : zq_M := (⟨"ThirdSonModel", "ruleBy", "(IIII)I"⟩, prog_7_method_32_code, 8, some .int)
def zm_M_ownerBy : zq_M := (⟨"ThirdSonModel", "ownerBy", "(III)I"⟩, prog_7_method_33_code, 5, some .int)
def zm_M_ownerIn : zq_M := (⟨"ThirdSonModel", "ownerIn", "(II)I"⟩, prog_7_method_34_code, 3, some .int)
def zm_M_one : zq_M := (⟨"ThirdSonModel", "one", "(II)I"⟩, prog_7_method_35_code, 4, some .int)
def zm_M_odd : zq_M := (⟨"ThirdSonModel", "odd", "(I)I"⟩, prog_7_method_36_code, 2, some .int)
def zm_M_law : zq_M := (⟨"ThirdSonModel", "law", "(II)I"⟩, prog_7_method_37_code, 3, some .int)
def zm_M_owner : zq_M := (⟨"ThirdSonModel", "owner", "(I)I"⟩, prog_7_method_38_code, 2, some .int)
def zm_M_by : zq_M := (⟨"ThirdSonModel", "by", "(I)I"⟩, prog_7_method_39_code, 2, some .int)
def zm_M_sets : zq_M := (⟨"ThirdSonModel", "sets", "(ZII)I"⟩, prog_7_method_40_code, 5, some .int)
def zm_M_isDeed : zq_M := (⟨"ThirdSonModel", "isDeed", "(I)Z"⟩, prog_7_method_41_code, 2, some .boolean)
def zm_M_canDo : zq_M := (⟨"ThirdSonModel", "canDo", "(I)Z"⟩, prog_7_method_42_code, 5, some .boolean)
def zm_M_doesIt : zq_M := (⟨"ThirdSonModel", "doesIt", "(I)V"⟩, prog_7_method_43_code, 4, none)
def zm_M_done : zq_M := (⟨"ThirdSonModel", "done", "(I)I"⟩, prog_7_method_44_code, 2, some .int)
def zm_M_does : zq_M := (⟨"ThirdSonModel", "does", "(I)I"⟩, prog_7_method_45_code, 2, some .int)
def zm_M_comes : zq_M := (⟨"ThirdSonModel", "comes", "(I)I"⟩, prog_7_method_46_code, 3, some .int)
def zm_M_tries : zq_M := (⟨"ThirdSonModel", "tries", "(II)I"⟩, prog_7_method_47_code, 3, some .int)
def zm_M_hush : zq_M := (⟨"ThirdSonModel", "hush", "(II)I"⟩, prog_7_method_48_code, 4, some .int)
def zm_M_weigh : zq_M := (⟨"ThirdSonModel", "weigh", "(II)I"⟩, prog_7_method_49_code, 3, some .int)
def zm_M_rank : zq_M := (⟨"ThirdSonModel", "rank", "(II)I"⟩, prog_7_method_50_code, 4, some .int)
def zm_M_pick : zq_M := (⟨"ThirdSonModel", "pick", "(II)I"⟩, prog_7_method_51_code, 3, some .int)
def zm_M_copies : zq_M := (⟨"ThirdSonModel", "copies", "(II)V"⟩, prog_7_method_52_code, 4, none)
def zm_M_isHisBy : zq_M := (⟨"ThirdSonModel", "isHisBy", "(IIII)Z"⟩, prog_7_method_53_code, 8, some .boolean)
def zm_M_claim : zq_M := (⟨"ThirdSonModel", "claim", "(IIII)I"⟩, prog_7_method_54_code, 8, some .int)
def zm_M_pivot : zq_M := (⟨"ThirdSonModel", "pivot", "(I)I"⟩, prog_7_method_55_code, 5, some .int)
def zm_M_spoils : zq_M := (⟨"ThirdSonModel", "spoils", "(I)I"⟩, prog_7_method_56_code, 6, some .int)
def zm_M_cases : zq_M := (⟨"ThirdSonModel", "cases", "()I"⟩, prog_7_method_57_code, 1, some .int)
def zm_M_dead : zq_M := (⟨"ThirdSonModel", "dead", "(I)I"⟩, prog_7_method_58_code, 10, some .int)
def zm_M_isEnough : zq_M := (⟨"ThirdSonModel", "isEnough", "(I)Z"⟩, prog_7_method_59_code, 5, some .boolean)
def zm_M_bitsOf : zq_M := (⟨"ThirdSonModel", "bitsOf", "(I)I"⟩, prog_7_method_60_code, 3, some .int)
def zm_M_least : zq_M := (⟨"ThirdSonModel", "least", "(I)I"⟩, prog_7_method_61_code, 5, some .int)
def zm_M_who : zq_M := (⟨"ThirdSonModel", "who", "(I)I"⟩, prog_7_method_62_code, 5, some .int)
def zm_M_via : zq_M := (⟨"ThirdSonModel", "via", "(II)I"⟩, prog_7_method_63_code, 5, some .int)
def zm_M_lowest : zq_M := (⟨"ThirdSonModel", "lowest", "(JJI)J"⟩, prog_7_method_64_code, 11, some .long)
def zm_M_odds : zq_M := (⟨"ThirdSonModel", "odds", "(IIII)J"⟩, prog_7_method_65_code, 14, some .long)
def zm_M_turn : zq_M := (⟨"ThirdSonModel", "turn", "(II)I"⟩, prog_7_method_66_code, 4, some .int)
def zm_M_stops : zq_M := (⟨"ThirdSonModel", "stops", "(IIII)J"⟩, prog_7_method_67_code, 8, some .long)
def zm_M_tens : zq_M := (⟨"ThirdSonModel", "tens", "(I)J"⟩, prog_7_method_68_code, 1, some .long)
def zm_M_triesFor : zq_M := (⟨"ThirdSonModel", "triesFor", "(III)J"⟩, prog_7_method_69_code, 5, some .long)
def zm_M_layValues : zq_M := (⟨"ThirdSonModel", "layValues", "(III)V"⟩, prog_7_method_70_code, 11, none)
def zm_M_best : zq_M := (⟨"ThirdSonModel", "best", "(IIII)J"⟩, prog_7_method_71_code, 13, some .long)
def zm_M_see : zq_M := (⟨"ThirdSonModel", "see", "(II)I"⟩, prog_7_method_72_code, 3, some .int)
def zm_M_forget : zq_M := (⟨"ThirdSonModel", "forget", "(I)I"⟩, prog_7_method_73_code, 3, some .int)
def zm_M_fits : zq_M := (⟨"ThirdSonModel", "fits", "(I)I"⟩, prog_7_method_74_code, 9, some .int)
def zm_M_drift : zq_M := (⟨"ThirdSonModel", "drift", "(III)I"⟩, prog_7_method_75_code, 11, some .int)
def zm_M_keep : zq_M := (⟨"ThirdSonModel", "keep", "(I)I"⟩, prog_7_method_76_code, 3, some .int)
def zm_M_back : zq_M := (⟨"ThirdSonModel", "back", "(I)I"⟩, prog_7_method_77_code, 2, some .int)
def zm_M_sheet : zq_M := (⟨"ThirdSonModel", "sheet", "(III)I"⟩, prog_7_method_78_code, 5, some .int)
def zm_M_lay : zq_M := (⟨"ThirdSonModel", "lay", "(III)I"⟩, prog_7_method_79_code, 4, some .int)
def zm_M_read : zq_M := (⟨"ThirdSonModel", "read", "(IIII)I"⟩, prog_7_method_80_code, 7, some .int)
def zm_M_torn : zq_M := (⟨"ThirdSonModel", "torn", "()I"⟩, prog_7_method_81_code, 1, some .int)
def zm_M_count : zq_M := (⟨"ThirdSonModel", "count", "(I)I"⟩, prog_7_method_82_code, 6, some .int)
def zm_JI_bitCount : zq_M := (⟨"java/lang/Integer", "bitCount", "(I)I"⟩, prog_8_method_49_code, 1, some .int)
def zm_JM_max : zq_M := (⟨"java/lang/Math", "max", "(JJ)J"⟩, prog_9_method_66_code, 4, some .long)
def zm_JS_length : zq_M := (⟨"java/lang/String", "length", "()I"⟩, prog_10_method_54_code, 1, some .int)
def zm_JS_charAt : zq_M := (⟨"java/lang/String", "charAt", "(I)C"⟩, prog_10_method_56_code, 2, some .char)
def zm_JS_coder : zq_M := (⟨"java/lang/String", "coder", "()B"⟩, prog_10_method_152_code, 1, some .byte)
def zm_JS_isLatin1 : zq_M := (⟨"java/lang/String", "isLatin1", "()Z"⟩, prog_10_method_154_code, 1, some .boolean)
def zm_JS_checkIndex : zq_M := (⟨"java/lang/String", "checkIndex", "(II)V"⟩, prog_10_method_155_code, 2, none)
def zm_JA_charAt : zq_M := (⟨"java/lang/StringLatin1", "charAt", "([BI)C"⟩, prog_11_method_2_code, 2, some .char)
def zm_JU_getChar : zq_M := (⟨"java/lang/StringUTF16", "getChar", "([BI)C"⟩, prog_12_method_5_code, 2, some .char)
def zm_JU_length : zq_M := (⟨"java/lang/StringUTF16", "length", "([B)I"⟩, prog_12_method_6_code, 1, some .int)
def zm_JU_charAt : zq_M := (⟨"java/lang/StringUTF16", "charAt", "([BI)C"⟩, prog_12_method_83_code, 2, some .char)
def zm_JU_checkIndex : zq_M := (⟨"java/lang/StringUTF16", "checkIndex", "(I[B)V"⟩, prog_12_method_91_code, 2, none)
def zm_JP_checkIndex : zq_M := (⟨"jdk/internal/util/Preconditions", "checkIndex", "(IILjava/util/function/BiFunction;)I"⟩, prog_13_method_11_code, 3, some .int)
def zm_L_law : zq_M := (⟨"ThirdSonLaw", "law", "([I)Z"⟩, code, 4, some .boolean)
end
section
def zq_tbl : List Cond := lw_tbl.filter goodWord
theorem zq_in {w : Cond} (i : Nat) (h : lw_tbl[i]? = some w) (g : goodWord w = true) : w ∈ zq_tbl := List.mem_filter.mpr ⟨List.mem_of_getElem? h, g⟩
def zq_MV (M : zq_M) (n : Nat) : Prop := Cond.code M.1 M.2.1 M.2.2.1 M.2.2.2 ∈ zq_tbl ∧ Cond.instanceMethod M.1 ∈ zq_tbl ∧ Cond.selects M.1.cls M.1 M.1 ∈ zq_tbl ∧ Cond.initialized M.1.cls ∈ zq_tbl ∧ (M.1.cls ≠ "java/lang/invoke/MethodHandle" ∧ M.1.cls ≠ "java/lang/invoke/VarHandle") ∧ (parseMethodDescriptor M.1.desc).map (fun d => d.parameters.length) = some n ∧ M.2.2.1 ≤ 41 ∧ plainName M.1.cls = true
def zq_MS (M : zq_M) (n : Nat) : Prop := Cond.code M.1 M.2.1 M.2.2.1 M.2.2.2 ∈ zq_tbl ∧ Cond.static M.1 ∈ zq_tbl ∧ Cond.initialized M.1.cls ∈ zq_tbl ∧ (M.1.cls ≠ "java/lang/invoke/MethodHandle" ∧ M.1.cls ≠ "java/lang/invoke/VarHandle") ∧ (parseMethodDescriptor M.1.desc).map (fun d => d.parameters.length) = some n ∧ M.2.2.1 ≤ 41 ∧ plainName M.1.cls = true
theorem zq_in0 : ∀ w ∈ wsX00, w ∈ zq_tbl := by decide +kernel
theorem zq_in1 : ∀ w ∈ wsX10, w ∈ zq_tbl := by decide +kernel
theorem zq_in2 : ∀ w ∈ wsX20, w ∈ zq_tbl := by decide +kernel
theorem zq_in3 : ∀ w ∈ wsX30, w ∈ zq_tbl := by decide +kernel
theorem zq_in4 : ∀ w ∈ wsX40, w ∈ zq_tbl := by decide +kernel
theorem zq_in5 : ∀ w ∈ wsX50, w ∈ zq_tbl := by decide +kernel
theorem zi_L : Cond.initialized "ThirdSonLaw" ∈ zq_tbl := zq_in 60 (by decide +kernel) rfl
theorem zi_S : Cond.initialized "ThirdSon" ∈ zq_tbl := zq_in 61 (by decide +kernel) rfl
theorem zi_P : Cond.initialized "ThirdSon$Tape" ∈ zq_tbl := zq_in 62 (by decide +kernel) rfl
theorem zi_E : Cond.initialized "ThirdSon$Teller" ∈ zq_tbl := zq_in 63 (by decide +kernel) rfl
theorem zi_H : Cond.initialized "ThirdSon$Sheets" ∈ zq_tbl := zq_in 64 (by decide +kernel) rfl
theorem zi_D : Cond.initialized "ThirdSon$Duchy" ∈ zq_tbl := zq_in 65 (by decide +kernel) rfl
theorem zi_M : Cond.initialized "ThirdSonModel" ∈ zq_tbl := zq_in 66 (by decide +kernel) rfl
theorem zi_JS : Cond.initialized "java/lang/String" ∈ zq_tbl := zq_in 67 (by decide +kernel) rfl
theorem zi_JA : Cond.initialized "java/lang/StringLatin1" ∈ zq_tbl := zq_in 68 (by decide +kernel) rfl
theorem zi_JP : Cond.initialized "jdk/internal/util/Preconditions" ∈ zq_tbl := zq_in 69 (by decide +kernel) rfl
theorem zi_JU : Cond.initialized "java/lang/StringUTF16" ∈ zq_tbl := zq_in 70 (by decide +kernel) rfl
theorem zi_JI : Cond.initialized "java/lang/Integer" ∈ zq_tbl := zq_in 71 (by decide +kernel) rfl
theorem zi_JM : Cond.initialized "java/lang/Math" ∈ zq_tbl := zq_in 72 (by decide +kernel) rfl
theorem zl_L_9 : Cond.methodLink "ThirdSonLaw" 9 zm_S_init.1 ∈ zq_tbl := zq_in 75 (by decide +kernel) rfl
theorem zl_P_9 : Cond.fieldLink "ThirdSon$Tape" 9 "ThirdSon$Tape" "bytes" "[B" ∈ zq_tbl := zq_in 87 (by decide +kernel) rfl
theorem zl_P_13 : Cond.fieldLink "ThirdSon$Tape" 13 "ThirdSon$Tape" "length" "I" ∈ zq_tbl := zq_in 88 (by decide +kernel) rfl
theorem zl_S_63 : Cond.fieldLink "ThirdSon" 63 "ThirdSon$Tape" "length" "I" ∈ zq_tbl := zq_in 89 (by decide +kernel) rfl
theorem zl_E_52 : Cond.fieldLink "ThirdSon$Teller" 52 "ThirdSon$Tape" "length" "I" ∈ zq_tbl := zq_in 90 (by decide +kernel) rfl
theorem zl_E_37 : Cond.fieldLink "ThirdSon$Teller" 37 "ThirdSon$Tape" "kind" "I" ∈ zq_tbl := zq_in 91 (by decide +kernel) rfl
theorem zl_P_27 : Cond.fieldLink "ThirdSon$Tape" 27 "ThirdSon$Tape" "kind" "I" ∈ zq_tbl := zq_in 92 (by decide +kernel) rfl
theorem zl_P_24 : Cond.fieldLink "ThirdSon$Tape" 24 "ThirdSon$Tape" "start" "I" ∈ zq_tbl := zq_in 93 (by decide +kernel) rfl
theorem zl_E_99 : Cond.fieldLink "ThirdSon$Teller" 99 "ThirdSon$Tape" "start" "I" ∈ zq_tbl := zq_in 94 (by decide +kernel) rfl
theorem zl_E_102 : Cond.fieldLink "ThirdSon$Teller" 102 "ThirdSon$Tape" "value" "I" ∈ zq_tbl := zq_in 95 (by decide +kernel) rfl
theorem zl_P_52 : Cond.fieldLink "ThirdSon$Tape" 52 "ThirdSon$Tape" "value" "I" ∈ zq_tbl := zq_in 96 (by decide +kernel) rfl
theorem zl_P_17 : Cond.fieldLink "ThirdSon$Tape" 17 "ThirdSon$Tape" "at" "I" ∈ zq_tbl := zq_in 97 (by decide +kernel) rfl
theorem zl_E_9 : Cond.fieldLink "ThirdSon$Teller" 9 "ThirdSon$Teller" "fault" "I" ∈ zq_tbl := zq_in 118 (by decide +kernel) rfl
theorem zl_S_71 : Cond.fieldLink "ThirdSon" 71 "ThirdSon$Teller" "fault" "I" ∈ zq_tbl := zq_in 119 (by decide +kernel) rfl
theorem zl_E_15 : Cond.fieldLink "ThirdSon$Teller" 15 "ThirdSon$Teller" "place" "I" ∈ zq_tbl := zq_in 120 (by decide +kernel) rfl
theorem zl_S_77 : Cond.fieldLink "ThirdSon" 77 "ThirdSon$Teller" "place" "I" ∈ zq_tbl := zq_in 121 (by decide +kernel) rfl
theorem zl_E_18 : Cond.fieldLink "ThirdSon$Teller" 18 "ThirdSon$Teller" "named" "I" ∈ zq_tbl := zq_in 122 (by decide +kernel) rfl
theorem zl_E_21 : Cond.fieldLink "ThirdSon$Teller" 21 "ThirdSon$Teller" "weighed" "I" ∈ zq_tbl := zq_in 123 (by decide +kernel) rfl
theorem zl_H_13 : Cond.fieldLink "ThirdSon$Sheets" 13 "ThirdSon$Sheets" "cells" "[[I" ∈ zq_tbl := zq_in 141 (by decide +kernel) rfl
theorem zl_H_16 : Cond.fieldLink "ThirdSon$Sheets" 16 "ThirdSon$Sheets" "lanes" "[I" ∈ zq_tbl := zq_in 142 (by decide +kernel) rfl
theorem zl_H_20 : Cond.fieldLink "ThirdSon$Sheets" 20 "ThirdSon$Sheets" "sizes" "[I" ∈ zq_tbl := zq_in 143 (by decide +kernel) rfl
theorem zl_S_32 : Cond.methodLink "ThirdSon" 32 zm_D_init.1 ∈ zq_tbl := zq_in 154 (by decide +kernel) rfl
theorem zl_D_42 : Cond.methodLink "ThirdSon$Duchy" 42 zm_D_clear.1 ∈ zq_tbl := zq_in 158 (by decide +kernel) rfl
theorem zl_D_45 : Cond.fieldLink "ThirdSon$Duchy" 45 "ThirdSon$Duchy" "people" "I" ∈ zq_tbl := zq_in 162 (by decide +kernel) rfl
theorem zl_E_96 : Cond.fieldLink "ThirdSon$Teller" 96 "ThirdSon$Duchy" "people" "I" ∈ zq_tbl := zq_in 163 (by decide +kernel) rfl
theorem zl_S_86 : Cond.fieldLink "ThirdSon" 86 "ThirdSon$Duchy" "people" "I" ∈ zq_tbl := zq_in 164 (by decide +kernel) rfl
theorem zl_D_49 : Cond.fieldLink "ThirdSon$Duchy" 49 "ThirdSon$Duchy" "gone" "I" ∈ zq_tbl := zq_in 165 (by decide +kernel) rfl
theorem zl_S_92 : Cond.fieldLink "ThirdSon" 92 "ThirdSon$Duchy" "gone" "I" ∈ zq_tbl := zq_in 166 (by decide +kernel) rfl
theorem zl_E_127 : Cond.fieldLink "ThirdSon$Teller" 127 "ThirdSon$Duchy" "gone" "I" ∈ zq_tbl := zq_in 167 (by decide +kernel) rfl
theorem zl_D_52 : Cond.fieldLink "ThirdSon$Duchy" 52 "ThirdSon$Duchy" "rules" "I" ∈ zq_tbl := zq_in 168 (by decide +kernel) rfl
theorem zl_S_89 : Cond.fieldLink "ThirdSon" 89 "ThirdSon$Duchy" "rules" "I" ∈ zq_tbl := zq_in 169 (by decide +kernel) rfl
theorem zl_E_134 : Cond.fieldLink "ThirdSon$Teller" 134 "ThirdSon$Duchy" "rules" "I" ∈ zq_tbl := zq_in 170 (by decide +kernel) rfl
theorem zl_D_9 : Cond.fieldLink "ThirdSon$Duchy" 9 "ThirdSon$Duchy" "parents" "[I" ∈ zq_tbl := zq_in 171 (by decide +kernel) rfl
theorem zl_S_98 : Cond.fieldLink "ThirdSon" 98 "ThirdSon$Duchy" "parents" "[I" ∈ zq_tbl := zq_in 172 (by decide +kernel) rfl
theorem zl_D_15 : Cond.fieldLink "ThirdSon$Duchy" 15 "ThirdSon$Duchy" "ancestors" "[I" ∈ zq_tbl := zq_in 173 (by decide +kernel) rfl
theorem zl_D_18 : Cond.fieldLink "ThirdSon$Duchy" 18 "ThirdSon$Duchy" "facts" "[I" ∈ zq_tbl := zq_in 174 (by decide +kernel) rfl
theorem zl_E_117 : Cond.fieldLink "ThirdSon$Teller" 117 "ThirdSon$Duchy" "facts" "[I" ∈ zq_tbl := zq_in 175 (by decide +kernel) rfl
theorem zl_S_101 : Cond.fieldLink "ThirdSon" 101 "ThirdSon$Duchy" "facts" "[I" ∈ zq_tbl := zq_in 176 (by decide +kernel) rfl
theorem zl_D_21 : Cond.fieldLink "ThirdSon$Duchy" 21 "ThirdSon$Duchy" "tries" "[I" ∈ zq_tbl := zq_in 177 (by decide +kernel) rfl
theorem zl_S_104 : Cond.fieldLink "ThirdSon" 104 "ThirdSon$Duchy" "tries" "[I" ∈ zq_tbl := zq_in 178 (by decide +kernel) rfl
theorem zl_D_24 : Cond.fieldLink "ThirdSon$Duchy" 24 "ThirdSon$Duchy" "odds" "[I" ∈ zq_tbl := zq_in 179 (by decide +kernel) rfl
theorem zl_S_120 : Cond.fieldLink "ThirdSon" 120 "ThirdSon$Duchy" "odds" "[I" ∈ zq_tbl := zq_in 180 (by decide +kernel) rfl
theorem zl_E_132 : Cond.fieldLink "ThirdSon$Teller" 132 "ThirdSon$Duchy" "odds" "[I" ∈ zq_tbl := zq_in 181 (by decide +kernel) rfl
theorem zl_D_27 : Cond.fieldLink "ThirdSon$Duchy" 27 "ThirdSon$Duchy" "ranks" "[I" ∈ zq_tbl := zq_in 182 (by decide +kernel) rfl
theorem zl_S_126 : Cond.fieldLink "ThirdSon" 126 "ThirdSon$Duchy" "ranks" "[I" ∈ zq_tbl := zq_in 183 (by decide +kernel) rfl
theorem zl_D_30 : Cond.fieldLink "ThirdSon$Duchy" 30 "ThirdSon$Duchy" "things" "[I" ∈ zq_tbl := zq_in 184 (by decide +kernel) rfl
theorem zl_S_129 : Cond.fieldLink "ThirdSon" 129 "ThirdSon$Duchy" "things" "[I" ∈ zq_tbl := zq_in 185 (by decide +kernel) rfl
theorem zl_D_33 : Cond.fieldLink "ThirdSon$Duchy" 33 "ThirdSon$Duchy" "claims" "[I" ∈ zq_tbl := zq_in 186 (by decide +kernel) rfl
theorem zl_S_132 : Cond.fieldLink "ThirdSon" 132 "ThirdSon$Duchy" "claims" "[I" ∈ zq_tbl := zq_in 187 (by decide +kernel) rfl
theorem zl_D_36 : Cond.fieldLink "ThirdSon$Duchy" 36 "ThirdSon$Duchy" "numbers" "[I" ∈ zq_tbl := zq_in 188 (by decide +kernel) rfl
theorem zl_S_135 : Cond.fieldLink "ThirdSon" 135 "ThirdSon$Duchy" "numbers" "[I" ∈ zq_tbl := zq_in 189 (by decide +kernel) rfl
theorem zl_D_39 : Cond.fieldLink "ThirdSon$Duchy" 39 "ThirdSon$Duchy" "picks" "[I" ∈ zq_tbl := zq_in 190 (by decide +kernel) rfl
theorem zl_S_138 : Cond.fieldLink "ThirdSon" 138 "ThirdSon$Duchy" "picks" "[I" ∈ zq_tbl := zq_in 191 (by decide +kernel) rfl
theorem zl_S_12 : Cond.fieldLink "ThirdSon" 12 "ThirdSon" "tape" "LThirdSon$Tape;" ∈ zq_tbl := zq_in 219 (by decide +kernel) rfl
theorem zl_S_19 : Cond.fieldLink "ThirdSon" 19 "ThirdSon" "teller" "LThirdSon$Teller;" ∈ zq_tbl := zq_in 220 (by decide +kernel) rfl
theorem zl_S_26 : Cond.fieldLink "ThirdSon" 26 "ThirdSon" "sheets" "LThirdSon$Sheets;" ∈ zq_tbl := zq_in 221 (by decide +kernel) rfl
theorem zl_S_33 : Cond.fieldLink "ThirdSon" 33 "ThirdSon" "firstImage" "LThirdSon$Duchy;" ∈ zq_tbl := zq_in 222 (by decide +kernel) rfl
theorem zl_S_37 : Cond.fieldLink "ThirdSon" 37 "ThirdSon" "secondImage" "LThirdSon$Duchy;" ∈ zq_tbl := zq_in 223 (by decide +kernel) rfl
theorem zl_S_40 : Cond.fieldLink "ThirdSon" 40 "ThirdSon" "trial" "LThirdSon$Duchy;" ∈ zq_tbl := zq_in 224 (by decide +kernel) rfl
theorem zl_S_43 : Cond.fieldLink "ThirdSon" 43 "ThirdSon" "row" "[I" ∈ zq_tbl := zq_in 225 (by decide +kernel) rfl
theorem zl_S_47 : Cond.fieldLink "ThirdSon" 47 "ThirdSon" "seenThings" "[I" ∈ zq_tbl := zq_in 226 (by decide +kernel) rfl
theorem zl_S_50 : Cond.fieldLink "ThirdSon" 50 "ThirdSon" "seenOwners" "[I" ∈ zq_tbl := zq_in 227 (by decide +kernel) rfl
theorem zl_S_53 : Cond.fieldLink "ThirdSon" 53 "ThirdSon" "duchy" "LThirdSon$Duchy;" ∈ zq_tbl := zq_in 228 (by decide +kernel) rfl
theorem zl_S_56 : Cond.fieldLink "ThirdSon" 56 "ThirdSon" "draft" "LThirdSon$Duchy;" ∈ zq_tbl := zq_in 229 (by decide +kernel) rfl
theorem zl_S_74 : Cond.fieldLink "ThirdSon" 74 "ThirdSon" "textFault" "I" ∈ zq_tbl := zq_in 230 (by decide +kernel) rfl
theorem zl_S_264 : Cond.fieldLink "ThirdSon" 264 "ThirdSon" "readFault" "I" ∈ zq_tbl := zq_in 231 (by decide +kernel) rfl
theorem zl_S_80 : Cond.fieldLink "ThirdSon" 80 "ThirdSon" "seen" "I" ∈ zq_tbl := zq_in 232 (by decide +kernel) rfl
theorem zl_S_83 : Cond.fieldLink "ThirdSon" 83 "ThirdSon" "kept" "I" ∈ zq_tbl := zq_in 233 (by decide +kernel) rfl
theorem zl_L_13 : Cond.methodLink "ThirdSonLaw" 13 zm_S_feed.1 ∈ zq_tbl := zq_in 265 (by decide +kernel) rfl
theorem zl_S_59 : Cond.methodLink "ThirdSon" 59 zm_P_append.1 ∈ zq_tbl := zq_in 269 (by decide +kernel) rfl
theorem zl_L_18 : Cond.methodLink "ThirdSonLaw" 18 zm_S_end.1 ∈ zq_tbl := zq_in 273 (by decide +kernel) rfl
theorem zl_L_22 : Cond.methodLink "ThirdSonLaw" 22 zm_S_text.1 ∈ zq_tbl := zq_in 277 (by decide +kernel) rfl
theorem zl_S_67 : Cond.methodLink "ThirdSon" 67 zm_E_tell.1 ∈ zq_tbl := zq_in 281 (by decide +kernel) rfl
theorem zl_E_24 : Cond.methodLink "ThirdSon$Teller" 24 zm_D_clear.1 ∈ zq_tbl := zq_in 285 (by decide +kernel) rfl
theorem zl_E_29 : Cond.methodLink "ThirdSon$Teller" 29 zm_P_rewind.1 ∈ zq_tbl := zq_in 286 (by decide +kernel) rfl
theorem zl_E_34 : Cond.methodLink "ThirdSon$Teller" 34 zm_P_advance.1 ∈ zq_tbl := zq_in 290 (by decide +kernel) rfl
theorem zl_P_20 : Cond.methodLink "ThirdSon$Tape" 20 zm_P_byteAt.1 ∈ zq_tbl := zq_in 294 (by decide +kernel) rfl
theorem zl_P_30 : Cond.methodLink "ThirdSon$Tape" 30 zm_P_isLetter.1 ∈ zq_tbl := zq_in 298 (by decide +kernel) rfl
theorem zl_P_34 : Cond.methodLink "ThirdSon$Tape" 34 zm_P_readName.1 ∈ zq_tbl := zq_in 301 (by decide +kernel) rfl
theorem zl_P_37 : Cond.methodLink "ThirdSon$Tape" 37 zm_P_isFigure.1 ∈ zq_tbl := zq_in 305 (by decide +kernel) rfl
theorem zl_P_40 : Cond.methodLink "ThirdSon$Tape" 40 zm_P_readNumber.1 ∈ zq_tbl := zq_in 308 (by decide +kernel) rfl
theorem zl_E_40 : Cond.methodLink "ThirdSon$Teller" 40 zm_E_tellLine.1 ∈ zq_tbl := zq_in 312 (by decide +kernel) rfl
theorem zl_E_63 : Cond.stringRef "ThirdSon$Teller" 63 "one" ∈ lw_tbl := List.mem_of_getElem? (i := 316) (by decide +kernel)
theorem zl_E_65 : Cond.methodLink "ThirdSon$Teller" 65 zm_P_isWord.1 ∈ zq_tbl := zq_in 317 (by decide +kernel) rfl
theorem zl_P_43 : Cond.methodLink "ThirdSon$Tape" 43 zm_JS_length.1 ∈ zq_tbl := zq_in 321 (by decide +kernel) rfl
theorem zl_JS_335 : Cond.methodLink "java/lang/String" 335 zm_JS_coder.1 ∈ zq_tbl := zq_in 325 (by decide +kernel) rfl
theorem zl_JS_38 : Cond.fieldLink "java/lang/String" 38 "java/lang/String" "COMPACT_STRINGS" "Z" ∈ zq_tbl := zq_in 329 (by decide +kernel) rfl
theorem zl_P_48 : Cond.methodLink "ThirdSon$Tape" 48 zm_JS_charAt.1 ∈ zq_tbl := zq_in 331 (by decide +kernel) rfl
theorem zl_JS_492 : Cond.methodLink "java/lang/String" 492 zm_JS_isLatin1.1 ∈ zq_tbl := zq_in 335 (by decide +kernel) rfl
theorem zl_JS_495 : Cond.methodLink "java/lang/String" 495 zm_JA_charAt.1 ∈ zq_tbl := zq_in 339 (by decide +kernel) rfl
theorem zl_JA_9 : Cond.methodLink "java/lang/StringLatin1" 9 zm_JS_checkIndex.1 ∈ zq_tbl := zq_in 342 (by decide +kernel) rfl
theorem zl_JS_1053 : Cond.fieldLink "java/lang/String" 1053 "jdk/internal/util/Preconditions" "SIOOBE_FORMATTER" "Ljava/util/function/BiFunction;" ∈ zq_tbl := zq_in 345 (by decide +kernel) rfl
theorem zl_JS_1059 : Cond.methodLink "java/lang/String" 1059 zm_JP_checkIndex.1 ∈ zq_tbl := zq_in 347 (by decide +kernel) rfl
theorem zl_JS_498 : Cond.methodLink "java/lang/String" 498 zm_JU_charAt.1 ∈ zq_tbl := zq_in 350 (by decide +kernel) rfl
theorem zl_JU_67 : Cond.methodLink "java/lang/StringUTF16" 67 zm_JU_checkIndex.1 ∈ zq_tbl := zq_in 353 (by decide +kernel) rfl
theorem zl_JU_48 : Cond.methodLink "java/lang/StringUTF16" 48 zm_JU_length.1 ∈ zq_tbl := zq_in 356 (by decide +kernel) rfl
theorem zl_JU_414 : Cond.methodLink "java/lang/StringUTF16" 414 zm_JS_checkIndex.1 ∈ zq_tbl := zq_in 359 (by decide +kernel) rfl
theorem zl_JU_71 : Cond.methodLink "java/lang/StringUTF16" 71 zm_JU_getChar.1 ∈ zq_tbl := zq_in 360 (by decide +kernel) rfl
theorem zl_JU_44 : Cond.fieldLink "java/lang/StringUTF16" 44 "java/lang/StringUTF16" "$assertionsDisabled" "Z" ∈ zq_tbl := zq_in 363 (by decide +kernel) rfl
theorem zl_JU_59 : Cond.fieldLink "java/lang/StringUTF16" 59 "java/lang/StringUTF16" "HI_BYTE_SHIFT" "I" ∈ zq_tbl := zq_in 365 (by decide +kernel) rfl
theorem zl_JU_63 : Cond.fieldLink "java/lang/StringUTF16" 63 "java/lang/StringUTF16" "LO_BYTE_SHIFT" "I" ∈ zq_tbl := zq_in 367 (by decide +kernel) rfl
theorem zl_E_69 : Cond.methodLink "ThirdSon$Teller" 69 zm_E_tellOne.1 ∈ zq_tbl := zq_in 369 (by decide +kernel) rfl
theorem zl_E_55 : Cond.methodLink "ThirdSon$Teller" 55 zm_E_fail.1 ∈ zq_tbl := zq_in 373 (by decide +kernel) rfl
theorem zl_E_105 : Cond.methodLink "ThirdSon$Teller" 105 zm_D_isOne.1 ∈ zq_tbl := zq_in 377 (by decide +kernel) rfl
theorem zl_E_109 : Cond.methodLink "ThirdSon$Teller" 109 zm_D_addOne.1 ∈ zq_tbl := zq_in 381 (by decide +kernel) rfl
theorem zl_D_55 : Cond.methodLink "ThirdSon$Duchy" 55 zm_D_isOne.1 ∈ zq_tbl := zq_in 385 (by decide +kernel) rfl
theorem zl_E_92 : Cond.methodLink "ThirdSon$Teller" 92 zm_E_misplaced.1 ∈ zq_tbl := zq_in 386 (by decide +kernel) rfl
theorem zl_E_72 : Cond.stringRef "ThirdSon$Teller" 72 "fact" ∈ lw_tbl := List.mem_of_getElem? (i := 390) (by decide +kernel)
theorem zl_E_74 : Cond.methodLink "ThirdSon$Teller" 74 zm_E_tellFact.1 ∈ zq_tbl := zq_in 391 (by decide +kernel) rfl
theorem zl_E_113 : Cond.methodLink "ThirdSon$Teller" 113 zm_E_number.1 ∈ zq_tbl := zq_in 395 (by decide +kernel) rfl
theorem zl_E_121 : Cond.methodLink "ThirdSon$Teller" 121 zm_E_stop.1 ∈ zq_tbl := zq_in 399 (by decide +kernel) rfl
theorem zl_E_77 : Cond.stringRef "ThirdSon$Teller" 77 "gone" ∈ lw_tbl := List.mem_of_getElem? (i := 403) (by decide +kernel)
theorem zl_E_79 : Cond.methodLink "ThirdSon$Teller" 79 zm_E_tellGone.1 ∈ zq_tbl := zq_in 404 (by decide +kernel) rfl
theorem zl_E_124 : Cond.methodLink "ThirdSon$Teller" 124 zm_D_isGone.1 ∈ zq_tbl := zq_in 408 (by decide +kernel) rfl
theorem zl_E_82 : Cond.stringRef "ThirdSon$Teller" 82 "odds" ∈ lw_tbl := List.mem_of_getElem? (i := 412) (by decide +kernel)
theorem zl_E_84 : Cond.methodLink "ThirdSon$Teller" 84 zm_E_tellOdds.1 ∈ zq_tbl := zq_in 413 (by decide +kernel) rfl
theorem zl_E_87 : Cond.stringRef "ThirdSon$Teller" 87 "rule" ∈ lw_tbl := List.mem_of_getElem? (i := 420) (by decide +kernel)
theorem zl_E_89 : Cond.methodLink "ThirdSon$Teller" 89 zm_E_tellRule.1 ∈ zq_tbl := zq_in 421 (by decide +kernel) rfl
theorem zl_E_137 : Cond.methodLink "ThirdSon$Teller" 137 zm_E_claimNamed.1 ∈ zq_tbl := zq_in 425 (by decide +kernel) rfl
theorem zl_E_152 : Cond.stringRef "ThirdSon$Teller" 152 "any" ∈ lw_tbl := List.mem_of_getElem? (i := 428) (by decide +kernel)
theorem zl_E_154 : Cond.stringRef "ThirdSon$Teller" 154 "born" ∈ lw_tbl := List.mem_of_getElem? (i := 429) (by decide +kernel)
theorem zl_E_156 : Cond.stringRef "ThirdSon$Teller" 156 "tried" ∈ lw_tbl := List.mem_of_getElem? (i := 430) (by decide +kernel)
theorem zl_E_158 : Cond.stringRef "ThirdSon$Teller" 158 "kin" ∈ lw_tbl := List.mem_of_getElem? (i := 431) (by decide +kernel)
theorem zl_E_160 : Cond.stringRef "ThirdSon$Teller" 160 "bare" ∈ lw_tbl := List.mem_of_getElem? (i := 432) (by decide +kernel)
theorem zl_E_141 : Cond.methodLink "ThirdSon$Teller" 141 zm_E_mostOf.1 ∈ zq_tbl := zq_in 433 (by decide +kernel) rfl
theorem zl_E_145 : Cond.methodLink "ThirdSon$Teller" 145 zm_E_pickNamed.1 ∈ zq_tbl := zq_in 436 (by decide +kernel) rfl
theorem zl_E_162 : Cond.stringRef "ThirdSon$Teller" 162 "first" ∈ lw_tbl := List.mem_of_getElem? (i := 439) (by decide +kernel)
theorem zl_E_164 : Cond.stringRef "ThirdSon$Teller" 164 "third" ∈ lw_tbl := List.mem_of_getElem? (i := 440) (by decide +kernel)
theorem zl_E_166 : Cond.stringRef "ThirdSon$Teller" 166 "last" ∈ lw_tbl := List.mem_of_getElem? (i := 441) (by decide +kernel)
theorem zl_E_148 : Cond.methodLink "ThirdSon$Teller" 148 zm_D_addRule.1 ∈ zq_tbl := zq_in 442 (by decide +kernel) rfl
theorem zl_E_44 : Cond.methodLink "ThirdSon$Teller" 44 zm_E_checkWhole.1 ∈ zq_tbl := zq_in 446 (by decide +kernel) rfl
theorem zl_E_48 : Cond.methodLink "ThirdSon$Teller" 48 zm_D_everybody.1 ∈ zq_tbl := zq_in 450 (by decide +kernel) rfl
theorem zl_E_59 : Cond.methodLink "ThirdSon$Teller" 59 zm_D_hasEqualRanks.1 ∈ zq_tbl := zq_in 454 (by decide +kernel) rfl
theorem zl_L_27 : Cond.methodLink "ThirdSonLaw" 27 zm_S_fault.1 ∈ zq_tbl := zq_in 458 (by decide +kernel) rfl
theorem zl_L_31 : Cond.methodLink "ThirdSonLaw" 31 zm_S_rule.1 ∈ zq_tbl := zq_in 462 (by decide +kernel) rfl
theorem zl_L_35 : Cond.methodLink "ThirdSonLaw" 35 zm_S_one.1 ∈ zq_tbl := zq_in 466 (by decide +kernel) rfl
theorem zl_S_95 : Cond.methodLink "ThirdSon" 95 zm_D_isOne.1 ∈ zq_tbl := zq_in 470 (by decide +kernel) rfl
theorem zl_S_107 : Cond.methodLink "ThirdSon" 107 zm_D_isGone.1 ∈ zq_tbl := zq_in 471 (by decide +kernel) rfl
theorem zl_S_110 : Cond.methodLink "ThirdSon" 110 zm_D_placeAmongBorn.1 ∈ zq_tbl := zq_in 472 (by decide +kernel) rfl
theorem zl_S_114 : Cond.methodLink "ThirdSon" 114 zm_D_childrenLeft.1 ∈ zq_tbl := zq_in 476 (by decide +kernel) rfl
theorem zl_L_40 : Cond.methodLink "ThirdSonLaw" 40 zm_S_odd.1 ∈ zq_tbl := zq_in 480 (by decide +kernel) rfl
theorem zl_S_117 : Cond.methodLink "ThirdSon" 117 zm_S_isFact.1 ∈ zq_tbl := zq_in 484 (by decide +kernel) rfl
theorem zl_L_44 : Cond.methodLink "ThirdSonLaw" 44 zm_S_law.1 ∈ zq_tbl := zq_in 485 (by decide +kernel) rfl
theorem zl_S_123 : Cond.methodLink "ThirdSon" 123 zm_D_isRule.1 ∈ zq_tbl := zq_in 489 (by decide +kernel) rfl
theorem zl_S_141 : Cond.methodLink "ThirdSon" 141 zm_D_whoMeet.1 ∈ zq_tbl := zq_in 493 (by decide +kernel) rfl
theorem zl_D_69 : Cond.methodLink "ThirdSon$Duchy" 69 zm_D_meets.1 ∈ zq_tbl := zq_in 497 (by decide +kernel) rfl
theorem zl_D_59 : Cond.methodLink "ThirdSon$Duchy" 59 zm_D_isRule.1 ∈ zq_tbl := zq_in 501 (by decide +kernel) rfl
theorem zl_D_62 : Cond.methodLink "ThirdSon$Duchy" 62 zm_D_placeAmongBorn.1 ∈ zq_tbl := zq_in 502 (by decide +kernel) rfl
theorem zl_D_66 : Cond.methodLink "ThirdSon$Duchy" 66 zm_D_childrenLeft.1 ∈ zq_tbl := zq_in 503 (by decide +kernel) rfl
theorem zl_S_144 : Cond.methodLink "ThirdSon" 144 zm_D_receiver.1 ∈ zq_tbl := zq_in 504 (by decide +kernel) rfl
theorem zl_L_48 : Cond.methodLink "ThirdSonLaw" 48 zm_S_owner.1 ∈ zq_tbl := zq_in 508 (by decide +kernel) rfl
theorem zl_S_147 : Cond.methodLink "ThirdSon" 147 zm_S_isThing.1 ∈ zq_tbl := zq_in 512 (by decide +kernel) rfl
theorem zl_S_150 : Cond.methodLink "ThirdSon" 150 zm_D_ownerNow.1 ∈ zq_tbl := zq_in 515 (by decide +kernel) rfl
theorem zl_D_80 : Cond.methodLink "ThirdSon$Duchy" 80 zm_D_ownerIn.1 ∈ zq_tbl := zq_in 519 (by decide +kernel) rfl
theorem zl_D_76 : Cond.methodLink "ThirdSon$Duchy" 76 zm_D_rightOn.1 ∈ zq_tbl := zq_in 523 (by decide +kernel) rfl
theorem zl_D_73 : Cond.methodLink "ThirdSon$Duchy" 73 zm_D_receiver.1 ∈ zq_tbl := zq_in 527 (by decide +kernel) rfl
theorem zl_L_52 : Cond.methodLink "ThirdSonLaw" 52 zm_S_by.1 ∈ zq_tbl := zq_in 528 (by decide +kernel) rfl
theorem zl_S_154 : Cond.methodLink "ThirdSon" 154 zm_D_rightOn.1 ∈ zq_tbl := zq_in 532 (by decide +kernel) rfl
theorem zl_L_56 : Cond.methodLink "ThirdSonLaw" 56 zm_S_does.1 ∈ zq_tbl := zq_in 533 (by decide +kernel) rfl
theorem zl_S_158 : Cond.methodLink "ThirdSon" 158 zm_D_act.1 ∈ zq_tbl := zq_in 537 (by decide +kernel) rfl
theorem zl_D_87 : Cond.methodLink "ThirdSon$Duchy" 87 zm_D_isGone.1 ∈ zq_tbl := zq_in 541 (by decide +kernel) rfl
theorem zl_D_93 : Cond.methodLink "ThirdSon$Duchy" 93 zm_D_isKnown.1 ∈ zq_tbl := zq_in 543 (by decide +kernel) rfl
theorem zl_L_60 : Cond.methodLink "ThirdSonLaw" 60 zm_S_comes.1 ∈ zq_tbl := zq_in 547 (by decide +kernel) rfl
theorem zl_L_64 : Cond.methodLink "ThirdSonLaw" 64 zm_S_tries.1 ∈ zq_tbl := zq_in 551 (by decide +kernel) rfl
theorem zl_L_68 : Cond.methodLink "ThirdSonLaw" 68 zm_S_hush.1 ∈ zq_tbl := zq_in 555 (by decide +kernel) rfl
theorem zl_S_161 : Cond.methodLink "ThirdSon" 161 zm_D_isKnown.1 ∈ zq_tbl := zq_in 559 (by decide +kernel) rfl
theorem zl_L_72 : Cond.methodLink "ThirdSonLaw" 72 zm_S_weigh.1 ∈ zq_tbl := zq_in 560 (by decide +kernel) rfl
theorem zl_L_76 : Cond.methodLink "ThirdSonLaw" 76 zm_S_rank.1 ∈ zq_tbl := zq_in 564 (by decide +kernel) rfl
theorem zl_L_80 : Cond.methodLink "ThirdSonLaw" 80 zm_S_pick.1 ∈ zq_tbl := zq_in 568 (by decide +kernel) rfl
theorem zl_S_165 : Cond.methodLink "ThirdSon" 165 zm_S_isPick.1 ∈ zq_tbl := zq_in 572 (by decide +kernel) rfl
theorem zl_L_84 : Cond.methodLink "ThirdSonLaw" 84 zm_S_claim.1 ∈ zq_tbl := zq_in 575 (by decide +kernel) rfl
theorem zl_S_168 : Cond.methodLink "ThirdSon" 168 zm_S_shortestRow.1 ∈ zq_tbl := zq_in 579 (by decide +kernel) rfl
theorem zl_S_174 : Cond.methodLink "ThirdSon" 174 zm_D_copyFrom.1 ∈ zq_tbl := zq_in 583 (by decide +kernel) rfl
theorem zl_S_279 : Cond.methodLink "ThirdSon" 279 zm_S_findRow.1 ∈ zq_tbl := zq_in 587 (by decide +kernel) rfl
theorem zl_S_171 : Cond.methodLink "ThirdSon" 171 zm_D_ownerIn.1 ∈ zq_tbl := zq_in 590 (by decide +kernel) rfl
theorem zl_S_181 : Cond.methodLink "ThirdSon" 181 zm_D_takeBack.1 ∈ zq_tbl := zq_in 591 (by decide +kernel) rfl
theorem zl_L_89 : Cond.methodLink "ThirdSonLaw" 89 zm_S_pivot.1 ∈ zq_tbl := zq_in 595 (by decide +kernel) rfl
theorem zl_L_93 : Cond.methodLink "ThirdSonLaw" 93 zm_S_spoils.1 ∈ zq_tbl := zq_in 599 (by decide +kernel) rfl
theorem zl_S_178 : Cond.methodLink "ThirdSon" 178 zm_D_thingsOf.1 ∈ zq_tbl := zq_in 603 (by decide +kernel) rfl
theorem zl_D_83 : Cond.methodLink "ThirdSon$Duchy" 83 zm_D_ownerNow.1 ∈ zq_tbl := zq_in 607 (by decide +kernel) rfl
theorem zl_L_97 : Cond.methodLink "ThirdSonLaw" 97 zm_S_dead.1 ∈ zq_tbl := zq_in 608 (by decide +kernel) rfl
theorem zl_S_185 : Cond.methodLink "ThirdSon" 185 zm_D_allRules.1 ∈ zq_tbl := zq_in 612 (by decide +kernel) rfl
theorem zl_S_189 : Cond.methodLink "ThirdSon" 189 zm_S_givingSomewhere.1 ∈ zq_tbl := zq_in 616 (by decide +kernel) rfl
theorem zl_S_206 : Cond.methodLink "ThirdSon" 206 zm_D_cases.1 ∈ zq_tbl := zq_in 620 (by decide +kernel) rfl
theorem zl_S_283 : Cond.methodLink "ThirdSon" 283 zm_D_givingRules.1 ∈ zq_tbl := zq_in 624 (by decide +kernel) rfl
theorem zl_S_192 : Cond.methodLink "ThirdSon" 192 zm_S_givingEverywhere.1 ∈ zq_tbl := zq_in 628 (by decide +kernel) rfl
theorem zl_S_226 : Cond.methodLink "ThirdSon" 226 zm_D_everybody.1 ∈ zq_tbl := zq_in 632 (by decide +kernel) rfl
theorem zl_S_195 : Cond.methodLink "ThirdSon" 195 zm_S_rulesAtWork.1 ∈ zq_tbl := zq_in 633 (by decide +kernel) rfl
theorem zl_L_101 : Cond.methodLink "ThirdSonLaw" 101 zm_S_least.1 ∈ zq_tbl := zq_in 637 (by decide +kernel) rfl
theorem zl_S_198 : Cond.methodLink "ThirdSon" 198 zm_JI_bitCount.1 ∈ zq_tbl := zq_in 641 (by decide +kernel) rfl
theorem zl_JI_265 : Cond.constant "java/lang/Integer" 265 (1431655765) ∈ zq_tbl := zq_in 644 (by decide +kernel) rfl
theorem zl_JI_266 : Cond.constant "java/lang/Integer" 266 (858993459) ∈ zq_tbl := zq_in 645 (by decide +kernel) rfl
theorem zl_JI_267 : Cond.constant "java/lang/Integer" 267 (252645135) ∈ zq_tbl := zq_in 646 (by decide +kernel) rfl
theorem zl_S_203 : Cond.methodLink "ThirdSon" 203 zm_S_sameOwnersBy.1 ∈ zq_tbl := zq_in 647 (by decide +kernel) rfl
theorem zl_L_105 : Cond.methodLink "ThirdSonLaw" 105 zm_S_who.1 ∈ zq_tbl := zq_in 651 (by decide +kernel) rfl
theorem zl_L_109 : Cond.methodLink "ThirdSonLaw" 109 zm_S_via.1 ∈ zq_tbl := zq_in 655 (by decide +kernel) rfl
theorem zl_L_113 : Cond.methodLink "ThirdSonLaw" 113 zm_S_odds.1 ∈ zq_tbl := zq_in 659 (by decide +kernel) rfl
theorem zl_S_209 : Cond.constantLong "ThirdSon" 209 (-1) ∈ zq_tbl := zq_in 663 (by decide +kernel) rfl
theorem zl_S_211 : Cond.methodLink "ThirdSon" 211 zm_S_waysTo.1 ∈ zq_tbl := zq_in 664 (by decide +kernel) rfl
theorem zl_S_215 : Cond.methodLink "ThirdSon" 215 zm_S_power.1 ∈ zq_tbl := zq_in 668 (by decide +kernel) rfl
theorem zl_S_218 : Cond.methodLink "ThirdSon" 218 zm_S_lowestTerms.1 ∈ zq_tbl := zq_in 671 (by decide +kernel) rfl
theorem zl_L_118 : Cond.methodLink "ThirdSonLaw" 118 zm_S_turn.1 ∈ zq_tbl := zq_in 674 (by decide +kernel) rfl
theorem zl_L_122 : Cond.methodLink "ThirdSonLaw" 122 zm_S_best.1 ∈ zq_tbl := zq_in 678 (by decide +kernel) rfl
theorem zl_S_222 : Cond.methodLink "ThirdSon" 222 zm_S_waysTryingFor.1 ∈ zq_tbl := zq_in 682 (by decide +kernel) rfl
theorem zl_S_292 : Cond.constantLong "ThirdSon" 292 (-4) ∈ zq_tbl := zq_in 686 (by decide +kernel) rfl
theorem zl_S_294 : Cond.methodLink "ThirdSon" 294 zm_S_waysAtBest.1 ∈ zq_tbl := zq_in 687 (by decide +kernel) rfl
theorem zl_S_286 : Cond.methodLink "ThirdSon" 286 zm_JM_max.1 ∈ zq_tbl := zq_in 691 (by decide +kernel) rfl
theorem zl_L_126 : Cond.methodLink "ThirdSonLaw" 126 zm_S_see.1 ∈ zq_tbl := zq_in 694 (by decide +kernel) rfl
theorem zl_L_130 : Cond.methodLink "ThirdSonLaw" 130 zm_S_forget.1 ∈ zq_tbl := zq_in 698 (by decide +kernel) rfl
theorem zl_L_134 : Cond.methodLink "ThirdSonLaw" 134 zm_S_fits.1 ∈ zq_tbl := zq_in 702 (by decide +kernel) rfl
theorem zl_S_229 : Cond.methodLink "ThirdSon" 229 zm_S_isAsSeen.1 ∈ zq_tbl := zq_in 706 (by decide +kernel) rfl
theorem zl_L_138 : Cond.methodLink "ThirdSonLaw" 138 zm_S_drift.1 ∈ zq_tbl := zq_in 710 (by decide +kernel) rfl
theorem zl_S_232 : Cond.methodLink "ThirdSon" 232 zm_S_nextSeed.1 ∈ zq_tbl := zq_in 714 (by decide +kernel) rfl
theorem zl_S_298 : Cond.constant "ThirdSon" 298 (1103515245) ∈ zq_tbl := zq_in 717 (by decide +kernel) rfl
theorem zl_S_235 : Cond.methodLink "ThirdSon" 235 zm_S_drawn.1 ∈ zq_tbl := zq_in 718 (by decide +kernel) rfl
theorem zl_L_143 : Cond.methodLink "ThirdSonLaw" 143 zm_S_keep.1 ∈ zq_tbl := zq_in 721 (by decide +kernel) rfl
theorem zl_S_238 : Cond.methodLink "ThirdSon" 238 zm_S_image.1 ∈ zq_tbl := zq_in 725 (by decide +kernel) rfl
theorem zl_L_147 : Cond.methodLink "ThirdSonLaw" 147 zm_S_back.1 ∈ zq_tbl := zq_in 729 (by decide +kernel) rfl
theorem zl_L_151 : Cond.methodLink "ThirdSonLaw" 151 zm_S_sheet.1 ∈ zq_tbl := zq_in 733 (by decide +kernel) rfl
theorem zl_S_242 : Cond.methodLink "ThirdSon" 242 zm_H_isSheet.1 ∈ zq_tbl := zq_in 737 (by decide +kernel) rfl
theorem zl_S_245 : Cond.methodLink "ThirdSon" 245 zm_H_isLane.1 ∈ zq_tbl := zq_in 741 (by decide +kernel) rfl
theorem zl_S_248 : Cond.methodLink "ThirdSon" 248 zm_H_renew.1 ∈ zq_tbl := zq_in 745 (by decide +kernel) rfl
theorem zl_H_23 : Cond.methodLink "ThirdSon$Sheets" 23 zm_H_isSheet.1 ∈ zq_tbl := zq_in 749 (by decide +kernel) rfl
theorem zl_L_155 : Cond.methodLink "ThirdSonLaw" 155 zm_S_lay.1 ∈ zq_tbl := zq_in 750 (by decide +kernel) rfl
theorem zl_S_252 : Cond.methodLink "ThirdSon" 252 zm_H_laneOf.1 ∈ zq_tbl := zq_in 754 (by decide +kernel) rfl
theorem zl_S_255 : Cond.methodLink "ThirdSon" 255 zm_H_faultAt.1 ∈ zq_tbl := zq_in 758 (by decide +kernel) rfl
theorem zl_H_27 : Cond.methodLink "ThirdSon$Sheets" 27 zm_H_laneOf.1 ∈ zq_tbl := zq_in 762 (by decide +kernel) rfl
theorem zl_H_31 : Cond.methodLink "ThirdSon$Sheets" 31 zm_H_isCell.1 ∈ zq_tbl := zq_in 763 (by decide +kernel) rfl
theorem zl_H_35 : Cond.methodLink "ThirdSon$Sheets" 35 zm_H_sizeOf.1 ∈ zq_tbl := zq_in 767 (by decide +kernel) rfl
theorem zl_S_258 : Cond.methodLink "ThirdSon" 258 zm_H_put.1 ∈ zq_tbl := zq_in 771 (by decide +kernel) rfl
theorem zl_L_159 : Cond.methodLink "ThirdSonLaw" 159 zm_S_read.1 ∈ zq_tbl := zq_in 775 (by decide +kernel) rfl
theorem zl_S_261 : Cond.methodLink "ThirdSon" 261 zm_H_cell.1 ∈ zq_tbl := zq_in 779 (by decide +kernel) rfl
theorem zl_L_163 : Cond.methodLink "ThirdSonLaw" 163 zm_S_torn.1 ∈ zq_tbl := zq_in 783 (by decide +kernel) rfl
theorem zl_L_167 : Cond.methodLink "ThirdSonLaw" 167 zm_S_count.1 ∈ zq_tbl := zq_in 787 (by decide +kernel) rfl
theorem zl_S_267 : Cond.methodLink "ThirdSon" 267 zm_H_sizeOf.1 ∈ zq_tbl := zq_in 791 (by decide +kernel) rfl
theorem zl_S_270 : Cond.methodLink "ThirdSon" 270 zm_D_ownedThings.1 ∈ zq_tbl := zq_in 792 (by decide +kernel) rfl
theorem zl_S_273 : Cond.methodLink "ThirdSon" 273 zm_D_knownFacts.1 ∈ zq_tbl := zq_in 796 (by decide +kernel) rfl
theorem zl_D_97 : Cond.methodLink "ThirdSon$Duchy" 97 zm_JI_bitCount.1 ∈ zq_tbl := zq_in 800 (by decide +kernel) rfl
theorem zl_S_276 : Cond.methodLink "ThirdSon" 276 zm_D_allTries.1 ∈ zq_tbl := zq_in 801 (by decide +kernel) rfl
theorem zl_L_12 : Cond.methodLink "ThirdSonLaw" 12 zm_M_init.1 ∈ zq_tbl := zq_in 807 (by decide +kernel) rfl
theorem zl_M_7 : Cond.fieldLink "ThirdSonModel" 7 "ThirdSonModel" "state" "[I" ∈ zq_tbl := zq_in 811 (by decide +kernel) rfl
theorem zl_M_13 : Cond.fieldLink "ThirdSonModel" 13 "ThirdSonModel" "parents" "[I" ∈ zq_tbl := zq_in 812 (by decide +kernel) rfl
theorem zl_M_16 : Cond.fieldLink "ThirdSonModel" 16 "ThirdSonModel" "rules" "[I" ∈ zq_tbl := zq_in 813 (by decide +kernel) rfl
theorem zl_M_158 : Cond.fieldLink "ThirdSonModel" 158 "ThirdSonModel" "oneMany" "I" ∈ zq_tbl := zq_in 814 (by decide +kernel) rfl
theorem zl_M_161 : Cond.fieldLink "ThirdSonModel" 161 "ThirdSonModel" "ruleMany" "I" ∈ zq_tbl := zq_in 815 (by decide +kernel) rfl
theorem zl_M_19 : Cond.fieldLink "ThirdSonModel" 19 "ThirdSonModel" "readPage" "[I" ∈ zq_tbl := zq_in 816 (by decide +kernel) rfl
theorem zl_M_22 : Cond.fieldLink "ThirdSonModel" 22 "ThirdSonModel" "readParents" "[I" ∈ zq_tbl := zq_in 817 (by decide +kernel) rfl
theorem zl_M_25 : Cond.fieldLink "ThirdSonModel" 25 "ThirdSonModel" "readRules" "[I" ∈ zq_tbl := zq_in 818 (by decide +kernel) rfl
theorem zl_M_134 : Cond.fieldLink "ThirdSonModel" 134 "ThirdSonModel" "readOnes" "I" ∈ zq_tbl := zq_in 819 (by decide +kernel) rfl
theorem zl_M_125 : Cond.fieldLink "ThirdSonModel" 125 "ThirdSonModel" "readMany" "I" ∈ zq_tbl := zq_in 820 (by decide +kernel) rfl
theorem zl_M_137 : Cond.fieldLink "ThirdSonModel" 137 "ThirdSonModel" "oddsTold" "I" ∈ zq_tbl := zq_in 821 (by decide +kernel) rfl
theorem zl_M_114 : Cond.fieldLink "ThirdSonModel" 114 "ThirdSonModel" "highOne" "I" ∈ zq_tbl := zq_in 822 (by decide +kernel) rfl
theorem zl_M_28 : Cond.fieldLink "ThirdSonModel" 28 "ThirdSonModel" "tape" "[I" ∈ zq_tbl := zq_in 823 (by decide +kernel) rfl
theorem zl_M_69 : Cond.fieldLink "ThirdSonModel" 69 "ThirdSonModel" "taped" "I" ∈ zq_tbl := zq_in 824 (by decide +kernel) rfl
theorem zl_M_155 : Cond.fieldLink "ThirdSonModel" 155 "ThirdSonModel" "fault" "I" ∈ zq_tbl := zq_in 825 (by decide +kernel) rfl
theorem zl_M_73 : Cond.fieldLink "ThirdSonModel" 73 "ThirdSonModel" "broken" "I" ∈ zq_tbl := zq_in 826 (by decide +kernel) rfl
theorem zl_M_79 : Cond.fieldLink "ThirdSonModel" 79 "ThirdSonModel" "brokenAt" "I" ∈ zq_tbl := zq_in 827 (by decide +kernel) rfl
theorem zl_M_85 : Cond.fieldLink "ThirdSonModel" 85 "ThirdSonModel" "spot" "I" ∈ zq_tbl := zq_in 828 (by decide +kernel) rfl
theorem zl_M_76 : Cond.fieldLink "ThirdSonModel" 76 "ThirdSonModel" "here" "I" ∈ zq_tbl := zq_in 829 (by decide +kernel) rfl
theorem zl_M_82 : Cond.fieldLink "ThirdSonModel" 82 "ThirdSonModel" "token" "I" ∈ zq_tbl := zq_in 830 (by decide +kernel) rfl
theorem zl_M_92 : Cond.fieldLink "ThirdSonModel" 92 "ThirdSonModel" "value" "I" ∈ zq_tbl := zq_in 831 (by decide +kernel) rfl
theorem zl_M_31 : Cond.fieldLink "ThirdSonModel" 31 "ThirdSonModel" "cuts" "[I" ∈ zq_tbl := zq_in 832 (by decide +kernel) rfl
theorem zl_M_34 : Cond.fieldLink "ThirdSonModel" 34 "ThirdSonModel" "letters" "[I" ∈ zq_tbl := zq_in 833 (by decide +kernel) rfl
theorem zl_M_37 : Cond.fieldLink "ThirdSonModel" 37 "ThirdSonModel" "mosts" "[I" ∈ zq_tbl := zq_in 834 (by decide +kernel) rfl
theorem zl_M_40 : Cond.fieldLink "ThirdSonModel" 40 "ThirdSonModel" "row" "[I" ∈ zq_tbl := zq_in 835 (by decide +kernel) rfl
theorem zl_M_243 : Cond.fieldLink "ThirdSonModel" 243 "ThirdSonModel" "block" "I" ∈ zq_tbl := zq_in 836 (by decide +kernel) rfl
theorem zl_M_43 : Cond.fieldLink "ThirdSonModel" 43 "ThirdSonModel" "values" "[J" ∈ zq_tbl := zq_in 837 (by decide +kernel) rfl
theorem zl_M_47 : Cond.fieldLink "ThirdSonModel" 47 "ThirdSonModel" "seen" "[I" ∈ zq_tbl := zq_in 838 (by decide +kernel) rfl
theorem zl_M_164 : Cond.fieldLink "ThirdSonModel" 164 "ThirdSonModel" "seenMany" "I" ∈ zq_tbl := zq_in 839 (by decide +kernel) rfl
theorem zl_M_50 : Cond.fieldLink "ThirdSonModel" 50 "ThirdSonModel" "isKept" "[Z" ∈ zq_tbl := zq_in 840 (by decide +kernel) rfl
theorem zl_M_54 : Cond.fieldLink "ThirdSonModel" 54 "ThirdSonModel" "lanes" "[I" ∈ zq_tbl := zq_in 841 (by decide +kernel) rfl
theorem zl_M_57 : Cond.fieldLink "ThirdSonModel" 57 "ThirdSonModel" "lengths" "[I" ∈ zq_tbl := zq_in 842 (by decide +kernel) rfl
theorem zl_M_60 : Cond.fieldLink "ThirdSonModel" 60 "ThirdSonModel" "cells" "[I" ∈ zq_tbl := zq_in 843 (by decide +kernel) rfl
theorem zl_M_294 : Cond.fieldLink "ThirdSonModel" 294 "ThirdSonModel" "torn" "I" ∈ zq_tbl := zq_in 844 (by decide +kernel) rfl
theorem zl_L_17 : Cond.methodLink "ThirdSonLaw" 17 zm_M_feed.1 ∈ zq_tbl := zq_in 916 (by decide +kernel) rfl
theorem zl_M_63 : Cond.constantLong "ThirdSonModel" 63 (127) ∈ zq_tbl := zq_in 920 (by decide +kernel) rfl
theorem zl_M_65 : Cond.methodLink "ThirdSonModel" 65 zm_M_in.1 ∈ zq_tbl := zq_in 921 (by decide +kernel) rfl
theorem zl_L_21 : Cond.methodLink "ThirdSonLaw" 21 zm_M_end.1 ∈ zq_tbl := zq_in 924 (by decide +kernel) rfl
theorem zl_L_26 : Cond.methodLink "ThirdSonLaw" 26 zm_M_text.1 ∈ zq_tbl := zq_in 928 (by decide +kernel) rfl
theorem zl_M_107 : Cond.methodLink "ThirdSonModel" 107 zm_M_step.1 ∈ zq_tbl := zq_in 932 (by decide +kernel) rfl
theorem zl_M_88 : Cond.methodLink "ThirdSonModel" 88 zm_M_byteAt.1 ∈ zq_tbl := zq_in 936 (by decide +kernel) rfl
theorem zl_M_95 : Cond.constantLong "ThirdSonModel" 95 (97) ∈ zq_tbl := zq_in 940 (by decide +kernel) rfl
theorem zl_M_97 : Cond.constantLong "ThirdSonModel" 97 (122) ∈ zq_tbl := zq_in 941 (by decide +kernel) rfl
theorem zl_M_99 : Cond.constantLong "ThirdSonModel" 99 (48) ∈ zq_tbl := zq_in 942 (by decide +kernel) rfl
theorem zl_M_101 : Cond.constantLong "ThirdSonModel" 101 (57) ∈ zq_tbl := zq_in 943 (by decide +kernel) rfl
theorem zl_M_103 : Cond.methodLink "ThirdSonModel" 103 zm_M_fails.1 ∈ zq_tbl := zq_in 944 (by decide +kernel) rfl
theorem zl_M_148 : Cond.methodLink "ThirdSonModel" 148 zm_M_readLine.1 ∈ zq_tbl := zq_in 948 (by decide +kernel) rfl
theorem zl_M_117 : Cond.methodLink "ThirdSonModel" 117 zm_M_nameHere.1 ∈ zq_tbl := zq_in 952 (by decide +kernel) rfl
theorem zl_M_143 : Cond.constantLong "ThirdSonModel" 143 (4) ∈ zq_tbl := zq_in 956 (by decide +kernel) rfl
theorem zl_M_145 : Cond.methodLink "ThirdSonModel" 145 zm_M_readMore.1 ∈ zq_tbl := zq_in 957 (by decide +kernel) rfl
theorem zl_M_110 : Cond.methodLink "ThirdSonModel" 110 zm_M_other.1 ∈ zq_tbl := zq_in 961 (by decide +kernel) rfl
theorem zl_M_131 : Cond.methodLink "ThirdSonModel" 131 zm_M_person.1 ∈ zq_tbl := zq_in 965 (by decide +kernel) rfl
theorem zl_M_140 : Cond.methodLink "ThirdSonModel" 140 zm_M_readRule.1 ∈ zq_tbl := zq_in 969 (by decide +kernel) rfl
theorem zl_M_128 : Cond.methodLink "ThirdSonModel" 128 zm_M_claimHere.1 ∈ zq_tbl := zq_in 973 (by decide +kernel) rfl
theorem zl_M_121 : Cond.constantLong "ThirdSonModel" 121 (7) ∈ zq_tbl := zq_in 977 (by decide +kernel) rfl
theorem zl_M_123 : Cond.constantLong "ThirdSonModel" 123 (9) ∈ zq_tbl := zq_in 978 (by decide +kernel) rfl
theorem zl_M_151 : Cond.methodLink "ThirdSonModel" 151 zm_M_areAlike.1 ∈ zq_tbl := zq_in 979 (by decide +kernel) rfl
theorem zl_L_30 : Cond.methodLink "ThirdSonLaw" 30 zm_M_fault.1 ∈ zq_tbl := zq_in 983 (by decide +kernel) rfl
theorem zl_L_34 : Cond.methodLink "ThirdSonLaw" 34 zm_M_rule.1 ∈ zq_tbl := zq_in 987 (by decide +kernel) rfl
theorem zl_L_39 : Cond.methodLink "ThirdSonLaw" 39 zm_M_one.1 ∈ zq_tbl := zq_in 991 (by decide +kernel) rfl
theorem zl_M_203 : Cond.methodLink "ThirdSonModel" 203 zm_M_isOne.1 ∈ zq_tbl := zq_in 995 (by decide +kernel) rfl
theorem zl_M_207 : Cond.constantLong "ThirdSonModel" 207 (5) ∈ zq_tbl := zq_in 999 (by decide +kernel) rfl
theorem zl_M_173 : Cond.methodLink "ThirdSonModel" 173 zm_M_bornAs.1 ∈ zq_tbl := zq_in 1000 (by decide +kernel) rfl
theorem zl_M_169 : Cond.methodLink "ThirdSonModel" 169 zm_M_isThere.1 ∈ zq_tbl := zq_in 1004 (by decide +kernel) rfl
theorem zl_M_180 : Cond.methodLink "ThirdSonModel" 180 zm_M_childrenOf.1 ∈ zq_tbl := zq_in 1007 (by decide +kernel) rfl
theorem zl_L_43 : Cond.methodLink "ThirdSonLaw" 43 zm_M_odd.1 ∈ zq_tbl := zq_in 1011 (by decide +kernel) rfl
theorem zl_M_209 : Cond.methodLink "ThirdSonModel" 209 zm_M_isFact.1 ∈ zq_tbl := zq_in 1015 (by decide +kernel) rfl
theorem zl_L_47 : Cond.methodLink "ThirdSonLaw" 47 zm_M_law.1 ∈ zq_tbl := zq_in 1018 (by decide +kernel) rfl
theorem zl_M_212 : Cond.methodLink "ThirdSonModel" 212 zm_M_isRule.1 ∈ zq_tbl := zq_in 1022 (by decide +kernel) rfl
theorem zl_M_215 : Cond.constantLong "ThirdSonModel" 215 (6) ∈ zq_tbl := zq_in 1026 (by decide +kernel) rfl
theorem zl_M_187 : Cond.methodLink "ThirdSonModel" 187 zm_M_whoMeet.1 ∈ zq_tbl := zq_in 1027 (by decide +kernel) rfl
theorem zl_M_183 : Cond.methodLink "ThirdSonModel" 183 zm_M_meets.1 ∈ zq_tbl := zq_in 1031 (by decide +kernel) rfl
theorem zl_M_177 : Cond.methodLink "ThirdSonModel" 177 zm_M_isAbove.1 ∈ zq_tbl := zq_in 1035 (by decide +kernel) rfl
theorem zl_M_197 : Cond.methodLink "ThirdSonModel" 197 zm_M_gives.1 ∈ zq_tbl := zq_in 1039 (by decide +kernel) rfl
theorem zl_M_190 : Cond.methodLink "ThirdSonModel" 190 zm_M_givesBy.1 ∈ zq_tbl := zq_in 1043 (by decide +kernel) rfl
theorem zl_L_51 : Cond.methodLink "ThirdSonLaw" 51 zm_M_owner.1 ∈ zq_tbl := zq_in 1047 (by decide +kernel) rfl
theorem zl_M_217 : Cond.methodLink "ThirdSonModel" 217 zm_M_isThing.1 ∈ zq_tbl := zq_in 1051 (by decide +kernel) rfl
theorem zl_M_167 : Cond.constantLong "ThirdSonModel" 167 (3) ∈ zq_tbl := zq_in 1054 (by decide +kernel) rfl
theorem zl_M_220 : Cond.methodLink "ThirdSonModel" 220 zm_M_ownerIn.1 ∈ zq_tbl := zq_in 1055 (by decide +kernel) rfl
theorem zl_M_200 : Cond.methodLink "ThirdSonModel" 200 zm_M_ownerBy.1 ∈ zq_tbl := zq_in 1059 (by decide +kernel) rfl
theorem zl_M_193 : Cond.methodLink "ThirdSonModel" 193 zm_M_ruleBy.1 ∈ zq_tbl := zq_in 1063 (by decide +kernel) rfl
theorem zl_L_55 : Cond.methodLink "ThirdSonLaw" 55 zm_M_by.1 ∈ zq_tbl := zq_in 1067 (by decide +kernel) rfl
theorem zl_L_59 : Cond.methodLink "ThirdSonLaw" 59 zm_M_does.1 ∈ zq_tbl := zq_in 1071 (by decide +kernel) rfl
theorem zl_M_232 : Cond.methodLink "ThirdSonModel" 232 zm_M_done.1 ∈ zq_tbl := zq_in 1075 (by decide +kernel) rfl
theorem zl_M_223 : Cond.methodLink "ThirdSonModel" 223 zm_M_isDeed.1 ∈ zq_tbl := zq_in 1079 (by decide +kernel) rfl
theorem zl_M_226 : Cond.methodLink "ThirdSonModel" 226 zm_M_canDo.1 ∈ zq_tbl := zq_in 1083 (by decide +kernel) rfl
theorem zl_M_229 : Cond.methodLink "ThirdSonModel" 229 zm_M_doesIt.1 ∈ zq_tbl := zq_in 1087 (by decide +kernel) rfl
theorem zl_L_63 : Cond.methodLink "ThirdSonLaw" 63 zm_M_comes.1 ∈ zq_tbl := zq_in 1091 (by decide +kernel) rfl
theorem zl_L_67 : Cond.methodLink "ThirdSonLaw" 67 zm_M_tries.1 ∈ zq_tbl := zq_in 1095 (by decide +kernel) rfl
theorem zl_M_235 : Cond.methodLink "ThirdSonModel" 235 zm_M_sets.1 ∈ zq_tbl := zq_in 1099 (by decide +kernel) rfl
theorem zl_L_71 : Cond.methodLink "ThirdSonLaw" 71 zm_M_hush.1 ∈ zq_tbl := zq_in 1103 (by decide +kernel) rfl
theorem zl_L_75 : Cond.methodLink "ThirdSonLaw" 75 zm_M_weigh.1 ∈ zq_tbl := zq_in 1107 (by decide +kernel) rfl
theorem zl_M_239 : Cond.constantLong "ThirdSonModel" 239 (10) ∈ zq_tbl := zq_in 1111 (by decide +kernel) rfl
theorem zl_L_79 : Cond.methodLink "ThirdSonLaw" 79 zm_M_rank.1 ∈ zq_tbl := zq_in 1112 (by decide +kernel) rfl
theorem zl_L_83 : Cond.methodLink "ThirdSonLaw" 83 zm_M_pick.1 ∈ zq_tbl := zq_in 1116 (by decide +kernel) rfl
theorem zl_M_241 : Cond.constantLong "ThirdSonModel" 241 (2) ∈ zq_tbl := zq_in 1120 (by decide +kernel) rfl
theorem zl_L_88 : Cond.methodLink "ThirdSonLaw" 88 zm_M_claim.1 ∈ zq_tbl := zq_in 1121 (by decide +kernel) rfl
theorem zl_M_250 : Cond.methodLink "ThirdSonModel" 250 zm_M_isHisBy.1 ∈ zq_tbl := zq_in 1125 (by decide +kernel) rfl
theorem zl_M_246 : Cond.methodLink "ThirdSonModel" 246 zm_M_copies.1 ∈ zq_tbl := zq_in 1129 (by decide +kernel) rfl
theorem zl_L_92 : Cond.methodLink "ThirdSonLaw" 92 zm_M_pivot.1 ∈ zq_tbl := zq_in 1133 (by decide +kernel) rfl
theorem zl_L_96 : Cond.methodLink "ThirdSonLaw" 96 zm_M_spoils.1 ∈ zq_tbl := zq_in 1137 (by decide +kernel) rfl
theorem zl_L_100 : Cond.methodLink "ThirdSonLaw" 100 zm_M_dead.1 ∈ zq_tbl := zq_in 1141 (by decide +kernel) rfl
theorem zl_M_254 : Cond.methodLink "ThirdSonModel" 254 zm_M_cases.1 ∈ zq_tbl := zq_in 1145 (by decide +kernel) rfl
theorem zl_L_104 : Cond.methodLink "ThirdSonLaw" 104 zm_M_least.1 ∈ zq_tbl := zq_in 1149 (by decide +kernel) rfl
theorem zl_M_257 : Cond.methodLink "ThirdSonModel" 257 zm_M_bitsOf.1 ∈ zq_tbl := zq_in 1153 (by decide +kernel) rfl
theorem zl_M_260 : Cond.methodLink "ThirdSonModel" 260 zm_M_isEnough.1 ∈ zq_tbl := zq_in 1156 (by decide +kernel) rfl
theorem zl_L_108 : Cond.methodLink "ThirdSonLaw" 108 zm_M_who.1 ∈ zq_tbl := zq_in 1160 (by decide +kernel) rfl
theorem zl_L_112 : Cond.methodLink "ThirdSonLaw" 112 zm_M_via.1 ∈ zq_tbl := zq_in 1164 (by decide +kernel) rfl
theorem zl_L_117 : Cond.methodLink "ThirdSonLaw" 117 zm_M_odds.1 ∈ zq_tbl := zq_in 1168 (by decide +kernel) rfl
theorem zl_M_263 : Cond.constantLong "ThirdSonModel" 263 (-1) ∈ zq_tbl := zq_in 1172 (by decide +kernel) rfl
theorem zl_M_265 : Cond.methodLink "ThirdSonModel" 265 zm_M_lowest.1 ∈ zq_tbl := zq_in 1173 (by decide +kernel) rfl
theorem zl_L_121 : Cond.methodLink "ThirdSonLaw" 121 zm_M_turn.1 ∈ zq_tbl := zq_in 1176 (by decide +kernel) rfl
theorem zl_L_125 : Cond.methodLink "ThirdSonLaw" 125 zm_M_best.1 ∈ zq_tbl := zq_in 1180 (by decide +kernel) rfl
theorem zl_M_285 : Cond.methodLink "ThirdSonModel" 285 zm_M_layValues.1 ∈ zq_tbl := zq_in 1184 (by decide +kernel) rfl
theorem zl_M_273 : Cond.methodLink "ThirdSonModel" 273 zm_M_stops.1 ∈ zq_tbl := zq_in 1188 (by decide +kernel) rfl
theorem zl_M_277 : Cond.methodLink "ThirdSonModel" 277 zm_M_tens.1 ∈ zq_tbl := zq_in 1192 (by decide +kernel) rfl
theorem zl_M_269 : Cond.constantLong "ThirdSonModel" 269 (100) ∈ zq_tbl := zq_in 1195 (by decide +kernel) rfl
theorem zl_M_271 : Cond.constantLong "ThirdSonModel" 271 (1000) ∈ zq_tbl := zq_in 1196 (by decide +kernel) rfl
theorem zl_M_281 : Cond.methodLink "ThirdSonModel" 281 zm_M_triesFor.1 ∈ zq_tbl := zq_in 1197 (by decide +kernel) rfl
theorem zl_L_129 : Cond.methodLink "ThirdSonLaw" 129 zm_M_see.1 ∈ zq_tbl := zq_in 1201 (by decide +kernel) rfl
theorem zl_L_133 : Cond.methodLink "ThirdSonLaw" 133 zm_M_forget.1 ∈ zq_tbl := zq_in 1205 (by decide +kernel) rfl
theorem zl_L_137 : Cond.methodLink "ThirdSonLaw" 137 zm_M_fits.1 ∈ zq_tbl := zq_in 1209 (by decide +kernel) rfl
theorem zl_L_142 : Cond.methodLink "ThirdSonLaw" 142 zm_M_drift.1 ∈ zq_tbl := zq_in 1213 (by decide +kernel) rfl
theorem zl_M_289 : Cond.constantLong "ThirdSonModel" 289 (60) ∈ zq_tbl := zq_in 1217 (by decide +kernel) rfl
theorem zl_M_291 : Cond.constant "ThirdSonModel" 291 (1103515245) ∈ zq_tbl := zq_in 1218 (by decide +kernel) rfl
theorem zl_L_146 : Cond.methodLink "ThirdSonLaw" 146 zm_M_keep.1 ∈ zq_tbl := zq_in 1219 (by decide +kernel) rfl
theorem zl_L_150 : Cond.methodLink "ThirdSonLaw" 150 zm_M_back.1 ∈ zq_tbl := zq_in 1223 (by decide +kernel) rfl
theorem zl_L_154 : Cond.methodLink "ThirdSonLaw" 154 zm_M_sheet.1 ∈ zq_tbl := zq_in 1227 (by decide +kernel) rfl
theorem zl_L_158 : Cond.methodLink "ThirdSonLaw" 158 zm_M_lay.1 ∈ zq_tbl := zq_in 1231 (by decide +kernel) rfl
theorem zl_L_162 : Cond.methodLink "ThirdSonLaw" 162 zm_M_read.1 ∈ zq_tbl := zq_in 1235 (by decide +kernel) rfl
theorem zl_M_292 : Cond.constantLong "ThirdSonModel" 292 (20) ∈ zq_tbl := zq_in 1239 (by decide +kernel) rfl
theorem zl_L_166 : Cond.methodLink "ThirdSonLaw" 166 zm_M_torn.1 ∈ zq_tbl := zq_in 1240 (by decide +kernel) rfl
theorem zl_L_170 : Cond.methodLink "ThirdSonLaw" 170 zm_M_count.1 ∈ zq_tbl := zq_in 1244 (by decide +kernel) rfl
theorem zl_JS_9 : Cond.fieldLink "java/lang/String" 9 "java/lang/String" "value" "[B" ∈ zq_tbl := zq_in 1248 (by decide +kernel) rfl
theorem zl_JS_15 : Cond.fieldLink "java/lang/String" 15 "java/lang/String" "coder" "B" ∈ zq_tbl := zq_in 1249 (by decide +kernel) rfl
theorem zw_D_clear : zq_MV zm_D_clear 0 := ⟨zq_in 161 (by decide +kernel) rfl, zq_in 159 (by decide +kernel) rfl, zq_in 160 (by decide +kernel) rfl, zq_in 65 (by decide +kernel) rfl, by decide +kernel, by decide +kernel, by decide +kernel, by decide +kernel⟩
theorem zw_D_copyFrom : zq_MV zm_D_copyFrom 1 := ⟨zq_in 586 (by decide +kernel) rfl, zq_in 584 (by decide +kernel) rfl, zq_in 585 (by decide +kernel) rfl, zq_in 65 (by decide +kernel) rfl, by decide +kernel, by decide +kernel, by decide +kernel, by decide +kernel⟩
theorem zw_D_addOne : zq_MV zm_D_addOne 1 := ⟨zq_in 384 (by decide +kernel) rfl, zq_in 382 (by decide +kernel) rfl, zq_in 383 (by decide +kernel) rfl, zq_in 65 (by decide +kernel) rfl, by decide +kernel, by decide +kernel, by decide +kernel, by decide +kernel⟩
theorem zw_D_addRule : zq_MV zm_D_addRule 5 := ⟨zq_in 445 (by decide +kernel) rfl, zq_in 443 (by decide +kernel) rfl, zq_in 444 (by decide +kernel) rfl, zq_in 65 (by decide +kernel) rfl, by decide +kernel, by decide +kernel, by decide +kernel, by decide +kernel⟩
theorem zw_D_isOne : zq_MV zm_D_isOne 1 := ⟨zq_in 380 (by decide +kernel) rfl, zq_in 378 (by decide +kernel) rfl, zq_in 379 (by decide +kernel) rfl, zq_in 65 (by decide +kernel) rfl, by decide +kernel, by decide +kernel, by decide +kernel, by decide +kernel⟩
theorem zw_D_isRule : zq_MV zm_D_isRule 1 := ⟨zq_in 492 (by decide +kernel) rfl, zq_in 490 (by decide +kernel) rfl, zq_in 491 (by decide +kernel) rfl, zq_in 65 (by decide +kernel) rfl, by decide +kernel, by decide +kernel, by decide +kernel, by decide +kernel⟩
theorem zw_D_isGone : zq_MV zm_D_isGone 1 := ⟨zq_in 411 (by decide +kernel) rfl, zq_in 409 (by decide +kernel) rfl, zq_in 410 (by decide +kernel) rfl, zq_in 65 (by decide +kernel) rfl, by decide +kernel, by decide +kernel, by decide +kernel, by decide +kernel⟩
theorem zw_D_isKnown : zq_MV zm_D_isKnown 2 := ⟨zq_in 546 (by decide +kernel) rfl, zq_in 544 (by decide +kernel) rfl, zq_in 545 (by decide +kernel) rfl, zq_in 65 (by decide +kernel) rfl, by decide +kernel, by decide +kernel, by decide +kernel, by decide +kernel⟩
theorem zw_D_everybody : zq_MV zm_D_everybody 0 := ⟨zq_in 453 (by decide +kernel) rfl, zq_in 451 (by decide +kernel) rfl, zq_in 452 (by decide +kernel) rfl, zq_in 65 (by decide +kernel) rfl, by decide +kernel, by decide +kernel, by decide +kernel, by decide +kernel⟩
theorem zw_D_allRules : zq_MV zm_D_allRules 0 := ⟨zq_in 615 (by decide +kernel) rfl, zq_in 613 (by decide +kernel) rfl, zq_in 614 (by decide +kernel) rfl, zq_in 65 (by decide +kernel) rfl, by decide +kernel, by decide +kernel, by decide +kernel, by decide +kernel⟩
theorem zw_D_cases : zq_MV zm_D_cases 0 := ⟨zq_in 623 (by decide +kernel) rfl, zq_in 621 (by decide +kernel) rfl, zq_in 622 (by decide +kernel) rfl, zq_in 65 (by decide +kernel) rfl, by decide +kernel, by decide +kernel, by decide +kernel, by decide +kernel⟩
theorem zw_D_placeAmongBorn : zq_MV zm_D_placeAmongBorn 2 := ⟨zq_in 475 (by decide +kernel) rfl, zq_in 473 (by decide +kernel) rfl, zq_in 474 (by decide +kernel) rfl, zq_in 65 (by decide +kernel) rfl, by decide +kernel, by decide +kernel, by decide +kernel, by decide +kernel⟩
theorem zw_D_childrenLeft : zq_MV zm_D_childrenLeft 2 := ⟨zq_in 479 (by decide +kernel) rfl, zq_in 477 (by decide +kernel) rfl, zq_in 478 (by decide +kernel) rfl, zq_in 65 (by decide +kernel) rfl, by decide +kernel, by decide +kernel, by decide +kernel, by decide +kernel⟩
theorem zw_D_meets : zq_MV zm_D_meets 3 := ⟨zq_in 500 (by decide +kernel) rfl, zq_in 498 (by decide +kernel) rfl, zq_in 499 (by decide +kernel) rfl, zq_in 65 (by decide +kernel) rfl, by decide +kernel, by decide +kernel, by decide +kernel, by decide +kernel⟩
theorem zw_D_whoMeet : zq_MV zm_D_whoMeet 2 := ⟨zq_in 496 (by decide +kernel) rfl, zq_in 494 (by decide +kernel) rfl, zq_in 495 (by decide +kernel) rfl, zq_in 65 (by decide +kernel) rfl, by decide +kernel, by decide +kernel, by decide +kernel, by decide +kernel⟩
theorem zw_D_receiver : zq_MV zm_D_receiver 2 := ⟨zq_in 507 (by decide +kernel) rfl, zq_in 505 (by decide +kernel) rfl, zq_in 506 (by decide +kernel) rfl, zq_in 65 (by decide +kernel) rfl, by decide +kernel, by decide +kernel, by decide +kernel, by decide +kernel⟩
theorem zw_D_rightOn : zq_MV zm_D_rightOn 3 := ⟨zq_in 526 (by decide +kernel) rfl, zq_in 524 (by decide +kernel) rfl, zq_in 525 (by decide +kernel) rfl, zq_in 65 (by decide +kernel) rfl, by decide +kernel, by decide +kernel, by decide +kernel, by decide +kernel⟩
theorem zw_D_ownerIn : zq_MV zm_D_ownerIn 3 := ⟨zq_in 522 (by decide +kernel) rfl, zq_in 520 (by decide +kernel) rfl, zq_in 521 (by decide +kernel) rfl, zq_in 65 (by decide +kernel) rfl, by decide +kernel, by decide +kernel, by decide +kernel, by decide +kernel⟩
theorem zw_D_ownerNow : zq_MV zm_D_ownerNow 1 := ⟨zq_in 518 (by decide +kernel) rfl, zq_in 516 (by decide +kernel) rfl, zq_in 517 (by decide +kernel) rfl, zq_in 65 (by decide +kernel) rfl, by decide +kernel, by decide +kernel, by decide +kernel, by decide +kernel⟩
theorem zw_D_thingsOf : zq_MV zm_D_thingsOf 1 := ⟨zq_in 606 (by decide +kernel) rfl, zq_in 604 (by decide +kernel) rfl, zq_in 605 (by decide +kernel) rfl, zq_in 65 (by decide +kernel) rfl, by decide +kernel, by decide +kernel, by decide +kernel, by decide +kernel⟩
theorem zw_D_givingRules : zq_MV zm_D_givingRules 1 := ⟨zq_in 627 (by decide +kernel) rfl, zq_in 625 (by decide +kernel) rfl, zq_in 626 (by decide +kernel) rfl, zq_in 65 (by decide +kernel) rfl, by decide +kernel, by decide +kernel, by decide +kernel, by decide +kernel⟩
theorem zw_D_act : zq_MV zm_D_act 1 := ⟨zq_in 540 (by decide +kernel) rfl, zq_in 538 (by decide +kernel) rfl, zq_in 539 (by decide +kernel) rfl, zq_in 65 (by decide +kernel) rfl, by decide +kernel, by decide +kernel, by decide +kernel, by decide +kernel⟩
theorem zw_D_takeBack : zq_MV zm_D_takeBack 1 := ⟨zq_in 594 (by decide +kernel) rfl, zq_in 592 (by decide +kernel) rfl, zq_in 593 (by decide +kernel) rfl, zq_in 65 (by decide +kernel) rfl, by decide +kernel, by decide +kernel, by decide +kernel, by decide +kernel⟩
theorem zw_D_hasEqualRanks : zq_MV zm_D_hasEqualRanks 0 := ⟨zq_in 457 (by decide +kernel) rfl, zq_in 455 (by decide +kernel) rfl, zq_in 456 (by decide +kernel) rfl, zq_in 65 (by decide +kernel) rfl, by decide +kernel, by decide +kernel, by decide +kernel, by decide +kernel⟩
theorem zw_D_ownedThings : zq_MV zm_D_ownedThings 0 := ⟨zq_in 795 (by decide +kernel) rfl, zq_in 793 (by decide +kernel) rfl, zq_in 794 (by decide +kernel) rfl, zq_in 65 (by decide +kernel) rfl, by decide +kernel, by decide +kernel, by decide +kernel, by decide +kernel⟩
theorem zw_D_knownFacts : zq_MV zm_D_knownFacts 0 := ⟨zq_in 799 (by decide +kernel) rfl, zq_in 797 (by decide +kernel) rfl, zq_in 798 (by decide +kernel) rfl, zq_in 65 (by decide +kernel) rfl, by decide +kernel, by decide +kernel, by decide +kernel, by decide +kernel⟩
theorem zw_D_allTries : zq_MV zm_D_allTries 0 := ⟨zq_in 804 (by decide +kernel) rfl, zq_in 802 (by decide +kernel) rfl, zq_in 803 (by decide +kernel) rfl, zq_in 65 (by decide +kernel) rfl, by decide +kernel, by decide +kernel, by decide +kernel, by decide +kernel⟩
theorem zw_H_isSheet : zq_MV zm_H_isSheet 1 := ⟨zq_in 740 (by decide +kernel) rfl, zq_in 738 (by decide +kernel) rfl, zq_in 739 (by decide +kernel) rfl, zq_in 64 (by decide +kernel) rfl, by decide +kernel, by decide +kernel, by decide +kernel, by decide +kernel⟩
theorem zw_H_isLane : zq_MV zm_H_isLane 1 := ⟨zq_in 744 (by decide +kernel) rfl, zq_in 742 (by decide +kernel) rfl, zq_in 743 (by decide +kernel) rfl, zq_in 64 (by decide +kernel) rfl, by decide +kernel, by decide +kernel, by decide +kernel, by decide +kernel⟩
theorem zw_H_laneOf : zq_MV zm_H_laneOf 1 := ⟨zq_in 757 (by decide +kernel) rfl, zq_in 755 (by decide +kernel) rfl, zq_in 756 (by decide +kernel) rfl, zq_in 64 (by decide +kernel) rfl, by decide +kernel, by decide +kernel, by decide +kernel, by decide +kernel⟩
theorem zw_H_sizeOf : zq_MV zm_H_sizeOf 1 := ⟨zq_in 770 (by decide +kernel) rfl, zq_in 768 (by decide +kernel) rfl, zq_in 769 (by decide +kernel) rfl, zq_in 64 (by decide +kernel) rfl, by decide +kernel, by decide +kernel, by decide +kernel, by decide +kernel⟩
theorem zw_H_renew : zq_MV zm_H_renew 3 := ⟨zq_in 748 (by decide +kernel) rfl, zq_in 746 (by decide +kernel) rfl, zq_in 747 (by decide +kernel) rfl, zq_in 64 (by decide +kernel) rfl, by decide +kernel, by decide +kernel, by decide +kernel, by decide +kernel⟩
theorem zw_H_faultAt : zq_MV zm_H_faultAt 3 := ⟨zq_in 761 (by decide +kernel) rfl, zq_in 759 (by decide +kernel) rfl, zq_in 760 (by decide +kernel) rfl, zq_in 64 (by decide +kernel) rfl, by decide +kernel, by decide +kernel, by decide +kernel, by decide +kernel⟩
theorem zw_H_put : zq_MV zm_H_put 3 := ⟨zq_in 774 (by decide +kernel) rfl, zq_in 772 (by decide +kernel) rfl, zq_in 773 (by decide +kernel) rfl, zq_in 64 (by decide +kernel) rfl, by decide +kernel, by decide +kernel, by decide +kernel, by decide +kernel⟩
theorem zw_H_cell : zq_MV zm_H_cell 2 := ⟨zq_in 782 (by decide +kernel) rfl, zq_in 780 (by decide +kernel) rfl, zq_in 781 (by decide +kernel) rfl, zq_in 64 (by decide +kernel) rfl, by decide +kernel, by decide +kernel, by decide +kernel, by decide +kernel⟩
theorem zw_H_isCell : zq_MV zm_H_isCell 2 := ⟨zq_in 766 (by decide +kernel) rfl, zq_in 765 (by decide +kernel) rfl, zq_in 24 (by decide +kernel) rfl, zq_in 64 (by decide +kernel) rfl, by decide +kernel, by decide +kernel, by decide +kernel, by decide +kernel⟩
theorem zw_P_append : zq_MV zm_P_append 1 := ⟨zq_in 272 (by decide +kernel) rfl, zq_in 270 (by decide +kernel) rfl, zq_in 271 (by decide +kernel) rfl, zq_in 62 (by decide +kernel) rfl, by decide +kernel, by decide +kernel, by decide +kernel, by decide +kernel⟩
theorem zw_P_rewind : zq_MV zm_P_rewind 0 := ⟨zq_in 289 (by decide +kernel) rfl, zq_in 287 (by decide +kernel) rfl, zq_in 288 (by decide +kernel) rfl, zq_in 62 (by decide +kernel) rfl, by decide +kernel, by decide +kernel, by decide +kernel, by decide +kernel⟩
theorem zw_P_advance : zq_MV zm_P_advance 0 := ⟨zq_in 293 (by decide +kernel) rfl, zq_in 291 (by decide +kernel) rfl, zq_in 292 (by decide +kernel) rfl, zq_in 62 (by decide +kernel) rfl, by decide +kernel, by decide +kernel, by decide +kernel, by decide +kernel⟩
theorem zw_P_isWord : zq_MV zm_P_isWord 1 := ⟨zq_in 320 (by decide +kernel) rfl, zq_in 318 (by decide +kernel) rfl, zq_in 319 (by decide +kernel) rfl, zq_in 62 (by decide +kernel) rfl, by decide +kernel, by decide +kernel, by decide +kernel, by decide +kernel⟩
theorem zw_P_readName : zq_MV zm_P_readName 0 := ⟨zq_in 304 (by decide +kernel) rfl, zq_in 303 (by decide +kernel) rfl, zq_in 1 (by decide +kernel) rfl, zq_in 62 (by decide +kernel) rfl, by decide +kernel, by decide +kernel, by decide +kernel, by decide +kernel⟩
theorem zw_P_readNumber : zq_MV zm_P_readNumber 0 := ⟨zq_in 311 (by decide +kernel) rfl, zq_in 310 (by decide +kernel) rfl, zq_in 2 (by decide +kernel) rfl, zq_in 62 (by decide +kernel) rfl, by decide +kernel, by decide +kernel, by decide +kernel, by decide +kernel⟩
theorem zw_P_byteAt : zq_MV zm_P_byteAt 1 := ⟨zq_in 297 (by decide +kernel) rfl, zq_in 296 (by decide +kernel) rfl, zq_in 0 (by decide +kernel) rfl, zq_in 62 (by decide +kernel) rfl, by decide +kernel, by decide +kernel, by decide +kernel, by decide +kernel⟩
theorem zw_P_isLetter : zq_MS zm_P_isLetter 1 := ⟨zq_in 300 (by decide +kernel) rfl, zq_in 299 (by decide +kernel) rfl, zq_in 62 (by decide +kernel) rfl, by decide +kernel, by decide +kernel, by decide +kernel, by decide +kernel⟩
theorem zw_P_isFigure : zq_MS zm_P_isFigure 1 := ⟨zq_in 307 (by decide +kernel) rfl, zq_in 306 (by decide +kernel) rfl, zq_in 62 (by decide +kernel) rfl, by decide +kernel, by decide +kernel, by decide +kernel, by decide +kernel⟩
theorem zw_E_tell : zq_MV zm_E_tell 2 := ⟨zq_in 284 (by decide +kernel) rfl, zq_in 282 (by decide +kernel) rfl, zq_in 283 (by decide +kernel) rfl, zq_in 63 (by decide +kernel) rfl, by decide +kernel, by decide +kernel, by decide +kernel, by decide +kernel⟩
theorem zw_E_checkWhole : zq_MV zm_E_checkWhole 2 := ⟨zq_in 449 (by decide +kernel) rfl, zq_in 448 (by decide +kernel) rfl, zq_in 13 (by decide +kernel) rfl, zq_in 63 (by decide +kernel) rfl, by decide +kernel, by decide +kernel, by decide +kernel, by decide +kernel⟩
theorem zw_E_tellLine : zq_MV zm_E_tellLine 2 := ⟨zq_in 315 (by decide +kernel) rfl, zq_in 314 (by decide +kernel) rfl, zq_in 3 (by decide +kernel) rfl, zq_in 63 (by decide +kernel) rfl, by decide +kernel, by decide +kernel, by decide +kernel, by decide +kernel⟩
theorem zw_E_tellOne : zq_MV zm_E_tellOne 2 := ⟨zq_in 372 (by decide +kernel) rfl, zq_in 371 (by decide +kernel) rfl, zq_in 4 (by decide +kernel) rfl, zq_in 63 (by decide +kernel) rfl, by decide +kernel, by decide +kernel, by decide +kernel, by decide +kernel⟩
theorem zw_E_tellFact : zq_MV zm_E_tellFact 2 := ⟨zq_in 394 (by decide +kernel) rfl, zq_in 393 (by decide +kernel) rfl, zq_in 7 (by decide +kernel) rfl, zq_in 63 (by decide +kernel) rfl, by decide +kernel, by decide +kernel, by decide +kernel, by decide +kernel⟩
theorem zw_E_tellGone : zq_MV zm_E_tellGone 2 := ⟨zq_in 407 (by decide +kernel) rfl, zq_in 406 (by decide +kernel) rfl, zq_in 10 (by decide +kernel) rfl, zq_in 63 (by decide +kernel) rfl, by decide +kernel, by decide +kernel, by decide +kernel, by decide +kernel⟩
theorem zw_E_tellOdds : zq_MV zm_E_tellOdds 2 := ⟨zq_in 416 (by decide +kernel) rfl, zq_in 415 (by decide +kernel) rfl, zq_in 11 (by decide +kernel) rfl, zq_in 63 (by decide +kernel) rfl, by decide +kernel, by decide +kernel, by decide +kernel, by decide +kernel⟩
theorem zw_E_tellRule : zq_MV zm_E_tellRule 2 := ⟨zq_in 424 (by decide +kernel) rfl, zq_in 423 (by decide +kernel) rfl, zq_in 12 (by decide +kernel) rfl, zq_in 63 (by decide +kernel) rfl, by decide +kernel, by decide +kernel, by decide +kernel, by decide +kernel⟩
theorem zw_E_claimNamed : zq_MS zm_E_claimNamed 1 := ⟨zq_in 427 (by decide +kernel) rfl, zq_in 426 (by decide +kernel) rfl, zq_in 63 (by decide +kernel) rfl, by decide +kernel, by decide +kernel, by decide +kernel, by decide +kernel⟩
theorem zw_E_mostOf : zq_MS zm_E_mostOf 1 := ⟨zq_in 435 (by decide +kernel) rfl, zq_in 434 (by decide +kernel) rfl, zq_in 63 (by decide +kernel) rfl, by decide +kernel, by decide +kernel, by decide +kernel, by decide +kernel⟩
theorem zw_E_pickNamed : zq_MS zm_E_pickNamed 1 := ⟨zq_in 438 (by decide +kernel) rfl, zq_in 437 (by decide +kernel) rfl, zq_in 63 (by decide +kernel) rfl, by decide +kernel, by decide +kernel, by decide +kernel, by decide +kernel⟩
theorem zw_E_number : zq_MV zm_E_number 3 := ⟨zq_in 398 (by decide +kernel) rfl, zq_in 397 (by decide +kernel) rfl, zq_in 8 (by decide +kernel) rfl, zq_in 63 (by decide +kernel) rfl, by decide +kernel, by decide +kernel, by decide +kernel, by decide +kernel⟩
theorem zw_E_stop : zq_MV zm_E_stop 1 := ⟨zq_in 402 (by decide +kernel) rfl, zq_in 401 (by decide +kernel) rfl, zq_in 9 (by decide +kernel) rfl, zq_in 63 (by decide +kernel) rfl, by decide +kernel, by decide +kernel, by decide +kernel, by decide +kernel⟩
theorem zw_E_misplaced : zq_MV zm_E_misplaced 1 := ⟨zq_in 389 (by decide +kernel) rfl, zq_in 388 (by decide +kernel) rfl, zq_in 6 (by decide +kernel) rfl, zq_in 63 (by decide +kernel) rfl, by decide +kernel, by decide +kernel, by decide +kernel, by decide +kernel⟩
theorem zw_E_fail : zq_MV zm_E_fail 2 := ⟨zq_in 376 (by decide +kernel) rfl, zq_in 375 (by decide +kernel) rfl, zq_in 5 (by decide +kernel) rfl, zq_in 63 (by decide +kernel) rfl, by decide +kernel, by decide +kernel, by decide +kernel, by decide +kernel⟩
theorem zw_S_feed : zq_MV zm_S_feed 1 := ⟨zq_in 268 (by decide +kernel) rfl, zq_in 266 (by decide +kernel) rfl, zq_in 267 (by decide +kernel) rfl, zq_in 61 (by decide +kernel) rfl, by decide +kernel, by decide +kernel, by decide +kernel, by decide +kernel⟩
theorem zw_S_end : zq_MV zm_S_end 1 := ⟨zq_in 276 (by decide +kernel) rfl, zq_in 274 (by decide +kernel) rfl, zq_in 275 (by decide +kernel) rfl, zq_in 61 (by decide +kernel) rfl, by decide +kernel, by decide +kernel, by decide +kernel, by decide +kernel⟩
theorem zw_S_text : zq_MV zm_S_text 0 := ⟨zq_in 280 (by decide +kernel) rfl, zq_in 278 (by decide +kernel) rfl, zq_in 279 (by decide +kernel) rfl, zq_in 61 (by decide +kernel) rfl, by decide +kernel, by decide +kernel, by decide +kernel, by decide +kernel⟩
theorem zw_S_fault : zq_MV zm_S_fault 0 := ⟨zq_in 461 (by decide +kernel) rfl, zq_in 459 (by decide +kernel) rfl, zq_in 460 (by decide +kernel) rfl, zq_in 61 (by decide +kernel) rfl, by decide +kernel, by decide +kernel, by decide +kernel, by decide +kernel⟩
theorem zw_S_rule : zq_MV zm_S_rule 1 := ⟨zq_in 465 (by decide +kernel) rfl, zq_in 463 (by decide +kernel) rfl, zq_in 464 (by decide +kernel) rfl, zq_in 61 (by decide +kernel) rfl, by decide +kernel, by decide +kernel, by decide +kernel, by decide +kernel⟩
theorem zw_S_one : zq_MV zm_S_one 2 := ⟨zq_in 469 (by decide +kernel) rfl, zq_in 467 (by decide +kernel) rfl, zq_in 468 (by decide +kernel) rfl, zq_in 61 (by decide +kernel) rfl, by decide +kernel, by decide +kernel, by decide +kernel, by decide +kernel⟩
theorem zw_S_odd : zq_MV zm_S_odd 1 := ⟨zq_in 483 (by decide +kernel) rfl, zq_in 481 (by decide +kernel) rfl, zq_in 482 (by decide +kernel) rfl, zq_in 61 (by decide +kernel) rfl, by decide +kernel, by decide +kernel, by decide +kernel, by decide +kernel⟩
theorem zw_S_law : zq_MV zm_S_law 2 := ⟨zq_in 488 (by decide +kernel) rfl, zq_in 486 (by decide +kernel) rfl, zq_in 487 (by decide +kernel) rfl, zq_in 61 (by decide +kernel) rfl, by decide +kernel, by decide +kernel, by decide +kernel, by decide +kernel⟩
theorem zw_S_owner : zq_MV zm_S_owner 1 := ⟨zq_in 511 (by decide +kernel) rfl, zq_in 509 (by decide +kernel) rfl, zq_in 510 (by decide +kernel) rfl, zq_in 61 (by decide +kernel) rfl, by decide +kernel, by decide +kernel, by decide +kernel, by decide +kernel⟩
theorem zw_S_by : zq_MV zm_S_by 1 := ⟨zq_in 531 (by decide +kernel) rfl, zq_in 529 (by decide +kernel) rfl, zq_in 530 (by decide +kernel) rfl, zq_in 61 (by decide +kernel) rfl, by decide +kernel, by decide +kernel, by decide +kernel, by decide +kernel⟩
theorem zw_S_does : zq_MV zm_S_does 1 := ⟨zq_in 536 (by decide +kernel) rfl, zq_in 534 (by decide +kernel) rfl, zq_in 535 (by decide +kernel) rfl, zq_in 61 (by decide +kernel) rfl, by decide +kernel, by decide +kernel, by decide +kernel, by decide +kernel⟩
theorem zw_S_comes : zq_MV zm_S_comes 1 := ⟨zq_in 550 (by decide +kernel) rfl, zq_in 548 (by decide +kernel) rfl, zq_in 549 (by decide +kernel) rfl, zq_in 61 (by decide +kernel) rfl, by decide +kernel, by decide +kernel, by decide +kernel, by decide +kernel⟩
theorem zw_S_tries : zq_MV zm_S_tries 2 := ⟨zq_in 554 (by decide +kernel) rfl, zq_in 552 (by decide +kernel) rfl, zq_in 553 (by decide +kernel) rfl, zq_in 61 (by decide +kernel) rfl, by decide +kernel, by decide +kernel, by decide +kernel, by decide +kernel⟩
theorem zw_S_hush : zq_MV zm_S_hush 2 := ⟨zq_in 558 (by decide +kernel) rfl, zq_in 556 (by decide +kernel) rfl, zq_in 557 (by decide +kernel) rfl, zq_in 61 (by decide +kernel) rfl, by decide +kernel, by decide +kernel, by decide +kernel, by decide +kernel⟩
theorem zw_S_weigh : zq_MV zm_S_weigh 2 := ⟨zq_in 563 (by decide +kernel) rfl, zq_in 561 (by decide +kernel) rfl, zq_in 562 (by decide +kernel) rfl, zq_in 61 (by decide +kernel) rfl, by decide +kernel, by decide +kernel, by decide +kernel, by decide +kernel⟩
theorem zw_S_rank : zq_MV zm_S_rank 2 := ⟨zq_in 567 (by decide +kernel) rfl, zq_in 565 (by decide +kernel) rfl, zq_in 566 (by decide +kernel) rfl, zq_in 61 (by decide +kernel) rfl, by decide +kernel, by decide +kernel, by decide +kernel, by decide +kernel⟩
theorem zw_S_pick : zq_MV zm_S_pick 2 := ⟨zq_in 571 (by decide +kernel) rfl, zq_in 569 (by decide +kernel) rfl, zq_in 570 (by decide +kernel) rfl, zq_in 61 (by decide +kernel) rfl, by decide +kernel, by decide +kernel, by decide +kernel, by decide +kernel⟩
theorem zw_S_claim : zq_MV zm_S_claim 4 := ⟨zq_in 578 (by decide +kernel) rfl, zq_in 576 (by decide +kernel) rfl, zq_in 577 (by decide +kernel) rfl, zq_in 61 (by decide +kernel) rfl, by decide +kernel, by decide +kernel, by decide +kernel, by decide +kernel⟩
theorem zw_S_pivot : zq_MV zm_S_pivot 1 := ⟨zq_in 598 (by decide +kernel) rfl, zq_in 596 (by decide +kernel) rfl, zq_in 597 (by decide +kernel) rfl, zq_in 61 (by decide +kernel) rfl, by decide +kernel, by decide +kernel, by decide +kernel, by decide +kernel⟩
theorem zw_S_spoils : zq_MV zm_S_spoils 1 := ⟨zq_in 602 (by decide +kernel) rfl, zq_in 600 (by decide +kernel) rfl, zq_in 601 (by decide +kernel) rfl, zq_in 61 (by decide +kernel) rfl, by decide +kernel, by decide +kernel, by decide +kernel, by decide +kernel⟩
theorem zw_S_dead : zq_MV zm_S_dead 1 := ⟨zq_in 611 (by decide +kernel) rfl, zq_in 609 (by decide +kernel) rfl, zq_in 610 (by decide +kernel) rfl, zq_in 61 (by decide +kernel) rfl, by decide +kernel, by decide +kernel, by decide +kernel, by decide +kernel⟩
theorem zw_S_least : zq_MV zm_S_least 1 := ⟨zq_in 640 (by decide +kernel) rfl, zq_in 638 (by decide +kernel) rfl, zq_in 639 (by decide +kernel) rfl, zq_in 61 (by decide +kernel) rfl, by decide +kernel, by decide +kernel, by decide +kernel, by decide +kernel⟩
theorem zw_S_who : zq_MV zm_S_who 1 := ⟨zq_in 654 (by decide +kernel) rfl, zq_in 652 (by decide +kernel) rfl, zq_in 653 (by decide +kernel) rfl, zq_in 61 (by decide +kernel) rfl, by decide +kernel, by decide +kernel, by decide +kernel, by decide +kernel⟩
theorem zw_S_via : zq_MV zm_S_via 2 := ⟨zq_in 658 (by decide +kernel) rfl, zq_in 656 (by decide +kernel) rfl, zq_in 657 (by decide +kernel) rfl, zq_in 61 (by decide +kernel) rfl, by decide +kernel, by decide +kernel, by decide +kernel, by decide +kernel⟩
theorem zw_S_odds : zq_MV zm_S_odds 4 := ⟨zq_in 662 (by decide +kernel) rfl, zq_in 660 (by decide +kernel) rfl, zq_in 661 (by decide +kernel) rfl, zq_in 61 (by decide +kernel) rfl, by decide +kernel, by decide +kernel, by decide +kernel, by decide +kernel⟩
theorem zw_S_turn : zq_MV zm_S_turn 2 := ⟨zq_in 677 (by decide +kernel) rfl, zq_in 675 (by decide +kernel) rfl, zq_in 676 (by decide +kernel) rfl, zq_in 61 (by decide +kernel) rfl, by decide +kernel, by decide +kernel, by decide +kernel, by decide +kernel⟩
theorem zw_S_best : zq_MV zm_S_best 4 := ⟨zq_in 681 (by decide +kernel) rfl, zq_in 679 (by decide +kernel) rfl, zq_in 680 (by decide +kernel) rfl, zq_in 61 (by decide +kernel) rfl, by decide +kernel, by decide +kernel, by decide +kernel, by decide +kernel⟩
theorem zw_S_see : zq_MV zm_S_see 2 := ⟨zq_in 697 (by decide +kernel) rfl, zq_in 695 (by decide +kernel) rfl, zq_in 696 (by decide +kernel) rfl, zq_in 61 (by decide +kernel) rfl, by decide +kernel, by decide +kernel, by decide +kernel, by decide +kernel⟩
theorem zw_S_forget : zq_MV zm_S_forget 1 := ⟨zq_in 701 (by decide +kernel) rfl, zq_in 699 (by decide +kernel) rfl, zq_in 700 (by decide +kernel) rfl, zq_in 61 (by decide +kernel) rfl, by decide +kernel, by decide +kernel, by decide +kernel, by decide +kernel⟩
theorem zw_S_fits : zq_MV zm_S_fits 1 := ⟨zq_in 705 (by decide +kernel) rfl, zq_in 703 (by decide +kernel) rfl, zq_in 704 (by decide +kernel) rfl, zq_in 61 (by decide +kernel) rfl, by decide +kernel, by decide +kernel, by decide +kernel, by decide +kernel⟩
theorem zw_S_drift : zq_MV zm_S_drift 3 := ⟨zq_in 713 (by decide +kernel) rfl, zq_in 711 (by decide +kernel) rfl, zq_in 712 (by decide +kernel) rfl, zq_in 61 (by decide +kernel) rfl, by decide +kernel, by decide +kernel, by decide +kernel, by decide +kernel⟩
theorem zw_S_keep : zq_MV zm_S_keep 1 := ⟨zq_in 724 (by decide +kernel) rfl, zq_in 722 (by decide +kernel) rfl, zq_in 723 (by decide +kernel) rfl, zq_in 61 (by decide +kernel) rfl, by decide +kernel, by decide +kernel, by decide +kernel, by decide +kernel⟩
theorem zw_S_back : zq_MV zm_S_back 1 := ⟨zq_in 732 (by decide +kernel) rfl, zq_in 730 (by decide +kernel) rfl, zq_in 731 (by decide +kernel) rfl, zq_in 61 (by decide +kernel) rfl, by decide +kernel, by decide +kernel, by decide +kernel, by decide +kernel⟩
theorem zw_S_sheet : zq_MV zm_S_sheet 3 := ⟨zq_in 736 (by decide +kernel) rfl, zq_in 734 (by decide +kernel) rfl, zq_in 735 (by decide +kernel) rfl, zq_in 61 (by decide +kernel) rfl, by decide +kernel, by decide +kernel, by decide +kernel, by decide +kernel⟩
theorem zw_S_lay : zq_MV zm_S_lay 3 := ⟨zq_in 753 (by decide +kernel) rfl, zq_in 751 (by decide +kernel) rfl, zq_in 752 (by decide +kernel) rfl, zq_in 61 (by decide +kernel) rfl, by decide +kernel, by decide +kernel, by decide +kernel, by decide +kernel⟩
theorem zw_S_read : zq_MV zm_S_read 4 := ⟨zq_in 778 (by decide +kernel) rfl, zq_in 776 (by decide +kernel) rfl, zq_in 777 (by decide +kernel) rfl, zq_in 61 (by decide +kernel) rfl, by decide +kernel, by decide +kernel, by decide +kernel, by decide +kernel⟩
theorem zw_S_torn : zq_MV zm_S_torn 0 := ⟨zq_in 786 (by decide +kernel) rfl, zq_in 784 (by decide +kernel) rfl, zq_in 785 (by decide +kernel) rfl, zq_in 61 (by decide +kernel) rfl, by decide +kernel, by decide +kernel, by decide +kernel, by decide +kernel⟩
theorem zw_S_count : zq_MV zm_S_count 1 := ⟨zq_in 790 (by decide +kernel) rfl, zq_in 788 (by decide +kernel) rfl, zq_in 789 (by decide +kernel) rfl, zq_in 61 (by decide +kernel) rfl, by decide +kernel, by decide +kernel, by decide +kernel, by decide +kernel⟩
theorem zw_S_isFact : zq_MS zm_S_isFact 1 := ⟨zq_in 419 (by decide +kernel) rfl, zq_in 418 (by decide +kernel) rfl, zq_in 61 (by decide +kernel) rfl, by decide +kernel, by decide +kernel, by decide +kernel, by decide +kernel⟩
theorem zw_S_isThing : zq_MS zm_S_isThing 1 := ⟨zq_in 514 (by decide +kernel) rfl, zq_in 513 (by decide +kernel) rfl, zq_in 61 (by decide +kernel) rfl, by decide +kernel, by decide +kernel, by decide +kernel, by decide +kernel⟩
theorem zw_S_isPick : zq_MS zm_S_isPick 1 := ⟨zq_in 574 (by decide +kernel) rfl, zq_in 573 (by decide +kernel) rfl, zq_in 61 (by decide +kernel) rfl, by decide +kernel, by decide +kernel, by decide +kernel, by decide +kernel⟩
theorem zw_S_shortestRow : zq_MV zm_S_shortestRow 3 := ⟨zq_in 582 (by decide +kernel) rfl, zq_in 581 (by decide +kernel) rfl, zq_in 14 (by decide +kernel) rfl, zq_in 61 (by decide +kernel) rfl, by decide +kernel, by decide +kernel, by decide +kernel, by decide +kernel⟩
theorem zw_S_findRow : zq_MS zm_S_findRow 7 := ⟨zq_in 589 (by decide +kernel) rfl, zq_in 588 (by decide +kernel) rfl, zq_in 61 (by decide +kernel) rfl, by decide +kernel, by decide +kernel, by decide +kernel, by decide +kernel⟩
theorem zw_S_givingSomewhere : zq_MV zm_S_givingSomewhere 0 := ⟨zq_in 619 (by decide +kernel) rfl, zq_in 618 (by decide +kernel) rfl, zq_in 15 (by decide +kernel) rfl, zq_in 61 (by decide +kernel) rfl, by decide +kernel, by decide +kernel, by decide +kernel, by decide +kernel⟩
theorem zw_S_givingEverywhere : zq_MV zm_S_givingEverywhere 0 := ⟨zq_in 631 (by decide +kernel) rfl, zq_in 630 (by decide +kernel) rfl, zq_in 16 (by decide +kernel) rfl, zq_in 61 (by decide +kernel) rfl, by decide +kernel, by decide +kernel, by decide +kernel, by decide +kernel⟩
theorem zw_S_rulesAtWork : zq_MV zm_S_rulesAtWork 2 := ⟨zq_in 636 (by decide +kernel) rfl, zq_in 635 (by decide +kernel) rfl, zq_in 17 (by decide +kernel) rfl, zq_in 61 (by decide +kernel) rfl, by decide +kernel, by decide +kernel, by decide +kernel, by decide +kernel⟩
theorem zw_S_sameOwnersBy : zq_MV zm_S_sameOwnersBy 1 := ⟨zq_in 650 (by decide +kernel) rfl, zq_in 649 (by decide +kernel) rfl, zq_in 18 (by decide +kernel) rfl, zq_in 61 (by decide +kernel) rfl, by decide +kernel, by decide +kernel, by decide +kernel, by decide +kernel⟩
theorem zw_S_waysTo : zq_MV zm_S_waysTo 2 := ⟨zq_in 667 (by decide +kernel) rfl, zq_in 666 (by decide +kernel) rfl, zq_in 19 (by decide +kernel) rfl, zq_in 61 (by decide +kernel) rfl, by decide +kernel, by decide +kernel, by decide +kernel, by decide +kernel⟩
theorem zw_S_isAsSeen : zq_MV zm_S_isAsSeen 1 := ⟨zq_in 709 (by decide +kernel) rfl, zq_in 708 (by decide +kernel) rfl, zq_in 22 (by decide +kernel) rfl, zq_in 61 (by decide +kernel) rfl, by decide +kernel, by decide +kernel, by decide +kernel, by decide +kernel⟩
theorem zw_S_waysAtBest : zq_MV zm_S_waysAtBest 3 := ⟨zq_in 690 (by decide +kernel) rfl, zq_in 689 (by decide +kernel) rfl, zq_in 21 (by decide +kernel) rfl, zq_in 61 (by decide +kernel) rfl, by decide +kernel, by decide +kernel, by decide +kernel, by decide +kernel⟩
theorem zw_S_waysTryingFor : zq_MV zm_S_waysTryingFor 4 := ⟨zq_in 685 (by decide +kernel) rfl, zq_in 684 (by decide +kernel) rfl, zq_in 20 (by decide +kernel) rfl, zq_in 61 (by decide +kernel) rfl, by decide +kernel, by decide +kernel, by decide +kernel, by decide +kernel⟩
theorem zw_S_image : zq_MV zm_S_image 1 := ⟨zq_in 728 (by decide +kernel) rfl, zq_in 727 (by decide +kernel) rfl, zq_in 23 (by decide +kernel) rfl, zq_in 61 (by decide +kernel) rfl, by decide +kernel, by decide +kernel, by decide +kernel, by decide +kernel⟩
theorem zw_S_nextSeed : zq_MS zm_S_nextSeed 1 := ⟨zq_in 716 (by decide +kernel) rfl, zq_in 715 (by decide +kernel) rfl, zq_in 61 (by decide +kernel) rfl, by decide +kernel, by decide +kernel, by decide +kernel, by decide +kernel⟩
theorem zw_S_drawn : zq_MS zm_S_drawn 1 := ⟨zq_in 720 (by decide +kernel) rfl, zq_in 719 (by decide +kernel) rfl, zq_in 61 (by decide +kernel) rfl, by decide +kernel, by decide +kernel, by decide +kernel, by decide +kernel⟩
theorem zw_S_power : zq_MS zm_S_power 2 := ⟨zq_in 670 (by decide +kernel) rfl, zq_in 669 (by decide +kernel) rfl, zq_in 61 (by decide +kernel) rfl, by decide +kernel, by decide +kernel, by decide +kernel, by decide +kernel⟩
theorem zw_S_lowestTerms : zq_MS zm_S_lowestTerms 3 := ⟨zq_in 673 (by decide +kernel) rfl, zq_in 672 (by decide +kernel) rfl, zq_in 61 (by decide +kernel) rfl, by decide +kernel, by decide +kernel, by decide +kernel, by decide +kernel⟩
theorem zw_M_in : zq_MS zm_M_in 3 := ⟨zq_in 923 (by decide +kernel) rfl, zq_in 922 (by decide +kernel) rfl, zq_in 66 (by decide +kernel) rfl, by decide +kernel, by decide +kernel, by decide +kernel, by decide +kernel⟩
theorem zw_M_feed : zq_MV zm_M_feed 1 := ⟨zq_in 919 (by decide +kernel) rfl, zq_in 917 (by decide +kernel) rfl, zq_in 918 (by decide +kernel) rfl, zq_in 66 (by decide +kernel) rfl, by decide +kernel, by decide +kernel, by decide +kernel, by decide +kernel⟩
theorem zw_M_end : zq_MV zm_M_end 1 := ⟨zq_in 927 (by decide +kernel) rfl, zq_in 925 (by decide +kernel) rfl, zq_in 926 (by decide +kernel) rfl, zq_in 66 (by decide +kernel) rfl, by decide +kernel, by decide +kernel, by decide +kernel, by decide +kernel⟩
theorem zw_M_byteAt : zq_MV zm_M_byteAt 1 := ⟨zq_in 939 (by decide +kernel) rfl, zq_in 938 (by decide +kernel) rfl, zq_in 26 (by decide +kernel) rfl, zq_in 66 (by decide +kernel) rfl, by decide +kernel, by decide +kernel, by decide +kernel, by decide +kernel⟩
theorem zw_M_fails : zq_MV zm_M_fails 1 := ⟨zq_in 947 (by decide +kernel) rfl, zq_in 946 (by decide +kernel) rfl, zq_in 27 (by decide +kernel) rfl, zq_in 66 (by decide +kernel) rfl, by decide +kernel, by decide +kernel, by decide +kernel, by decide +kernel⟩
theorem zw_M_nameHere : zq_MV zm_M_nameHere 0 := ⟨zq_in 955 (by decide +kernel) rfl, zq_in 954 (by decide +kernel) rfl, zq_in 29 (by decide +kernel) rfl, zq_in 66 (by decide +kernel) rfl, by decide +kernel, by decide +kernel, by decide +kernel, by decide +kernel⟩
theorem zw_M_step : zq_MV zm_M_step 0 := ⟨zq_in 935 (by decide +kernel) rfl, zq_in 934 (by decide +kernel) rfl, zq_in 25 (by decide +kernel) rfl, zq_in 66 (by decide +kernel) rfl, by decide +kernel, by decide +kernel, by decide +kernel, by decide +kernel⟩
theorem zw_M_other : zq_MV zm_M_other 3 := ⟨zq_in 964 (by decide +kernel) rfl, zq_in 963 (by decide +kernel) rfl, zq_in 31 (by decide +kernel) rfl, zq_in 66 (by decide +kernel) rfl, by decide +kernel, by decide +kernel, by decide +kernel, by decide +kernel⟩
theorem zw_M_person : zq_MV zm_M_person 1 := ⟨zq_in 968 (by decide +kernel) rfl, zq_in 967 (by decide +kernel) rfl, zq_in 32 (by decide +kernel) rfl, zq_in 66 (by decide +kernel) rfl, by decide +kernel, by decide +kernel, by decide +kernel, by decide +kernel⟩
theorem zw_M_claimHere : zq_MV zm_M_claimHere 0 := ⟨zq_in 976 (by decide +kernel) rfl, zq_in 975 (by decide +kernel) rfl, zq_in 34 (by decide +kernel) rfl, zq_in 66 (by decide +kernel) rfl, by decide +kernel, by decide +kernel, by decide +kernel, by decide +kernel⟩
theorem zw_M_readRule : zq_MV zm_M_readRule 0 := ⟨zq_in 972 (by decide +kernel) rfl, zq_in 971 (by decide +kernel) rfl, zq_in 33 (by decide +kernel) rfl, zq_in 66 (by decide +kernel) rfl, by decide +kernel, by decide +kernel, by decide +kernel, by decide +kernel⟩
theorem zw_M_readMore : zq_MV zm_M_readMore 1 := ⟨zq_in 960 (by decide +kernel) rfl, zq_in 959 (by decide +kernel) rfl, zq_in 30 (by decide +kernel) rfl, zq_in 66 (by decide +kernel) rfl, by decide +kernel, by decide +kernel, by decide +kernel, by decide +kernel⟩
theorem zw_M_readLine : zq_MV zm_M_readLine 0 := ⟨zq_in 951 (by decide +kernel) rfl, zq_in 950 (by decide +kernel) rfl, zq_in 28 (by decide +kernel) rfl, zq_in 66 (by decide +kernel) rfl, by decide +kernel, by decide +kernel, by decide +kernel, by decide +kernel⟩
theorem zw_M_areAlike : zq_MV zm_M_areAlike 0 := ⟨zq_in 982 (by decide +kernel) rfl, zq_in 981 (by decide +kernel) rfl, zq_in 35 (by decide +kernel) rfl, zq_in 66 (by decide +kernel) rfl, by decide +kernel, by decide +kernel, by decide +kernel, by decide +kernel⟩
theorem zw_M_text : zq_MV zm_M_text 0 := ⟨zq_in 931 (by decide +kernel) rfl, zq_in 929 (by decide +kernel) rfl, zq_in 930 (by decide +kernel) rfl, zq_in 66 (by decide +kernel) rfl, by decide +kernel, by decide +kernel, by decide +kernel, by decide +kernel⟩
theorem zw_M_fault : zq_MV zm_M_fault 0 := ⟨zq_in 986 (by decide +kernel) rfl, zq_in 984 (by decide +kernel) rfl, zq_in 985 (by decide +kernel) rfl, zq_in 66 (by decide +kernel) rfl, by decide +kernel, by decide +kernel, by decide +kernel, by decide +kernel⟩
theorem zw_M_isOne : zq_MV zm_M_isOne 1 := ⟨zq_in 998 (by decide +kernel) rfl, zq_in 997 (by decide +kernel) rfl, zq_in 36 (by decide +kernel) rfl, zq_in 66 (by decide +kernel) rfl, by decide +kernel, by decide +kernel, by decide +kernel, by decide +kernel⟩
theorem zw_M_isRule : zq_MV zm_M_isRule 1 := ⟨zq_in 1025 (by decide +kernel) rfl, zq_in 1024 (by decide +kernel) rfl, zq_in 39 (by decide +kernel) rfl, zq_in 66 (by decide +kernel) rfl, by decide +kernel, by decide +kernel, by decide +kernel, by decide +kernel⟩
theorem zw_M_isThing : zq_MS zm_M_isThing 1 := ⟨zq_in 1053 (by decide +kernel) rfl, zq_in 1052 (by decide +kernel) rfl, zq_in 66 (by decide +kernel) rfl, by decide +kernel, by decide +kernel, by decide +kernel, by decide +kernel⟩
theorem zw_M_isFact : zq_MS zm_M_isFact 1 := ⟨zq_in 1017 (by decide +kernel) rfl, zq_in 1016 (by decide +kernel) rfl, zq_in 66 (by decide +kernel) rfl, by decide +kernel, by decide +kernel, by decide +kernel, by decide +kernel⟩
theorem zw_M_isThere : zq_MS zm_M_isThere 2 := ⟨zq_in 1006 (by decide +kernel) rfl, zq_in 1005 (by decide +kernel) rfl, zq_in 66 (by decide +kernel) rfl, by decide +kernel, by decide +kernel, by decide +kernel, by decide +kernel⟩
theorem zw_M_rule : zq_MV zm_M_rule 1 := ⟨zq_in 990 (by decide +kernel) rfl, zq_in 988 (by decide +kernel) rfl, zq_in 989 (by decide +kernel) rfl, zq_in 66 (by decide +kernel) rfl, by decide +kernel, by decide +kernel, by decide +kernel, by decide +kernel⟩
theorem zw_M_bornAs : zq_MV zm_M_bornAs 2 := ⟨zq_in 1003 (by decide +kernel) rfl, zq_in 1002 (by decide +kernel) rfl, zq_in 37 (by decide +kernel) rfl, zq_in 66 (by decide +kernel) rfl, by decide +kernel, by decide +kernel, by decide +kernel, by decide +kernel⟩
theorem zw_M_childrenOf : zq_MV zm_M_childrenOf 2 := ⟨zq_in 1010 (by decide +kernel) rfl, zq_in 1009 (by decide +kernel) rfl, zq_in 38 (by decide +kernel) rfl, zq_in 66 (by decide +kernel) rfl, by decide +kernel, by decide +kernel, by decide +kernel, by decide +kernel⟩
theorem zw_M_isAbove : zq_MV zm_M_isAbove 2 := ⟨zq_in 1038 (by decide +kernel) rfl, zq_in 1037 (by decide +kernel) rfl, zq_in 42 (by decide +kernel) rfl, zq_in 66 (by decide +kernel) rfl, by decide +kernel, by decide +kernel, by decide +kernel, by decide +kernel⟩
theorem zw_M_meets : zq_MV zm_M_meets 3 := ⟨zq_in 1034 (by decide +kernel) rfl, zq_in 1033 (by decide +kernel) rfl, zq_in 41 (by decide +kernel) rfl, zq_in 66 (by decide +kernel) rfl, by decide +kernel, by decide +kernel, by decide +kernel, by decide +kernel⟩
theorem zw_M_whoMeet : zq_MV zm_M_whoMeet 2 := ⟨zq_in 1030 (by decide +kernel) rfl, zq_in 1029 (by decide +kernel) rfl, zq_in 40 (by decide +kernel) rfl, zq_in 66 (by decide +kernel) rfl, by decide +kernel, by decide +kernel, by decide +kernel, by decide +kernel⟩
theorem zw_M_givesBy : zq_MV zm_M_givesBy 3 := ⟨zq_in 1046 (by decide +kernel) rfl, zq_in 1045 (by decide +kernel) rfl, zq_in 44 (by decide +kernel) rfl, zq_in 66 (by decide +kernel) rfl, by decide +kernel, by decide +kernel, by decide +kernel, by decide +kernel⟩
theorem zw_M_gives : zq_MV zm_M_gives 2 := ⟨zq_in 1042 (by decide +kernel) rfl, zq_in 1041 (by decide +kernel) rfl, zq_in 43 (by decide +kernel) rfl, zq_in 66 (by decide +kernel) rfl, by decide +kernel, by decide +kernel, by decide +kernel, by decide +kernel⟩
theorem zw_M_ruleBy : zq_MV zm_M_ruleBy 4 := ⟨zq_in 1066 (by decide +kernel) rfl, zq_in 1065 (by decide +kernel) rfl, zq_in 47 (by decide +kernel) rfl, zq_in 66 (by decide +kernel) rfl, by decide +kernel, by decide +kernel, by decide +kernel, by decide +kernel⟩
theorem zw_M_ownerBy : zq_MV zm_M_ownerBy 3 := ⟨zq_in 1062 (by decide +kernel) rfl, zq_in 1061 (by decide +kernel) rfl, zq_in 46 (by decide +kernel) rfl, zq_in 66 (by decide +kernel) rfl, by decide +kernel, by decide +kernel, by decide +kernel, by decide +kernel⟩
theorem zw_M_ownerIn : zq_MV zm_M_ownerIn 2 := ⟨zq_in 1058 (by decide +kernel) rfl, zq_in 1057 (by decide +kernel) rfl, zq_in 45 (by decide +kernel) rfl, zq_in 66 (by decide +kernel) rfl, by decide +kernel, by decide +kernel, by decide +kernel, by decide +kernel⟩
theorem zw_M_one : zq_MV zm_M_one 2 := ⟨zq_in 994 (by decide +kernel) rfl, zq_in 992 (by decide +kernel) rfl, zq_in 993 (by decide +kernel) rfl, zq_in 66 (by decide +kernel) rfl, by decide +kernel, by decide +kernel, by decide +kernel, by decide +kernel⟩
theorem zw_M_odd : zq_MV zm_M_odd 1 := ⟨zq_in 1014 (by decide +kernel) rfl, zq_in 1012 (by decide +kernel) rfl, zq_in 1013 (by decide +kernel) rfl, zq_in 66 (by decide +kernel) rfl, by decide +kernel, by decide +kernel, by decide +kernel, by decide +kernel⟩
theorem zw_M_law : zq_MV zm_M_law 2 := ⟨zq_in 1021 (by decide +kernel) rfl, zq_in 1019 (by decide +kernel) rfl, zq_in 1020 (by decide +kernel) rfl, zq_in 66 (by decide +kernel) rfl, by decide +kernel, by decide +kernel, by decide +kernel, by decide +kernel⟩
theorem zw_M_owner : zq_MV zm_M_owner 1 := ⟨zq_in 1050 (by decide +kernel) rfl, zq_in 1048 (by decide +kernel) rfl, zq_in 1049 (by decide +kernel) rfl, zq_in 66 (by decide +kernel) rfl, by decide +kernel, by decide +kernel, by decide +kernel, by decide +kernel⟩
theorem zw_M_by : zq_MV zm_M_by 1 := ⟨zq_in 1070 (by decide +kernel) rfl, zq_in 1068 (by decide +kernel) rfl, zq_in 1069 (by decide +kernel) rfl, zq_in 66 (by decide +kernel) rfl, by decide +kernel, by decide +kernel, by decide +kernel, by decide +kernel⟩
theorem zw_M_sets : zq_MV zm_M_sets 3 := ⟨zq_in 1102 (by decide +kernel) rfl, zq_in 1101 (by decide +kernel) rfl, zq_in 52 (by decide +kernel) rfl, zq_in 66 (by decide +kernel) rfl, by decide +kernel, by decide +kernel, by decide +kernel, by decide +kernel⟩
theorem zw_M_isDeed : zq_MV zm_M_isDeed 1 := ⟨zq_in 1082 (by decide +kernel) rfl, zq_in 1081 (by decide +kernel) rfl, zq_in 49 (by decide +kernel) rfl, zq_in 66 (by decide +kernel) rfl, by decide +kernel, by decide +kernel, by decide +kernel, by decide +kernel⟩
theorem zw_M_canDo : zq_MV zm_M_canDo 1 := ⟨zq_in 1086 (by decide +kernel) rfl, zq_in 1085 (by decide +kernel) rfl, zq_in 50 (by decide +kernel) rfl, zq_in 66 (by decide +kernel) rfl, by decide +kernel, by decide +kernel, by decide +kernel, by decide +kernel⟩
theorem zw_M_doesIt : zq_MV zm_M_doesIt 1 := ⟨zq_in 1090 (by decide +kernel) rfl, zq_in 1089 (by decide +kernel) rfl, zq_in 51 (by decide +kernel) rfl, zq_in 66 (by decide +kernel) rfl, by decide +kernel, by decide +kernel, by decide +kernel, by decide +kernel⟩
theorem zw_M_done : zq_MV zm_M_done 1 := ⟨zq_in 1078 (by decide +kernel) rfl, zq_in 1077 (by decide +kernel) rfl, zq_in 48 (by decide +kernel) rfl, zq_in 66 (by decide +kernel) rfl, by decide +kernel, by decide +kernel, by decide +kernel, by decide +kernel⟩
theorem zw_M_does : zq_MV zm_M_does 1 := ⟨zq_in 1074 (by decide +kernel) rfl, zq_in 1072 (by decide +kernel) rfl, zq_in 1073 (by decide +kernel) rfl, zq_in 66 (by decide +kernel) rfl, by decide +kernel, by decide +kernel, by decide +kernel, by decide +kernel⟩
theorem zw_M_comes : zq_MV zm_M_comes 1 := ⟨zq_in 1094 (by decide +kernel) rfl, zq_in 1092 (by decide +kernel) rfl, zq_in 1093 (by decide +kernel) rfl, zq_in 66 (by decide +kernel) rfl, by decide +kernel, by decide +kernel, by decide +kernel, by decide +kernel⟩
theorem zw_M_tries : zq_MV zm_M_tries 2 := ⟨zq_in 1098 (by decide +kernel) rfl, zq_in 1096 (by decide +kernel) rfl, zq_in 1097 (by decide +kernel) rfl, zq_in 66 (by decide +kernel) rfl, by decide +kernel, by decide +kernel, by decide +kernel, by decide +kernel⟩
theorem zw_M_hush : zq_MV zm_M_hush 2 := ⟨zq_in 1106 (by decide +kernel) rfl, zq_in 1104 (by decide +kernel) rfl, zq_in 1105 (by decide +kernel) rfl, zq_in 66 (by decide +kernel) rfl, by decide +kernel, by decide +kernel, by decide +kernel, by decide +kernel⟩
theorem zw_M_weigh : zq_MV zm_M_weigh 2 := ⟨zq_in 1110 (by decide +kernel) rfl, zq_in 1108 (by decide +kernel) rfl, zq_in 1109 (by decide +kernel) rfl, zq_in 66 (by decide +kernel) rfl, by decide +kernel, by decide +kernel, by decide +kernel, by decide +kernel⟩
theorem zw_M_rank : zq_MV zm_M_rank 2 := ⟨zq_in 1115 (by decide +kernel) rfl, zq_in 1113 (by decide +kernel) rfl, zq_in 1114 (by decide +kernel) rfl, zq_in 66 (by decide +kernel) rfl, by decide +kernel, by decide +kernel, by decide +kernel, by decide +kernel⟩
theorem zw_M_pick : zq_MV zm_M_pick 2 := ⟨zq_in 1119 (by decide +kernel) rfl, zq_in 1117 (by decide +kernel) rfl, zq_in 1118 (by decide +kernel) rfl, zq_in 66 (by decide +kernel) rfl, by decide +kernel, by decide +kernel, by decide +kernel, by decide +kernel⟩
theorem zw_M_copies : zq_MV zm_M_copies 2 := ⟨zq_in 1132 (by decide +kernel) rfl, zq_in 1131 (by decide +kernel) rfl, zq_in 54 (by decide +kernel) rfl, zq_in 66 (by decide +kernel) rfl, by decide +kernel, by decide +kernel, by decide +kernel, by decide +kernel⟩
theorem zw_M_isHisBy : zq_MV zm_M_isHisBy 4 := ⟨zq_in 1128 (by decide +kernel) rfl, zq_in 1127 (by decide +kernel) rfl, zq_in 53 (by decide +kernel) rfl, zq_in 66 (by decide +kernel) rfl, by decide +kernel, by decide +kernel, by decide +kernel, by decide +kernel⟩
theorem zw_M_claim : zq_MV zm_M_claim 4 := ⟨zq_in 1124 (by decide +kernel) rfl, zq_in 1122 (by decide +kernel) rfl, zq_in 1123 (by decide +kernel) rfl, zq_in 66 (by decide +kernel) rfl, by decide +kernel, by decide +kernel, by decide +kernel, by decide +kernel⟩
theorem zw_M_pivot : zq_MV zm_M_pivot 1 := ⟨zq_in 1136 (by decide +kernel) rfl, zq_in 1134 (by decide +kernel) rfl, zq_in 1135 (by decide +kernel) rfl, zq_in 66 (by decide +kernel) rfl, by decide +kernel, by decide +kernel, by decide +kernel, by decide +kernel⟩
theorem zw_M_spoils : zq_MV zm_M_spoils 1 := ⟨zq_in 1140 (by decide +kernel) rfl, zq_in 1138 (by decide +kernel) rfl, zq_in 1139 (by decide +kernel) rfl, zq_in 66 (by decide +kernel) rfl, by decide +kernel, by decide +kernel, by decide +kernel, by decide +kernel⟩
theorem zw_M_cases : zq_MV zm_M_cases 0 := ⟨zq_in 1148 (by decide +kernel) rfl, zq_in 1147 (by decide +kernel) rfl, zq_in 55 (by decide +kernel) rfl, zq_in 66 (by decide +kernel) rfl, by decide +kernel, by decide +kernel, by decide +kernel, by decide +kernel⟩
theorem zw_M_dead : zq_MV zm_M_dead 1 := ⟨zq_in 1144 (by decide +kernel) rfl, zq_in 1142 (by decide +kernel) rfl, zq_in 1143 (by decide +kernel) rfl, zq_in 66 (by decide +kernel) rfl, by decide +kernel, by decide +kernel, by decide +kernel, by decide +kernel⟩
theorem zw_M_isEnough : zq_MV zm_M_isEnough 1 := ⟨zq_in 1159 (by decide +kernel) rfl, zq_in 1158 (by decide +kernel) rfl, zq_in 56 (by decide +kernel) rfl, zq_in 66 (by decide +kernel) rfl, by decide +kernel, by decide +kernel, by decide +kernel, by decide +kernel⟩
theorem zw_M_bitsOf : zq_MS zm_M_bitsOf 1 := ⟨zq_in 1155 (by decide +kernel) rfl, zq_in 1154 (by decide +kernel) rfl, zq_in 66 (by decide +kernel) rfl, by decide +kernel, by decide +kernel, by decide +kernel, by decide +kernel⟩
theorem zw_M_least : zq_MV zm_M_least 1 := ⟨zq_in 1152 (by decide +kernel) rfl, zq_in 1150 (by decide +kernel) rfl, zq_in 1151 (by decide +kernel) rfl, zq_in 66 (by decide +kernel) rfl, by decide +kernel, by decide +kernel, by decide +kernel, by decide +kernel⟩
theorem zw_M_who : zq_MV zm_M_who 1 := ⟨zq_in 1163 (by decide +kernel) rfl, zq_in 1161 (by decide +kernel) rfl, zq_in 1162 (by decide +kernel) rfl, zq_in 66 (by decide +kernel) rfl, by decide +kernel, by decide +kernel, by decide +kernel, by decide +kernel⟩
theorem zw_M_via : zq_MV zm_M_via 2 := ⟨zq_in 1167 (by decide +kernel) rfl, zq_in 1165 (by decide +kernel) rfl, zq_in 1166 (by decide +kernel) rfl, zq_in 66 (by decide +kernel) rfl, by decide +kernel, by decide +kernel, by decide +kernel, by decide +kernel⟩
theorem zw_M_lowest : zq_MS zm_M_lowest 3 := ⟨zq_in 1175 (by decide +kernel) rfl, zq_in 1174 (by decide +kernel) rfl, zq_in 66 (by decide +kernel) rfl, by decide +kernel, by decide +kernel, by decide +kernel, by decide +kernel⟩
theorem zw_M_odds : zq_MV zm_M_odds 4 := ⟨zq_in 1171 (by decide +kernel) rfl, zq_in 1169 (by decide +kernel) rfl, zq_in 1170 (by decide +kernel) rfl, zq_in 66 (by decide +kernel) rfl, by decide +kernel, by decide +kernel, by decide +kernel, by decide +kernel⟩
theorem zw_M_turn : zq_MV zm_M_turn 2 := ⟨zq_in 1179 (by decide +kernel) rfl, zq_in 1177 (by decide +kernel) rfl, zq_in 1178 (by decide +kernel) rfl, zq_in 66 (by decide +kernel) rfl, by decide +kernel, by decide +kernel, by decide +kernel, by decide +kernel⟩
theorem zw_M_stops : zq_MV zm_M_stops 4 := ⟨zq_in 1191 (by decide +kernel) rfl, zq_in 1190 (by decide +kernel) rfl, zq_in 58 (by decide +kernel) rfl, zq_in 66 (by decide +kernel) rfl, by decide +kernel, by decide +kernel, by decide +kernel, by decide +kernel⟩
theorem zw_M_tens : zq_MS zm_M_tens 1 := ⟨zq_in 1194 (by decide +kernel) rfl, zq_in 1193 (by decide +kernel) rfl, zq_in 66 (by decide +kernel) rfl, by decide +kernel, by decide +kernel, by decide +kernel, by decide +kernel⟩
theorem zw_M_triesFor : zq_MV zm_M_triesFor 3 := ⟨zq_in 1200 (by decide +kernel) rfl, zq_in 1199 (by decide +kernel) rfl, zq_in 59 (by decide +kernel) rfl, zq_in 66 (by decide +kernel) rfl, by decide +kernel, by decide +kernel, by decide +kernel, by decide +kernel⟩
theorem zw_M_layValues : zq_MV zm_M_layValues 3 := ⟨zq_in 1187 (by decide +kernel) rfl, zq_in 1186 (by decide +kernel) rfl, zq_in 57 (by decide +kernel) rfl, zq_in 66 (by decide +kernel) rfl, by decide +kernel, by decide +kernel, by decide +kernel, by decide +kernel⟩
theorem zw_M_best : zq_MV zm_M_best 4 := ⟨zq_in 1183 (by decide +kernel) rfl, zq_in 1181 (by decide +kernel) rfl, zq_in 1182 (by decide +kernel) rfl, zq_in 66 (by decide +kernel) rfl, by decide +kernel, by decide +kernel, by decide +kernel, by decide +kernel⟩
theorem zw_M_see : zq_MV zm_M_see 2 := ⟨zq_in 1204 (by decide +kernel) rfl, zq_in 1202 (by decide +kernel) rfl, zq_in 1203 (by decide +kernel) rfl, zq_in 66 (by decide +kernel) rfl, by decide +kernel, by decide +kernel, by decide +kernel, by decide +kernel⟩
theorem zw_M_forget : zq_MV zm_M_forget 1 := ⟨zq_in 1208 (by decide +kernel) rfl, zq_in 1206 (by decide +kernel) rfl, zq_in 1207 (by decide +kernel) rfl, zq_in 66 (by decide +kernel) rfl, by decide +kernel, by decide +kernel, by decide +kernel, by decide +kernel⟩
theorem zw_M_fits : zq_MV zm_M_fits 1 := ⟨zq_in 1212 (by decide +kernel) rfl, zq_in 1210 (by decide +kernel) rfl, zq_in 1211 (by decide +kernel) rfl, zq_in 66 (by decide +kernel) rfl, by decide +kernel, by decide +kernel, by decide +kernel, by decide +kernel⟩
theorem zw_M_drift : zq_MV zm_M_drift 3 := ⟨zq_in 1216 (by decide +kernel) rfl, zq_in 1214 (by decide +kernel) rfl, zq_in 1215 (by decide +kernel) rfl, zq_in 66 (by decide +kernel) rfl, by decide +kernel, by decide +kernel, by decide +kernel, by decide +kernel⟩
theorem zw_M_keep : zq_MV zm_M_keep 1 := ⟨zq_in 1222 (by decide +kernel) rfl, zq_in 1220 (by decide +kernel) rfl, zq_in 1221 (by decide +kernel) rfl, zq_in 66 (by decide +kernel) rfl, by decide +kernel, by decide +kernel, by decide +kernel, by decide +kernel⟩
theorem zw_M_back : zq_MV zm_M_back 1 := ⟨zq_in 1226 (by decide +kernel) rfl, zq_in 1224 (by decide +kernel) rfl, zq_in 1225 (by decide +kernel) rfl, zq_in 66 (by decide +kernel) rfl, by decide +kernel, by decide +kernel, by decide +kernel, by decide +kernel⟩
theorem zw_M_sheet : zq_MV zm_M_sheet 3 := ⟨zq_in 1230 (by decide +kernel) rfl, zq_in 1228 (by decide +kernel) rfl, zq_in 1229 (by decide +kernel) rfl, zq_in 66 (by decide +kernel) rfl, by decide +kernel, by decide +kernel, by decide +kernel, by decide +kernel⟩
theorem zw_M_lay : zq_MV zm_M_lay 3 := ⟨zq_in 1234 (by decide +kernel) rfl, zq_in 1232 (by decide +kernel) rfl, zq_in 1233 (by decide +kernel) rfl, zq_in 66 (by decide +kernel) rfl, by decide +kernel, by decide +kernel, by decide +kernel, by decide +kernel⟩
theorem zw_M_read : zq_MV zm_M_read 4 := ⟨zq_in 1238 (by decide +kernel) rfl, zq_in 1236 (by decide +kernel) rfl, zq_in 1237 (by decide +kernel) rfl, zq_in 66 (by decide +kernel) rfl, by decide +kernel, by decide +kernel, by decide +kernel, by decide +kernel⟩
theorem zw_M_torn : zq_MV zm_M_torn 0 := ⟨zq_in 1243 (by decide +kernel) rfl, zq_in 1241 (by decide +kernel) rfl, zq_in 1242 (by decide +kernel) rfl, zq_in 66 (by decide +kernel) rfl, by decide +kernel, by decide +kernel, by decide +kernel, by decide +kernel⟩
theorem zw_M_count : zq_MV zm_M_count 1 := ⟨zq_in 1247 (by decide +kernel) rfl, zq_in 1245 (by decide +kernel) rfl, zq_in 1246 (by decide +kernel) rfl, zq_in 66 (by decide +kernel) rfl, by decide +kernel, by decide +kernel, by decide +kernel, by decide +kernel⟩
theorem zw_JI_bitCount : zq_MS zm_JI_bitCount 1 := ⟨zq_in 643 (by decide +kernel) rfl, zq_in 642 (by decide +kernel) rfl, zq_in 71 (by decide +kernel) rfl, by decide +kernel, by decide +kernel, by decide +kernel, by decide +kernel⟩
theorem zw_JS_length : zq_MV zm_JS_length 0 := ⟨zq_in 324 (by decide +kernel) rfl, zq_in 322 (by decide +kernel) rfl, zq_in 323 (by decide +kernel) rfl, zq_in 67 (by decide +kernel) rfl, by decide +kernel, by decide +kernel, by decide +kernel, by decide +kernel⟩
theorem zw_JS_charAt : zq_MV zm_JS_charAt 1 := ⟨zq_in 334 (by decide +kernel) rfl, zq_in 332 (by decide +kernel) rfl, zq_in 333 (by decide +kernel) rfl, zq_in 67 (by decide +kernel) rfl, by decide +kernel, by decide +kernel, by decide +kernel, by decide +kernel⟩
theorem zw_JS_coder : zq_MV zm_JS_coder 0 := ⟨zq_in 328 (by decide +kernel) rfl, zq_in 326 (by decide +kernel) rfl, zq_in 327 (by decide +kernel) rfl, zq_in 67 (by decide +kernel) rfl, by decide +kernel, by decide +kernel, by decide +kernel, by decide +kernel⟩
theorem zw_JS_isLatin1 : zq_MV zm_JS_isLatin1 0 := ⟨zq_in 338 (by decide +kernel) rfl, zq_in 336 (by decide +kernel) rfl, zq_in 337 (by decide +kernel) rfl, zq_in 67 (by decide +kernel) rfl, by decide +kernel, by decide +kernel, by decide +kernel, by decide +kernel⟩
theorem zw_JS_checkIndex : zq_MS zm_JS_checkIndex 2 := ⟨zq_in 344 (by decide +kernel) rfl, zq_in 343 (by decide +kernel) rfl, zq_in 67 (by decide +kernel) rfl, by decide +kernel, by decide +kernel, by decide +kernel, by decide +kernel⟩
theorem zw_JA_charAt : zq_MS zm_JA_charAt 2 := ⟨zq_in 341 (by decide +kernel) rfl, zq_in 340 (by decide +kernel) rfl, zq_in 68 (by decide +kernel) rfl, by decide +kernel, by decide +kernel, by decide +kernel, by decide +kernel⟩
theorem zw_JU_getChar : zq_MS zm_JU_getChar 2 := ⟨zq_in 362 (by decide +kernel) rfl, zq_in 361 (by decide +kernel) rfl, zq_in 70 (by decide +kernel) rfl, by decide +kernel, by decide +kernel, by decide +kernel, by decide +kernel⟩
theorem zw_JU_length : zq_MS zm_JU_length 1 := ⟨zq_in 358 (by decide +kernel) rfl, zq_in 357 (by decide +kernel) rfl, zq_in 70 (by decide +kernel) rfl, by decide +kernel, by decide +kernel, by decide +kernel, by decide +kernel⟩
theorem zw_JU_charAt : zq_MS zm_JU_charAt 2 := ⟨zq_in 352 (by decide +kernel) rfl, zq_in 351 (by decide +kernel) rfl, zq_in 70 (by decide +kernel) rfl, by decide +kernel, by decide +kernel, by decide +kernel, by decide +kernel⟩
theorem zw_JU_checkIndex : zq_MS zm_JU_checkIndex 2 := ⟨zq_in 355 (by decide +kernel) rfl, zq_in 354 (by decide +kernel) rfl, zq_in 70 (by decide +kernel) rfl, by decide +kernel, by decide +kernel, by decide +kernel, by decide +kernel⟩
theorem zw_JP_checkIndex : zq_MS zm_JP_checkIndex 3 := ⟨zq_in 349 (by decide +kernel) rfl, zq_in 348 (by decide +kernel) rfl, zq_in 69 (by decide +kernel) rfl, by decide +kernel, by decide +kernel, by decide +kernel, by decide +kernel⟩
end
section
/-! THE PURE MACHINE. A place of the world is (t, j): t its kind, j which one (only Duchies and sheets' rows have more than one).
A pure state: ints of fields and arrays, the longs of the model's row, which duchy is 'duchy' and which is 'draft'. -/
abbrev zq_R : Type := Nat × Fin 5
abbrev zq_V : Type := Int32 ⊕ (Int64 ⊕ Option zq_R)
abbrev zq_I (x : Int32) : zq_V := Sum.inl x
abbrev zq_L (x : Int64) : zq_V := Sum.inr (Sum.inl x)
abbrev zq_O (t : Nat) (j : Fin 5) : zq_V := Sum.inr (Sum.inr (some (t, j)))
abbrev zq_T : Type := (Nat → Fin 5 → Nat → Int32) × (Nat → Int64) × Fin 5 × Fin 5
/-- addresses of places (texts: 100 + i, their bytes: 200 + i, the script: 60), classes and slots, array classes by tag, where the world begins, the script and its length -/
abbrev zq_E : Type := (Nat → Fin 5 → Nat) × va_G × (Nat → ClassId) × Nat × (Nat → Int32) × Nat
def zq_A (ν : zq_E) : Nat → Prop := fun q => ν.2.2.2.1 ≤ q
def zq_up (f : Nat → Fin 5 → Nat → Int32) (t : Nat) (j : Fin 5) (k : Nat) (x : Int32) : Nat → Fin 5 → Nat → Int32 := fun t' j' k' => if t' = t ∧ j' = j ∧ k' = k then x else f t' j' k'
abbrev zq_cl : List vw_C := [(RX0, TX0, 13), (RX1, TX1, 3), (RX2, TX2, 6), (RX3, TX3, 4), (RX4, TX4, 15), (RX5, TX5, 34)]
/-- kinds: (0, class, fields); (tag, size, 0): 1 ints, 2 bytes, 3 longs, 4 booleans, 5 rows of ints; 9: none -/
def zq_kd (t : Nat) : Nat × Nat × Nat := ([(0, 4, 15), (0, 2, 6), (2, 160, 0), (0, 3, 4), (0, 1, 3), (5, 4, 0), (1, 40, 0), (1, 4, 0), (1, 4, 0), (9, 0, 0), (0, 0, 13), (1, 6, 0), (1, 6, 0), (1, 6, 0), (1, 6, 0), (1, 5, 0), (1, 5, 0), (1, 5, 0), (1, 5, 0), (1, 5, 0), (1, 5, 0), (1, 3, 0), (1, 6, 0), (1, 6, 0), (9, 0, 0), (9, 0, 0), (9, 0, 0), (9, 0, 0), (9, 0, 0), (9, 0, 0), (0, 5, 34), (1, 112, 0), (1, 6, 0), (1, 15, 0), (1, 28, 0), (1, 6, 0), (1, 15, 0), (1, 160, 0), (1, 14, 0), (1, 52, 0), (1, 6, 0), (1, 3, 0), (3, 128, 0), (1, 12, 0), (4, 2, 0), (1, 4, 0), (1, 4, 0), (1, 160, 0)] : List (Nat × Nat × Nat)).getD t (9, 0, 0)
/-- fields: (0, _) an int; (1, t) the place of kind t beside it; (2, j) the duchy j; (3, _) 'duchy'; (4, _) 'draft' -/
def zq_ff (t k : Nat) : Nat × Nat := match t with
  | 0 => ([(1, 1), (1, 3), (1, 4), (2, 0), (2, 1), (2, 2), (1, 21), (1, 22), (1, 23), (3, 0), (4, 0)] : List (Nat × Nat)).getD k (0, 0)
  | 1 => ([(1, 2)] : List (Nat × Nat)).getD k (0, 0)
  | 4 => ([(1, 5), (1, 7), (1, 8)] : List (Nat × Nat)).getD k (0, 0)
  | 10 => ([(0, 0), (0, 0), (0, 0), (1, 11), (1, 12), (1, 13), (1, 14), (1, 15), (1, 16), (1, 17), (1, 18), (1, 19), (1, 20)] : List (Nat × Nat)).getD k (0, 0)
  | 30 => ([(1, 31), (1, 32), (1, 33), (0, 0), (0, 0), (1, 34), (1, 35), (1, 36), (0, 0), (0, 0), (0, 0), (0, 0), (1, 37), (0, 0), (0, 0), (0, 0), (0, 0), (0, 0), (0, 0), (0, 0), (0, 0), (1, 38), (1, 39), (1, 40), (1, 41), (0, 0), (1, 42), (1, 43), (0, 0), (1, 44), (1, 45), (1, 46), (1, 47)] : List (Nat × Nat)).getD k (0, 0)
  | _ => (0, 0)
def zq_fin (a : Nat) : Fin 5 := ⟨a % 5, Nat.mod_lt _ (by decide)⟩
def zq_fv (σ : zq_T) (t : Nat) (j : Fin 5) (k : Nat) : zq_V := match zq_ff t k with
  | (0, _) => zq_I (σ.1 t j k)
  | (1, t') => zq_O t' j
  | (2, a) => zq_O 10 (zq_fin a)
  | (3, _) => zq_O 10 σ.2.2.1
  | _ => zq_O 10 σ.2.2.2
def zq_ev (ν : zq_E) : zq_V → Value
  | .inl x => .int x
  | .inr (.inl x) => .long x
  | .inr (.inr none) => .null
  | .inr (.inr (some r)) => .ref (ν.1 r.1 r.2)
def zq_rows (ν : zq_E) : Nat → Option Nat := fun i => if h : i < 4 then some (ν.1 6 ⟨i, by omega⟩) else none
def zq_el (ν : zq_E) (σ : zq_T) (t : Nat) (j : Fin 5) : va_E := match zq_kd t with
  | (0, ci, N) => .inr (ci, (List.range N).map (fun k => zq_ev ν (zq_fv σ t j k)))
  | (3, n, _) => .inl (ν.2.2.1 3, n, .inr (.inl σ.2.1))
  | (5, n, _) => .inl (ν.2.2.1 5, n, .inr (.inr (.inr (.inr (zq_rows ν)))))
  | (g, n, _) => .inl (ν.2.2.1 g, n, .inl (σ.1 t j))
def zq_vd (t : Nat) (j : Fin 5) : Bool := (Nat.ble 10 t && Nat.ble t 20) || ((t == 6 && Nat.blt j.val 4) || ([0, 1, 2, 3, 4, 5, 7, 8, 21, 22, 23, 30, 31, 32, 33, 34, 35, 36, 37, 38, 39, 40, 41, 42, 43, 44, 45, 46, 47].contains t && j == 0))
def zq_cs : List zq_R := [0, 1, 2, 3, 4, 5, 7, 8, 21, 22, 23, 30, 31, 32, 33, 34, 35, 36, 37, 38, 39, 40, 41, 42, 43, 44, 45, 46, 47].map (fun t => (t, 0)) ++ ([(6, 0), (6, 1), (6, 2), (6, 3)] ++ [10, 11, 12, 13, 14, 15, 16, 17, 18, 19, 20].flatMap (fun t => [(t, 0), (t, 1), (t, 2), (t, 3), (t, 4)]))
theorem zq_cs_len : zq_cs.length = 88 := by decide +kernel
theorem zq_cs_nd : ∀ i j : Fin 88, zq_cs[i.val]? = zq_cs[j.val]? → i = j := by decide +kernel
theorem zq_inj {i j : Nat} {r : zq_R} (hi : zq_cs[i]? = some r) (hj : zq_cs[j]? = some r) : i = j := by
  have h1 := (List.getElem?_eq_some_iff.mp hi).1
  have h2 := (List.getElem?_eq_some_iff.mp hj).1
  rw [zq_cs_len] at h1 h2
  exact Fin.mk.inj_iff.mp (zq_cs_nd ⟨i, h1⟩ ⟨j, h2⟩ (hi.trans hj.symm))
theorem zq_cs_multi : ∀ t : Fin 21, ∀ j : Fin 5, 10 ≤ t.val → (t.val, j) ∈ zq_cs := by decide +kernel
theorem zq_cs_rows : ∀ j : Fin 5, j.val < 4 → (6, j) ∈ zq_cs := by decide +kernel
theorem zq_cs_one : ∀ t ∈ [0, 1, 2, 3, 4, 5, 7, 8, 21, 22, 23, 30, 31, 32, 33, 34, 35, 36, 37, 38, 39, 40, 41, 42, 43, 44, 45, 46, 47], (t, 0) ∈ zq_cs := by decide +kernel
theorem zq_mem {t : Nat} {j : Fin 5} (h : zq_vd t j = true) : (t, j) ∈ zq_cs := by
  unfold zq_vd at h
  rw [Bool.or_eq_true, Bool.or_eq_true, Bool.and_eq_true, Bool.and_eq_true, Bool.and_eq_true] at h
  rcases h with ⟨h1, h2⟩ | ⟨h1, h2⟩ | ⟨h1, h2⟩
  · have h3 := Nat.le_of_ble_eq_true h1
    have h4 := Nat.le_of_ble_eq_true h2
    exact zq_cs_multi ⟨t, by omega⟩ j h3
  · have h3 : t = 6 := by simpa using h1
    subst h3
    exact zq_cs_rows j (by simpa [Nat.blt_eq] using h2)
  · have h3 : j = 0 := by simpa using h2
    subst h3
    exact zq_cs_one t (List.contains_iff_mem.mp h1)
/-- the world's cells -/
def zq_ws (ν : zq_E) (σ : zq_T) : va_W := zq_cs.map (fun r => (ν.1 r.1 r.2, zq_el ν σ r.1 r.2))
def zq_ok (ν : zq_E) : Prop := (∀ r ∈ zq_cs, ∀ r' ∈ zq_cs, ν.1 r.1 r.2 = ν.1 r'.1 r'.2 → r = r') ∧ ∀ r ∈ zq_cs, ν.2.2.2.1 ≤ ν.1 r.1 r.2
theorem zq_D {ν : zq_E} (h : zq_ok ν) (σ : zq_T) : va_D (zq_A ν) (zq_ws ν σ) := by
  refine ⟨fun i j p q hp hq e => ?_, fun k q hk => ?_⟩
  · simp only [zq_ws, List.getElem?_map, Option.map_eq_some_iff] at hp hq
    obtain ⟨r, hr, rfl⟩ := hp
    obtain ⟨r', hr', rfl⟩ := hq
    have e2 := h.1 r (List.mem_of_getElem? hr) r' (List.mem_of_getElem? hr') e
    subst e2
    exact zq_inj hr hr'
  · simp only [zq_ws, List.getElem?_map, Option.map_eq_some_iff] at hk
    obtain ⟨r, hr, rfl⟩ := hk
    exact h.2 r (List.mem_of_getElem? hr)
theorem zq_at {t : Nat} {j : Fin 5} (h : zq_vd t j = true) : ∃ k : Nat, zq_cs[k]? = some (t, j) ∧ ∀ (ν : zq_E) (σ : zq_T), (zq_ws ν σ)[k]? = some (ν.1 t j, zq_el ν σ t j) := by
  obtain ⟨k, hk⟩ := List.getElem?_of_mem (zq_mem h)
  exact ⟨k, hk, fun ν σ => by simp [zq_ws, hk]⟩
theorem zq_set {ν : zq_E} {σ σ' : zq_T} {t : Nat} {j : Fin 5} {k : Nat} {x : va_E} (hk : zq_cs[k]? = some (t, j)) (hx : x = zq_el ν σ' t j) (ho : ∀ t' j', (t', j') ∈ zq_cs → (t', j') ≠ (t, j) → zq_el ν σ t' j' = zq_el ν σ' t' j') : (zq_ws ν σ).set k (ν.1 t j, x) = zq_ws ν σ' := by
  subst hx
  refine List.ext_getElem? fun i => ?_
  rw [List.getElem?_set]
  by_cases e : k = i
  · subst e
    have hl : k < (zq_ws ν σ).length := by
      have := (List.getElem?_eq_some_iff.mp hk).1
      simpa [zq_ws] using this
    rw [if_pos rfl, if_pos hl]
    simp [zq_ws, hk]
  · rw [if_neg e]
    simp only [zq_ws, List.getElem?_map]
    cases hi : zq_cs[i]? with
    | none => rfl
    | some r =>
      have hne : r ≠ (t, j) := by
        intro e2
        subst e2
        exact e (zq_inj hk hi)
      simp only [Option.map_some]
      rw [ho r.1 r.2 (List.mem_of_getElem? hi) hne]
/-- what stays of the state of the machine: texts, statics, the script -/
def zq_tys (ν : zq_E) : List (ClassId × FieldType) := [(ν.2.2.1 1, .int), (ν.2.2.1 2, .byte), (ν.2.2.1 3, .long), (ν.2.2.1 4, .boolean), (ν.2.2.1 5, .array .int)]
def zq_len : List Nat := [3, 4, 4, 4, 4, 3, 4, 5, 3, 4, 5, 5, 4]
def zq_byt : List (List Int32) := [[111, 110, 101], [102, 97, 99, 116], [103, 111, 110, 101], [111, 100, 100, 115], [114, 117, 108, 101], [97, 110, 121], [98, 111, 114, 110], [116, 114, 105, 101, 100], [107, 105, 110], [98, 97, 114, 101], [102, 105, 114, 115, 116], [116, 104, 105, 114, 100], [108, 97, 115, 116]]
def zq_str : List (Nat × String) := [(63, "one"), (72, "fact"), (77, "gone"), (82, "odds"), (87, "rule"), (152, "any"), (154, "born"), (156, "tried"), (158, "kin"), (160, "bare"), (162, "first"), (164, "third"), (166, "last")]
/-- what stays: texts, statics, the script -/
def zq_J (ν : zq_E) (U : State) (H : Heap) : Prop := vk_S 13 zq_len zq_byt (fun i => ν.1 (100 + i) 0) (fun i => ν.1 (200 + i) 0) (zq_A ν) U H ∧ va_Z "java/lang/String" "COMPACT_STRINGS" "Z" (.int 1) (zq_A ν) U H ∧ va_Zq "jdk/internal/util/Preconditions" "SIOOBE_FORMATTER" "Ljava/util/function/BiFunction;" (zq_A ν) U H ∧ (∀ (i : Nat) (q : Nat × String), zq_str[i]? = some q → vk_R "ThirdSon$Teller" q.1 q.2 (ν.1 (100 + i) 0) U) ∧ va_X (ν.1 60 0) ν.2.2.2.2.2 ν.2.2.2.2.1 U H ∧ ¬ zq_A ν (ν.1 60 0)
theorem zq_J.go {ν : zq_E} {s U : State} {H : Heap} {locs : List Loc} (h : zq_J ν s s.heap) (hS : va_S (zq_A ν) s.heap H locs) (hW : s.WarmedH U.vm) : zq_J ν U H := by
  obtain ⟨h1, h2, h3, h4, h5, h6⟩ := h
  refine ⟨vk_S.moved hW.alike (h1.kept hS.2.1), va_Z.moved hW.alike (h2.kept hS.2.1), va_Zq.moved hW.alike (h3.kept hS.2.1), fun i q hq => vk_R.warm hW (h4 i q hq), va_X.moved hW.alike (h5.kept (hS.2.1 _ ?_ h6)), h6⟩
  obtain ⟨scr, hs, -⟩ := h5
  exact (Array.getElem?_eq_some_iff.mp hs).1
theorem zq_J.call {ν : zq_E} {U : State} (h : zq_J ν U U.heap) (g : JFrame) (mk : MethodId) (a : Array Value) : zq_J ν (U.calling g mk a) (U.calling g mk a).heap := by
  obtain ⟨h1, h2, h3, h4, h5, h6⟩ := h
  exact ⟨vk_S.moved (u := U) (U := U.calling g mk a) (Vm.Alike.refl U.vm) h1, va_Z.moved (u := U) (U := U.calling g mk a) (Vm.Alike.refl U.vm) h2, va_Zq.moved (u := U) (U := U.calling g mk a) (Vm.Alike.refl U.vm) h3, fun i q hq => vk_R.same rfl (h4 i q hq), va_X.moved (u := U) (U := U.calling g mk a) (Vm.Alike.refl U.vm) h5, h6⟩
/-! locals -/
def zq_ct : zq_V → Nat
  | .inr (.inl _) => 2
  | _ => 1
theorem zq_ct_ev (ν : zq_E) (v : zq_V) : (zq_ev ν v).category = zq_ct v := by
  rcases v with x | x | (_ | r) <;> rfl
def zq_LH (ν : zq_E) (nL : Nat) (arr : Array Slot) (ls : List (Option zq_V)) : Prop := arr.size = nL ∧ lv_wf arr ∧ ∀ (i : Nat) (v : zq_V), ls[i]? = some (some v) → arr[i]? = some (.val (zq_ev ν v))
def zq_pk (ν : zq_E) (ls : List (Option zq_V)) (i : Nat) : Option (Nat × Value) := match ls[i]? with
  | some (some v) => some (i, zq_ev ν v)
  | _ => none
def zq_al (ν : zq_E) (ls : List (Option zq_V)) : List (Nat × Value) := (List.range ls.length).filterMap (zq_pk ν ls)
theorem zq_al_mem {ν : zq_E} {ls : List (Option zq_V)} {i : Nat} {v : zq_V} (h : ls[i]? = some (some v)) : (i, zq_ev ν v) ∈ zq_al ν ls :=
  List.mem_filterMap.mpr ⟨i, List.mem_range.mpr (List.getElem?_eq_some_iff.mp h).1, by simp only [zq_pk, h]⟩
theorem zq_al_of {ν : zq_E} {ls : List (Option zq_V)} {q : Nat × Value} (h : q ∈ zq_al ν ls) : ∃ v, ls[q.1]? = some (some v) ∧ q.2 = zq_ev ν v := by
  obtain ⟨i, -, hi⟩ := List.mem_filterMap.mp h
  unfold zq_pk at hi
  split at hi
  · next v hv =>
    cases hi
    exact ⟨v, hv, rfl⟩
  · cases hi
theorem zq_LH_has {ν : zq_E} {nL : Nat} {arr : Array Slot} {ls : List (Option zq_V)} (h : zq_LH ν nL arr ls) : lv_has arr nL (zq_al ν ls) := by
  refine ⟨h.1, h.2.1, fun q hq => ?_⟩
  obtain ⟨v, hv, he⟩ := zq_al_of hq
  rw [he]
  exact h.2.2 _ _ hv
def zq_nl (ls : List (Option zq_V)) (i : Nat) : Bool := match i with
  | 0 => true
  | i + 1 => match ls[i]? with
    | some (some (.inr (.inl _))) => false
    | _ => true
theorem zq_nl_spec {ls : List (Option zq_V)} {i i' : Nat} {w : zq_V} (h : zq_nl ls i = true) (hi : i' + 1 = i) (hw : ls[i']? = some (some w)) : zq_ct w = 1 := by
  subst hi
  rcases w with x | x | x
  · rfl
  · simp [zq_nl, hw] at h
  · rcases x with _ | x <;> rfl
theorem zq_LH_of1 {ν : zq_E} {nL : Nat} {arr : Array Slot} {ls : List (Option zq_V)} {i : Nat} {v : zq_V} (hnl : zq_nl ls i = true) (h : lv_has arr nL ((i, zq_ev ν v) :: (zq_al ν ls).filter (fun q => !(q.1 == i) && !(q.1 + 1 == i && q.2.category == 2)))) : zq_LH ν nL arr (ls.set i (some v)) := by
  refine ⟨h.1, h.2.1, fun i' w hw => ?_⟩
  rw [List.getElem?_set] at hw
  by_cases e : i = i'
  · subst e
    rw [if_pos rfl] at hw
    split at hw
    · cases hw
      exact h.2.2 _ List.mem_cons_self
    · cases hw
  · rw [if_neg e] at hw
    refine h.2.2 (i', zq_ev ν w) (List.mem_cons_of_mem _ (List.mem_filter.mpr ⟨zq_al_mem hw, ?_⟩))
    have h1 : (i' == i) = false := by simpa using fun q => e q.symm
    by_cases h2 : i' + 1 = i
    · have h3 := zq_nl_spec hnl h2 hw
      simp [h1, zq_ct_ev, h3]
    · simp [h1, h2]
theorem zq_LH_of2 {ν : zq_E} {nL : Nat} {arr : Array Slot} {ls : List (Option zq_V)} {i : Nat} {x : Int64} (hnl : zq_nl ls i = true) (h : lv_has arr nL ((i, .long x) :: (zq_al ν ls).filter (fun q => !(q.1 == i) && (!(q.1 == i + 1) && !(q.1 + 1 == i && q.2.category == 2))))) : zq_LH ν nL arr ((ls.set i (some (zq_L x))).set (i + 1) none) := by
  refine ⟨h.1, h.2.1, fun i' w hw => ?_⟩
  rw [List.getElem?_set] at hw
  by_cases e1 : i + 1 = i'
  · subst e1
    rw [if_pos rfl] at hw
    split at hw <;> cases hw
  · rw [if_neg e1, List.getElem?_set] at hw
    by_cases e : i = i'
    · subst e
      rw [if_pos rfl] at hw
      split at hw
      · cases hw
        exact h.2.2 _ List.mem_cons_self
      · cases hw
    · rw [if_neg e] at hw
      refine h.2.2 (i', zq_ev ν w) (List.mem_cons_of_mem _ (List.mem_filter.mpr ⟨zq_al_mem hw, ?_⟩))
      have h1 : (i' == i) = false := by simpa using fun q => e q.symm
      have h0 : (i' == i + 1) = false := by simpa using fun q => e1 q.symm
      by_cases h2 : i' + 1 = i
      · have h3 := zq_nl_spec hnl h2 hw
        simp [h1, h0, zq_ct_ev, h3]
      · simp [h1, h0, h2]
def zq_en : List zq_V → List (Option zq_V)
  | [] => []
  | .inr (.inl x) :: r => some (zq_L x) :: none :: zq_en r
  | v :: r => some v :: zq_en r
theorem zq_en_args (ν : zq_E) : ∀ (l : List zq_V) (k i : Nat) (v : zq_V), (zq_en l)[i]? = some (some v) → (k + i, zq_ev ν v) ∈ lv_args k (l.map (zq_ev ν))
  | [], k, i, v, h => by simp [zq_en] at h
  | .inl x :: r, k, 0, v, h => by
    simp only [zq_en, List.getElem?_cons_zero, Option.some.injEq] at h
    subst h
    exact List.mem_cons_self
  | .inl x :: r, k, i + 1, v, h => by
    simp only [zq_en, List.getElem?_cons_succ] at h
    have := zq_en_args ν r (k + 1) i v h
    rw [show k + 1 + i = k + (i + 1) by omega] at this
    exact List.mem_cons_of_mem _ this
  | .inr (.inl x) :: r, k, 0, v, h => by
    simp only [zq_en, List.getElem?_cons_zero, Option.some.injEq] at h
    subst h
    exact List.mem_cons_self
  | .inr (.inl x) :: r, k, 1, v, h => by
    simp [zq_en] at h
  | .inr (.inl x) :: r, k, i + 2, v, h => by
    simp only [zq_en, List.getElem?_cons_succ] at h
    have := zq_en_args ν r (k + 2) i v h
    rw [show k + 2 + i = k + (i + 2) by omega] at this
    exact List.mem_cons_of_mem _ this
  | .inr (.inr x) :: r, k, 0, v, h => by
    simp only [zq_en, List.getElem?_cons_zero, Option.some.injEq] at h
    subst h
    exact List.mem_cons_self
  | .inr (.inr x) :: r, k, i + 1, v, h => by
    simp only [zq_en, List.getElem?_cons_succ] at h
    have := zq_en_args ν r (k + 1) i v h
    rw [show k + 1 + i = k + (i + 1) by omega] at this
    rcases x with _ | x
    · exact List.mem_cons_of_mem _ this
    · exact List.mem_cons_of_mem _ this
theorem zq_en_len (ν : zq_E) : ∀ l : List zq_V, (lg_sl (l.map (zq_ev ν))).length = (zq_en l).length
  | [] => rfl
  | .inl x :: r => by
    have := zq_en_len ν r
    simp [lg_sl, zq_en, zq_ev, Value.category] at this ⊢
    omega
  | .inr (.inl x) :: r => by
    have := zq_en_len ν r
    simp [lg_sl, zq_en, zq_ev, Value.category] at this ⊢
    omega
  | .inr (.inr (some x)) :: r => by
    have := zq_en_len ν r
    simp [lg_sl, zq_en, zq_ev, Value.category] at this ⊢
    omega
  | .inr (.inr none) :: r => by
    have := zq_en_len ν r
    simp [lg_sl, zq_en, zq_ev, Value.category] at this ⊢
    omega
/-! the judgements -/
def zq_C (ν : zq_E) (M : zq_M) (h : Nat) (p : Program) (R : Room) (s : State) (m : MethodId) (args : Array Value) (c : Code) (cells slots : Nat) : Prop :=
  p.tables.exec = Jvm.exec ∧ c.code = M.2.1 ∧ c.maxLocals = M.2.2.1 ∧ s.vm.findClass M.1.cls = some m.cls ∧ (∀ w ∈ zq_tbl, w.before args s = true) ∧ va_K ν.2.1 zq_cl (zq_tys ν) s ∧ zq_J ν s s.heap ∧ h ≤ R.frames ∧ 60 * h ≤ R.locals ∧ cells ≤ R.cells ∧ slots ≤ R.slots
/-- an answer and the instruction that gives it -/
def zq_rk (ret : Option FieldType) (r : Option zq_V) (ins : Instr) : Prop :=
  (ret = none ∧ r = none ∧ ins = .return_) ∨ (∃ (ty : FieldType) (x : Int32), ret = some ty ∧ r = some (zq_I x) ∧ ins = .ireturn ∧ narrow ty (.int x) = .int x) ∨ (∃ x : Int64, ret = some .long ∧ r = some (zq_L x) ∧ ins = .lreturn) ∨ (∃ (C : String) (q : zq_R), ret = some (.object C) ∧ r = some (Sum.inr (Sum.inr (some q))) ∧ ins = .areturn)
def zq_X (ν : zq_E) (M : zq_M) (Q : Option zq_V → zq_T → Prop) (p : Program) (l : Launch) (e : Env) (R : Room) (s : State) (m : MethodId) (args : Array Value) (below : List Frame) (meth : Method) (c : Code) (cells slots : Nat) (Qm : State → Prop) : Prop :=
  ∀ (r : Option zq_V) (σ' : zq_T) (ins : Instr) (H : Heap) (locs : List Loc) (pc : Nat) (arr : Array Slot), zq_rk M.2.2.2 r ins → decode M.2.1 pc = .ok (ins, 1) → Q r σ' → va_P ν.2.1 zq_cl (zq_ws ν σ') H → va_S (zq_A ν) s.heap H locs → W p l e R s m args below meth c H locs cells slots Qm (F0 m pc arr ((r.map (zq_ev ν)).toList))
def zq_G (ν : zq_E) (M : zq_M) (h : Nat) (Q : Option zq_V → zq_T → Prop) (pc : Nat) (ls : List (Option zq_V)) (st : List zq_V) (σ : zq_T) : Prop :=
  ∀ (p : Program) (l : Launch) (e : Env) (R : Room) (s : State) (m : MethodId) (args : Array Value) (below : List Frame) (meth : Method) (c : Code) (cells slots : Nat) (Qm : State → Prop) (H : Heap) (locs : List Loc) (arr : Array Slot),
    zq_ok ν → zq_C ν M h p R s m args c cells slots → zq_X ν M Q p l e R s m args below meth c cells slots Qm → va_P ν.2.1 zq_cl (zq_ws ν σ) H → va_S (zq_A ν) s.heap H locs → zq_LH ν M.2.2.1 arr ls →
    W p l e R s m args below meth c H locs cells slots Qm (F0 m pc arr (st.map (zq_ev ν)))
def zq_Pc (ν : zq_E) (args : List zq_V) (σ : zq_T) : Array Value → State → Prop := va_Pc (args.map (zq_ev ν)) (fun U => va_P ν.2.1 zq_cl (zq_ws ν σ) U.heap ∧ va_K ν.2.1 zq_cl (zq_tys ν) U ∧ zq_J ν U U.heap)
def zq_Qc (ν : zq_E) (Q : Option zq_V → zq_T → Prop) : Array Value → State → Outcome → State → Prop := fun _ st oc t => (∃ (r : Option zq_V) (σ' : zq_T), oc = .returned (r.map (zq_ev ν)) ∧ Q r σ' ∧ va_P ν.2.1 zq_cl (zq_ws ν σ') t.heap) ∧ va_F (zq_A ν) st t
def zq_rm (h : Nat) : Room := { frames := h, cells := 0, slots := 0, locals := 60 * h }
def zq_wm (M : zq_M) : List Cond := Cond.code M.1 M.2.1 M.2.2.1 M.2.2.2 :: zq_tbl
/-- a method's contract in the pure world: from these arguments and this state it returns, with Q of answer and state -/
def zq_Sp (M : zq_M) (h : Nat) (args : List zq_V) (σ : zq_T) (Q : Option zq_V → zq_T → Prop) : Prop := ∀ ν : zq_E, zq_ok ν → ∀ l : Launch, Met l M.1 (zq_wm M) (zq_rm h) (zq_Pc ν args σ) (zq_Qc ν Q) 0 0 (zq_A ν)
def zq_rv (v : zq_V) (τ : zq_T) : Option zq_V → zq_T → Prop := fun r σ' => r = some v ∧ σ' = τ
def zq_r0 (τ : zq_T) : Option zq_V → zq_T → Prop := fun r σ' => r = none ∧ σ' = τ
theorem zq_sp {M : zq_M} {h : Nat} {args : List zq_V} {σ : zq_T} {Q : Option zq_V → zq_T → Prop} (ls : List (Option zq_V)) (hpl : plainName M.1.cls = true) (hls : zq_en args ++ List.replicate (M.2.2.1 - (zq_en args).length) none = ls) (hn : (zq_en args).length ≤ M.2.2.1) (hG : ∀ ν, zq_G ν M h Q 0 ls [] σ) : zq_Sp M h args σ Q := by
  intro ν hok l
  refine Met.ofW (cc := M.2.1) (maxL := M.2.2.1) (ret := M.2.2.2) hpl rfl ?_
  intro p e s m a below meth c s₁ B hml hv
  obtain ⟨rfl, hP, hK, hJ⟩ := hv
  have hts := atoms_spec (ws := zq_wm M) B.pre
  have hlocks := B.notSynchronized
  have hlen : (lg_sl (args.map (zq_ev ν))).length ≤ M.2.2.1 := by rw [zq_en_len]; exact hn
  have hl := lv_entry (args.map (zq_ev ν)) (n := M.2.2.1) hlen
  rw [lg_entry_eq]
  generalize ((lg_sl (args.map (zq_ev ν))) ++ List.replicate (M.2.2.1 - (lg_sl (args.map (zq_ev ν))).length) Slot.unset).toArray = arr at hl ⊢
  refine hG ν p l e (headSpec (zq_wm M) (zq_rm h)).room s m _ below meth c 0 0 _ s.heap [] arr hok ⟨B.exec, B.bytes, hml, findClass_of_methodNamed B.named, fun w hw => hts w (List.mem_cons_of_mem _ hw), hK, hJ, Nat.le_refl _, Nat.le_refl _, Nat.le_refl _, Nat.le_refl _⟩ ?_ hP va_S.rf ⟨hl.1, hl.2.1, fun i v hv => ?_⟩
  · intro r σ' ins H locs pc arr hr hd hQ hP hS
    rcases hr with ⟨h1, rfl, rfl⟩ | ⟨ty, x, h1, rfl, rfl, h2⟩ | ⟨x, h1, rfl, rfl⟩ | ⟨C, q, h1, rfl, rfl⟩
    · exact W.vret B.exec B.bytes (B.returns.trans h1) (fun t ht hW => ⟨⟨none, σ', rfl, hQ, by rw [ht]; exact hP⟩, hS.F ht⟩) hS.2.2 hd
    · exact W.zret B.exec B.bytes (B.returns.trans h1) h2 (fun t ht hW => ⟨⟨some (zq_I x), σ', rfl, hQ, by rw [ht]; exact hP⟩, hS.F ht⟩) hS.2.2 hd
    · exact W.lret B.exec B.bytes (B.returns.trans h1) (fun t ht hW => ⟨⟨some (zq_L x), σ', rfl, hQ, by rw [ht]; exact hP⟩, hS.F ht⟩) hS.2.2 hd
    · exact W.aret B.exec B.bytes (B.returns.trans h1) (Or.inl ⟨C, rfl⟩) (Or.inr ⟨_, rfl⟩) (fun t ht hW => ⟨⟨some (Sum.inr (Sum.inr (some q))), σ', rfl, hQ, by rw [ht]; exact hP⟩, hS.F ht⟩) hS.2.2 hd
  · rw [← hls, List.getElem?_append] at hv
    split at hv
    · have := zq_en_args ν args 0 i v hv
      rw [Nat.zero_add] at this
      exact hl.2.2 _ this
    · rw [List.getElem?_replicate] at hv
      split at hv <;> cases hv
theorem zq_good {M : zq_M} (hc : Cond.code M.1 M.2.1 M.2.2.1 M.2.2.2 ∈ zq_tbl) : GoodIn zq_tbl (zq_wm M) := by
  intro w hw
  rcases List.mem_cons.mp hw with rfl | h
  · exact ⟨hc, good_of_word (List.mem_filter.mp hc).2⟩
  · exact ⟨h, good_of_word (List.mem_filter.mp h).2⟩
/-- fewer locals known -/
theorem zq_fewer {ν : zq_E} {M : zq_M} {h : Nat} {Q : Option zq_V → zq_T → Prop} {pc : Nat} {ls : List (Option zq_V)} {st : List zq_V} {σ : zq_T} (ls' : List (Option zq_V)) (hl : ∀ (i : Nat) (v : zq_V), ls'[i]? = some (some v) → ls[i]? = some (some v)) (k : zq_G ν M h Q pc ls' st σ) : zq_G ν M h Q pc ls st σ := by
  intro p l e R s m args below meth c cells slots Qm H locs arr hok hC hX hP hS hL
  exact k p l e R s m args below meth c cells slots Qm H locs arr hok hC hX hP hS ⟨hL.1, hL.2.1, fun i v hv => hL.2.2 i v (hl i v hv)⟩
def zq_sub : List (Option zq_V) → List (Option zq_V) → Prop
  | [], _ => True
  | none :: a, _ :: b => zq_sub a b
  | some v :: a, w :: b => w = some v ∧ zq_sub a b
  | none :: a, [] => zq_sub a []
  | some _ :: _, [] => False
theorem zq_sub_spec : ∀ {a b : List (Option zq_V)}, zq_sub a b → ∀ (i : Nat) (v : zq_V), a[i]? = some (some v) → b[i]? = some (some v)
  | [], _, _, i, v, h => by simp at h
  | none :: a, _ :: b, hs, 0, v, h => by simp at h
  | none :: a, _ :: b, hs, i + 1, v, h => by
    simp only [List.getElem?_cons_succ] at h ⊢
    exact zq_sub_spec (a := a) (b := b) hs i v h
  | some w :: a, x :: b, hs, 0, v, h => by
    simp only [List.getElem?_cons_zero, Option.some.injEq] at h ⊢
    rw [← h]
    exact hs.1
  | some w :: a, x :: b, hs, i + 1, v, h => by
    simp only [List.getElem?_cons_succ] at h ⊢
    exact zq_sub_spec (a := a) (b := b) hs.2 i v h
  | none :: a, [], hs, 0, v, h => by simp at h
  | none :: a, [], hs, i + 1, v, h => by
    simp only [List.getElem?_cons_succ] at h
    exact absurd (zq_sub_spec (a := a) (b := []) hs i v h) (by simp)
  | some _ :: _, [], hs, i, v, h => hs.elim
end
section
theorem gq_iconst {ν : zq_E} {M : zq_M} {h : Nat} {Q : Option zq_V → zq_T → Prop} {pc : Nat} {ls : List (Option zq_V)} {st : List zq_V} {σ : zq_T} {n : Int} {v : Int32} (hd : decode M.2.1 pc = .ok (.iconst n, 1)) (hv : Int32.ofInt n = v) (k : zq_G ν M h Q (pc + 1) ls (zq_I v :: st) σ) : zq_G ν M h Q pc ls (st) σ := by
  intro p l e R s m args below meth c cells slots Qm H locs arr hok hC hX hP hS hL
  exact lv_iconst hC.1 hC.2.1 hd hv (k p l e R s m args below meth c cells slots Qm H locs arr hok hC hX hP hS hL)
theorem gq_bipush {ν : zq_E} {M : zq_M} {h : Nat} {Q : Option zq_V → zq_T → Prop} {pc : Nat} {ls : List (Option zq_V)} {st : List zq_V} {σ : zq_T} {n : Int} {v : Int32} (hd : decode M.2.1 pc = .ok (.bipush n, 2)) (hv : (Int8.ofInt n).toInt32 = v) (k : zq_G ν M h Q (pc + 2) ls (zq_I v :: st) σ) : zq_G ν M h Q pc ls (st) σ := by
  intro p l e R s m args below meth c cells slots Qm H locs arr hok hC hX hP hS hL
  exact lv_bipush hC.1 hC.2.1 hd hv (k p l e R s m args below meth c cells slots Qm H locs arr hok hC hX hP hS hL)
theorem gq_sipush {ν : zq_E} {M : zq_M} {h : Nat} {Q : Option zq_V → zq_T → Prop} {pc : Nat} {ls : List (Option zq_V)} {st : List zq_V} {σ : zq_T} {n : Int} {v : Int32} (hd : decode M.2.1 pc = .ok (.sipush n, 3)) (hv : (Int16.ofInt n).toInt32 = v) (k : zq_G ν M h Q (pc + 3) ls (zq_I v :: st) σ) : zq_G ν M h Q pc ls (st) σ := by
  intro p l e R s m args below meth c cells slots Qm H locs arr hok hC hX hP hS hL
  exact lv_sipush hC.1 hC.2.1 hd hv (k p l e R s m args below meth c cells slots Qm H locs arr hok hC hX hP hS hL)
theorem gq_lconst {ν : zq_E} {M : zq_M} {h : Nat} {Q : Option zq_V → zq_T → Prop} {pc : Nat} {ls : List (Option zq_V)} {st : List zq_V} {σ : zq_T} {n : Fin 2} {v : Int64} (hd : decode M.2.1 pc = .ok (.lconst n, 1)) (hv : Int64.ofNat (n : Nat) = v) (k : zq_G ν M h Q (pc + 1) ls (zq_L v :: st) σ) : zq_G ν M h Q pc ls (st) σ := by
  intro p l e R s m args below meth c cells slots Qm H locs arr hok hC hX hP hS hL
  exact lv_lconst hC.1 hC.2.1 hd hv (k p l e R s m args below meth c cells slots Qm H locs arr hok hC hX hP hS hL)
theorem gq_iadd {ν : zq_E} {M : zq_M} {h : Nat} {Q : Option zq_V → zq_T → Prop} {pc : Nat} {ls : List (Option zq_V)} {st : List zq_V} {σ : zq_T} {x y : Int32} (hd : decode M.2.1 pc = .ok (.iadd, 1)) (k : zq_G ν M h Q (pc + 1) ls (zq_I (x + y) :: st) σ) : zq_G ν M h Q pc ls (zq_I y :: zq_I x :: st) σ := by
  intro p l e R s m args below meth c cells slots Qm H locs arr hok hC hX hP hS hL
  exact lv_iadd hC.1 hC.2.1 hd (k p l e R s m args below meth c cells slots Qm H locs arr hok hC hX hP hS hL)
theorem gq_isub {ν : zq_E} {M : zq_M} {h : Nat} {Q : Option zq_V → zq_T → Prop} {pc : Nat} {ls : List (Option zq_V)} {st : List zq_V} {σ : zq_T} {x y : Int32} (hd : decode M.2.1 pc = .ok (.isub, 1)) (k : zq_G ν M h Q (pc + 1) ls (zq_I (x - y) :: st) σ) : zq_G ν M h Q pc ls (zq_I y :: zq_I x :: st) σ := by
  intro p l e R s m args below meth c cells slots Qm H locs arr hok hC hX hP hS hL
  exact lv_isub hC.1 hC.2.1 hd (k p l e R s m args below meth c cells slots Qm H locs arr hok hC hX hP hS hL)
theorem gq_imul {ν : zq_E} {M : zq_M} {h : Nat} {Q : Option zq_V → zq_T → Prop} {pc : Nat} {ls : List (Option zq_V)} {st : List zq_V} {σ : zq_T} {x y : Int32} (hd : decode M.2.1 pc = .ok (.imul, 1)) (k : zq_G ν M h Q (pc + 1) ls (zq_I (x * y) :: st) σ) : zq_G ν M h Q pc ls (zq_I y :: zq_I x :: st) σ := by
  intro p l e R s m args below meth c cells slots Qm H locs arr hok hC hX hP hS hL
  exact lv_imul hC.1 hC.2.1 hd (k p l e R s m args below meth c cells slots Qm H locs arr hok hC hX hP hS hL)
theorem gq_iand {ν : zq_E} {M : zq_M} {h : Nat} {Q : Option zq_V → zq_T → Prop} {pc : Nat} {ls : List (Option zq_V)} {st : List zq_V} {σ : zq_T} {x y : Int32} (hd : decode M.2.1 pc = .ok (.iand, 1)) (k : zq_G ν M h Q (pc + 1) ls (zq_I (x &&& y) :: st) σ) : zq_G ν M h Q pc ls (zq_I y :: zq_I x :: st) σ := by
  intro p l e R s m args below meth c cells slots Qm H locs arr hok hC hX hP hS hL
  exact lv_iand hC.1 hC.2.1 hd (k p l e R s m args below meth c cells slots Qm H locs arr hok hC hX hP hS hL)
theorem gq_ior {ν : zq_E} {M : zq_M} {h : Nat} {Q : Option zq_V → zq_T → Prop} {pc : Nat} {ls : List (Option zq_V)} {st : List zq_V} {σ : zq_T} {x y : Int32} (hd : decode M.2.1 pc = .ok (.ior, 1)) (k : zq_G ν M h Q (pc + 1) ls (zq_I (x ||| y) :: st) σ) : zq_G ν M h Q pc ls (zq_I y :: zq_I x :: st) σ := by
  intro p l e R s m args below meth c cells slots Qm H locs arr hok hC hX hP hS hL
  exact lv_ior hC.1 hC.2.1 hd (k p l e R s m args below meth c cells slots Qm H locs arr hok hC hX hP hS hL)
theorem gq_ixor {ν : zq_E} {M : zq_M} {h : Nat} {Q : Option zq_V → zq_T → Prop} {pc : Nat} {ls : List (Option zq_V)} {st : List zq_V} {σ : zq_T} {x y : Int32} (hd : decode M.2.1 pc = .ok (.ixor, 1)) (k : zq_G ν M h Q (pc + 1) ls (zq_I (x ^^^ y) :: st) σ) : zq_G ν M h Q pc ls (zq_I y :: zq_I x :: st) σ := by
  intro p l e R s m args below meth c cells slots Qm H locs arr hok hC hX hP hS hL
  exact lv_ixor hC.1 hC.2.1 hd (k p l e R s m args below meth c cells slots Qm H locs arr hok hC hX hP hS hL)
theorem gq_ishl {ν : zq_E} {M : zq_M} {h : Nat} {Q : Option zq_V → zq_T → Prop} {pc : Nat} {ls : List (Option zq_V)} {st : List zq_V} {σ : zq_T} {x y : Int32} (hd : decode M.2.1 pc = .ok (.ishl, 1)) (k : zq_G ν M h Q (pc + 1) ls (zq_I (x <<< (y &&& 31)) :: st) σ) : zq_G ν M h Q pc ls (zq_I y :: zq_I x :: st) σ := by
  intro p l e R s m args below meth c cells slots Qm H locs arr hok hC hX hP hS hL
  exact lv_ishl hC.1 hC.2.1 hd (k p l e R s m args below meth c cells slots Qm H locs arr hok hC hX hP hS hL)
theorem gq_ishr {ν : zq_E} {M : zq_M} {h : Nat} {Q : Option zq_V → zq_T → Prop} {pc : Nat} {ls : List (Option zq_V)} {st : List zq_V} {σ : zq_T} {x y : Int32} (hd : decode M.2.1 pc = .ok (.ishr, 1)) (k : zq_G ν M h Q (pc + 1) ls (zq_I (x >>> (y &&& 31)) :: st) σ) : zq_G ν M h Q pc ls (zq_I y :: zq_I x :: st) σ := by
  intro p l e R s m args below meth c cells slots Qm H locs arr hok hC hX hP hS hL
  exact lv_ishr hC.1 hC.2.1 hd (k p l e R s m args below meth c cells slots Qm H locs arr hok hC hX hP hS hL)
theorem gq_idiv {ν : zq_E} {M : zq_M} {h : Nat} {Q : Option zq_V → zq_T → Prop} {pc : Nat} {ls : List (Option zq_V)} {st : List zq_V} {σ : zq_T} {x y : Int32} (hd : decode M.2.1 pc = .ok (.idiv, 1)) (hne : ¬ y = 0) (k : zq_G ν M h Q (pc + 1) ls (zq_I (x / y) :: st) σ) : zq_G ν M h Q pc ls (zq_I y :: zq_I x :: st) σ := by
  intro p l e R s m args below meth c cells slots Qm H locs arr hok hC hX hP hS hL
  exact lv_idiv hC.1 hC.2.1 hd hne (k p l e R s m args below meth c cells slots Qm H locs arr hok hC hX hP hS hL)
theorem gq_irem {ν : zq_E} {M : zq_M} {h : Nat} {Q : Option zq_V → zq_T → Prop} {pc : Nat} {ls : List (Option zq_V)} {st : List zq_V} {σ : zq_T} {x y : Int32} (hd : decode M.2.1 pc = .ok (.irem, 1)) (hne : ¬ y = 0) (k : zq_G ν M h Q (pc + 1) ls (zq_I (x - x / y * y) :: st) σ) : zq_G ν M h Q pc ls (zq_I y :: zq_I x :: st) σ := by
  intro p l e R s m args below meth c cells slots Qm H locs arr hok hC hX hP hS hL
  exact lv_irem hC.1 hC.2.1 hd hne (k p l e R s m args below meth c cells slots Qm H locs arr hok hC hX hP hS hL)
theorem gq_ladd {ν : zq_E} {M : zq_M} {h : Nat} {Q : Option zq_V → zq_T → Prop} {pc : Nat} {ls : List (Option zq_V)} {st : List zq_V} {σ : zq_T} {x y : Int64} (hd : decode M.2.1 pc = .ok (.ladd, 1)) (k : zq_G ν M h Q (pc + 1) ls (zq_L (x + y) :: st) σ) : zq_G ν M h Q pc ls (zq_L y :: zq_L x :: st) σ := by
  intro p l e R s m args below meth c cells slots Qm H locs arr hok hC hX hP hS hL
  exact lv_ladd hC.1 hC.2.1 hd (k p l e R s m args below meth c cells slots Qm H locs arr hok hC hX hP hS hL)
theorem gq_lsub {ν : zq_E} {M : zq_M} {h : Nat} {Q : Option zq_V → zq_T → Prop} {pc : Nat} {ls : List (Option zq_V)} {st : List zq_V} {σ : zq_T} {x y : Int64} (hd : decode M.2.1 pc = .ok (.lsub, 1)) (k : zq_G ν M h Q (pc + 1) ls (zq_L (x - y) :: st) σ) : zq_G ν M h Q pc ls (zq_L y :: zq_L x :: st) σ := by
  intro p l e R s m args below meth c cells slots Qm H locs arr hok hC hX hP hS hL
  exact lv_lsub hC.1 hC.2.1 hd (k p l e R s m args below meth c cells slots Qm H locs arr hok hC hX hP hS hL)
theorem gq_lmul {ν : zq_E} {M : zq_M} {h : Nat} {Q : Option zq_V → zq_T → Prop} {pc : Nat} {ls : List (Option zq_V)} {st : List zq_V} {σ : zq_T} {x y : Int64} (hd : decode M.2.1 pc = .ok (.lmul, 1)) (k : zq_G ν M h Q (pc + 1) ls (zq_L (x * y) :: st) σ) : zq_G ν M h Q pc ls (zq_L y :: zq_L x :: st) σ := by
  intro p l e R s m args below meth c cells slots Qm H locs arr hok hC hX hP hS hL
  exact lv_lmul hC.1 hC.2.1 hd (k p l e R s m args below meth c cells slots Qm H locs arr hok hC hX hP hS hL)
theorem gq_ldiv {ν : zq_E} {M : zq_M} {h : Nat} {Q : Option zq_V → zq_T → Prop} {pc : Nat} {ls : List (Option zq_V)} {st : List zq_V} {σ : zq_T} {x y : Int64} (hd : decode M.2.1 pc = .ok (.ldiv, 1)) (hne : ¬ y = 0) (k : zq_G ν M h Q (pc + 1) ls (zq_L (x / y) :: st) σ) : zq_G ν M h Q pc ls (zq_L y :: zq_L x :: st) σ := by
  intro p l e R s m args below meth c cells slots Qm H locs arr hok hC hX hP hS hL
  exact lv_ldiv hC.1 hC.2.1 hd hne (k p l e R s m args below meth c cells slots Qm H locs arr hok hC hX hP hS hL)
theorem gq_lrem {ν : zq_E} {M : zq_M} {h : Nat} {Q : Option zq_V → zq_T → Prop} {pc : Nat} {ls : List (Option zq_V)} {st : List zq_V} {σ : zq_T} {x y : Int64} (hd : decode M.2.1 pc = .ok (.lrem, 1)) (hne : ¬ y = 0) (k : zq_G ν M h Q (pc + 1) ls (zq_L (x - x / y * y) :: st) σ) : zq_G ν M h Q pc ls (zq_L y :: zq_L x :: st) σ := by
  intro p l e R s m args below meth c cells slots Qm H locs arr hok hC hX hP hS hL
  exact lv_lrem hC.1 hC.2.1 hd hne (k p l e R s m args below meth c cells slots Qm H locs arr hok hC hX hP hS hL)
theorem gq_iushr {ν : zq_E} {M : zq_M} {h : Nat} {Q : Option zq_V → zq_T → Prop} {pc : Nat} {ls : List (Option zq_V)} {st : List zq_V} {σ : zq_T} {x y : Int32} (hd : decode M.2.1 pc = .ok (.iushr, 1)) (k : zq_G ν M h Q (pc + 1) ls (zq_I (x.toUInt32 >>> (y.toUInt32 &&& Int32.toUInt32 31)).toInt32 :: st) σ) : zq_G ν M h Q pc ls (zq_I y :: zq_I x :: st) σ := by
  intro p l e R s m args below meth c cells slots Qm H locs arr hok hC hX hP hS hL
  exact lv_iushr hC.1 hC.2.1 hd rfl (k p l e R s m args below meth c cells slots Qm H locs arr hok hC hX hP hS hL)
theorem gq_ineg {ν : zq_E} {M : zq_M} {h : Nat} {Q : Option zq_V → zq_T → Prop} {pc : Nat} {ls : List (Option zq_V)} {st : List zq_V} {σ : zq_T} {x : Int32} (hd : decode M.2.1 pc = .ok (.ineg, 1)) (k : zq_G ν M h Q (pc + 1) ls (zq_I (-x) :: st) σ) : zq_G ν M h Q pc ls (zq_I x :: st) σ := by
  intro p l e R s m args below meth c cells slots Qm H locs arr hok hC hX hP hS hL
  exact lv_ineg hC.1 hC.2.1 hd (k p l e R s m args below meth c cells slots Qm H locs arr hok hC hX hP hS hL)
theorem gq_i2l {ν : zq_E} {M : zq_M} {h : Nat} {Q : Option zq_V → zq_T → Prop} {pc : Nat} {ls : List (Option zq_V)} {st : List zq_V} {σ : zq_T} {x : Int32} (hd : decode M.2.1 pc = .ok (.i2l, 1)) (k : zq_G ν M h Q (pc + 1) ls (zq_L x.toInt64 :: st) σ) : zq_G ν M h Q pc ls (zq_I x :: st) σ := by
  intro p l e R s m args below meth c cells slots Qm H locs arr hok hC hX hP hS hL
  exact lv_i2l hC.1 hC.2.1 hd rfl (k p l e R s m args below meth c cells slots Qm H locs arr hok hC hX hP hS hL)
theorem gq_l2i {ν : zq_E} {M : zq_M} {h : Nat} {Q : Option zq_V → zq_T → Prop} {pc : Nat} {ls : List (Option zq_V)} {st : List zq_V} {σ : zq_T} {x : Int64} (hd : decode M.2.1 pc = .ok (.l2i, 1)) (k : zq_G ν M h Q (pc + 1) ls (zq_I x.toInt32 :: st) σ) : zq_G ν M h Q pc ls (zq_L x :: st) σ := by
  intro p l e R s m args below meth c cells slots Qm H locs arr hok hC hX hP hS hL
  exact lv_l2i hC.1 hC.2.1 hd rfl (k p l e R s m args below meth c cells slots Qm H locs arr hok hC hX hP hS hL)
theorem gq_i2b {ν : zq_E} {M : zq_M} {h : Nat} {Q : Option zq_V → zq_T → Prop} {pc : Nat} {ls : List (Option zq_V)} {st : List zq_V} {σ : zq_T} {x : Int32} (hd : decode M.2.1 pc = .ok (.i2b, 1)) (k : zq_G ν M h Q (pc + 1) ls (zq_I x.toInt8.toInt32 :: st) σ) : zq_G ν M h Q pc ls (zq_I x :: st) σ := by
  intro p l e R s m args below meth c cells slots Qm H locs arr hok hC hX hP hS hL
  exact lv_i2b hC.1 hC.2.1 hd rfl (k p l e R s m args below meth c cells slots Qm H locs arr hok hC hX hP hS hL)
theorem gq_i2s {ν : zq_E} {M : zq_M} {h : Nat} {Q : Option zq_V → zq_T → Prop} {pc : Nat} {ls : List (Option zq_V)} {st : List zq_V} {σ : zq_T} {x : Int32} (hd : decode M.2.1 pc = .ok (.i2s, 1)) (k : zq_G ν M h Q (pc + 1) ls (zq_I x.toInt16.toInt32 :: st) σ) : zq_G ν M h Q pc ls (zq_I x :: st) σ := by
  intro p l e R s m args below meth c cells slots Qm H locs arr hok hC hX hP hS hL
  exact lv_i2s hC.1 hC.2.1 hd rfl (k p l e R s m args below meth c cells slots Qm H locs arr hok hC hX hP hS hL)
theorem gq_lcmp {ν : zq_E} {M : zq_M} {h : Nat} {Q : Option zq_V → zq_T → Prop} {pc : Nat} {ls : List (Option zq_V)} {st : List zq_V} {σ : zq_T} {x y : Int64} (hd : decode M.2.1 pc = .ok (.lcmp, 1)) (k : zq_G ν M h Q (pc + 1) ls (zq_I (lg_cmp x y) :: st) σ) : zq_G ν M h Q pc ls (zq_L y :: zq_L x :: st) σ := by
  intro p l e R s m args below meth c cells slots Qm H locs arr hok hC hX hP hS hL
  exact W.lcmp hC.1 hC.2.1 hd (k p l e R s m args below meth c cells slots Qm H locs arr hok hC hX hP hS hL)
theorem gq_pop {ν : zq_E} {M : zq_M} {h : Nat} {Q : Option zq_V → zq_T → Prop} {pc : Nat} {ls : List (Option zq_V)} {st : List zq_V} {σ : zq_T} {v : zq_V} (hd : decode M.2.1 pc = .ok (.pop, 1)) (hv : zq_ct v = 1) (k : zq_G ν M h Q (pc + 1) ls (st) σ) : zq_G ν M h Q pc ls (v :: st) σ := by
  intro p l e R s m args below meth c cells slots Qm H locs arr hok hC hX hP hS hL
  exact lv_pop hC.1 hC.2.1 hd ((zq_ct_ev _ _).trans hv) (k p l e R s m args below meth c cells slots Qm H locs arr hok hC hX hP hS hL)
theorem gq_dup {ν : zq_E} {M : zq_M} {h : Nat} {Q : Option zq_V → zq_T → Prop} {pc : Nat} {ls : List (Option zq_V)} {st : List zq_V} {σ : zq_T} {v : zq_V} (hd : decode M.2.1 pc = .ok (.dup, 1)) (hv : zq_ct v = 1) (k : zq_G ν M h Q (pc + 1) ls (v :: v :: st) σ) : zq_G ν M h Q pc ls (v :: st) σ := by
  intro p l e R s m args below meth c cells slots Qm H locs arr hok hC hX hP hS hL
  exact lv_dup hC.1 hC.2.1 hd ((zq_ct_ev _ _).trans hv) (k p l e R s m args below meth c cells slots Qm H locs arr hok hC hX hP hS hL)
theorem gq_dup2 {ν : zq_E} {M : zq_M} {h : Nat} {Q : Option zq_V → zq_T → Prop} {pc : Nat} {ls : List (Option zq_V)} {st : List zq_V} {σ : zq_T} {v w : zq_V} (hd : decode M.2.1 pc = .ok (.dup2, 1)) (hv : zq_ct v = 1) (hw : zq_ct w = 1) (k : zq_G ν M h Q (pc + 1) ls (v :: w :: v :: w :: st) σ) : zq_G ν M h Q pc ls (v :: w :: st) σ := by
  intro p l e R s m args below meth c cells slots Qm H locs arr hok hC hX hP hS hL
  exact lv_dup2_11 hC.1 hC.2.1 hd ((zq_ct_ev _ _).trans hv) ((zq_ct_ev _ _).trans hw) (k p l e R s m args below meth c cells slots Qm H locs arr hok hC hX hP hS hL)
theorem gq_iload {ν : zq_E} {M : zq_M} {h : Nat} {Q : Option zq_V → zq_T → Prop} {pc : Nat} {ls : List (Option zq_V)} {st : List zq_V} {σ : zq_T} {i : Nat} {x : Int32} (hd : decode M.2.1 pc = .ok (.iload i, 2)) (hl : ls[i]? = some (some (zq_I x))) (k : zq_G ν M h Q (pc + 2) ls (zq_I x :: st) σ) : zq_G ν M h Q pc ls st σ := by
  intro p l e R s m args below meth c cells slots Qm H locs arr hok hC hX hP hS hL
  exact lv_iload hC.1 hC.2.1 hd (hL.2.2 _ _ hl) (k p l e R s m args below meth c cells slots Qm H locs arr hok hC hX hP hS hL)
theorem gq_iload_n {ν : zq_E} {M : zq_M} {h : Nat} {Q : Option zq_V → zq_T → Prop} {pc : Nat} {ls : List (Option zq_V)} {st : List zq_V} {σ : zq_T} {n : Fin 4} {x : Int32} (hd : decode M.2.1 pc = .ok (.iload_n n, 1)) (hl : ls[(n : Nat)]? = some (some (zq_I x))) (k : zq_G ν M h Q (pc + 1) ls (zq_I x :: st) σ) : zq_G ν M h Q pc ls st σ := by
  intro p l e R s m args below meth c cells slots Qm H locs arr hok hC hX hP hS hL
  exact lv_iload_n hC.1 hC.2.1 hd rfl (hL.2.2 _ _ hl) (k p l e R s m args below meth c cells slots Qm H locs arr hok hC hX hP hS hL)
theorem gq_lload {ν : zq_E} {M : zq_M} {h : Nat} {Q : Option zq_V → zq_T → Prop} {pc : Nat} {ls : List (Option zq_V)} {st : List zq_V} {σ : zq_T} {i : Nat} {x : Int64} (hd : decode M.2.1 pc = .ok (.lload i, 2)) (hl : ls[i]? = some (some (zq_L x))) (k : zq_G ν M h Q (pc + 2) ls (zq_L x :: st) σ) : zq_G ν M h Q pc ls st σ := by
  intro p l e R s m args below meth c cells slots Qm H locs arr hok hC hX hP hS hL
  exact lv_lload hC.1 hC.2.1 hd (hL.2.2 _ _ hl) (k p l e R s m args below meth c cells slots Qm H locs arr hok hC hX hP hS hL)
theorem gq_lload_n {ν : zq_E} {M : zq_M} {h : Nat} {Q : Option zq_V → zq_T → Prop} {pc : Nat} {ls : List (Option zq_V)} {st : List zq_V} {σ : zq_T} {n : Fin 4} {x : Int64} (hd : decode M.2.1 pc = .ok (.lload_n n, 1)) (hl : ls[(n : Nat)]? = some (some (zq_L x))) (k : zq_G ν M h Q (pc + 1) ls (zq_L x :: st) σ) : zq_G ν M h Q pc ls st σ := by
  intro p l e R s m args below meth c cells slots Qm H locs arr hok hC hX hP hS hL
  exact lv_lload_n hC.1 hC.2.1 hd rfl (hL.2.2 _ _ hl) (k p l e R s m args below meth c cells slots Qm H locs arr hok hC hX hP hS hL)
theorem gq_aload {ν : zq_E} {M : zq_M} {h : Nat} {Q : Option zq_V → zq_T → Prop} {pc : Nat} {ls : List (Option zq_V)} {st : List zq_V} {σ : zq_T} {i t : Nat} {j : Fin 5} (hd : decode M.2.1 pc = .ok (.aload i, 2)) (hl : ls[i]? = some (some (zq_O t j))) (k : zq_G ν M h Q (pc + 2) ls (zq_O t j :: st) σ) : zq_G ν M h Q pc ls st σ := by
  intro p l e R s m args below meth c cells slots Qm H locs arr hok hC hX hP hS hL
  exact lv_aload hC.1 hC.2.1 hd (hL.2.2 _ _ hl) (k p l e R s m args below meth c cells slots Qm H locs arr hok hC hX hP hS hL)
theorem gq_aload_n {ν : zq_E} {M : zq_M} {h : Nat} {Q : Option zq_V → zq_T → Prop} {pc : Nat} {ls : List (Option zq_V)} {st : List zq_V} {σ : zq_T} {n : Fin 4} {t : Nat} {j : Fin 5} (hd : decode M.2.1 pc = .ok (.aload_n n, 1)) (hl : ls[(n : Nat)]? = some (some (zq_O t j))) (k : zq_G ν M h Q (pc + 1) ls (zq_O t j :: st) σ) : zq_G ν M h Q pc ls st σ := by
  intro p l e R s m args below meth c cells slots Qm H locs arr hok hC hX hP hS hL
  exact lv_aload_n hC.1 hC.2.1 hd rfl (hL.2.2 _ _ hl) (k p l e R s m args below meth c cells slots Qm H locs arr hok hC hX hP hS hL)
theorem gq_istore {ν : zq_E} {M : zq_M} {h : Nat} {Q : Option zq_V → zq_T → Prop} {pc : Nat} {ls : List (Option zq_V)} {st : List zq_V} {σ : zq_T} {i : Nat} {x : Int32} (hd : decode M.2.1 pc = .ok (.istore i, 2)) (hi : i < M.2.2.1) (hnl : zq_nl ls i = true) (k : zq_G ν M h Q (pc + 2) (ls.set i (some (zq_I x))) st σ) : zq_G ν M h Q pc ls (zq_I x :: st) σ := by
  intro p l e R s m args below meth c cells slots Qm H locs arr hok hC hX hP hS hL
  exact lv_istore hC.1 hC.2.1 hd (zq_LH_has hL) hi rfl (fun arr hA => k p l e R s m args below meth c cells slots Qm H locs arr hok hC hX hP hS (zq_LH_of1 hnl hA))
theorem gq_istore_n {ν : zq_E} {M : zq_M} {h : Nat} {Q : Option zq_V → zq_T → Prop} {pc : Nat} {ls : List (Option zq_V)} {st : List zq_V} {σ : zq_T} {n : Fin 4} {x : Int32} (hd : decode M.2.1 pc = .ok (.istore_n n, 1)) (hi : (n : Nat) < M.2.2.1) (hnl : zq_nl ls (n : Nat) = true) (k : zq_G ν M h Q (pc + 1) (ls.set (n : Nat) (some (zq_I x))) st σ) : zq_G ν M h Q pc ls (zq_I x :: st) σ := by
  intro p l e R s m args below meth c cells slots Qm H locs arr hok hC hX hP hS hL
  exact lv_istore_n hC.1 hC.2.1 hd rfl (zq_LH_has hL) hi rfl (fun arr hA => k p l e R s m args below meth c cells slots Qm H locs arr hok hC hX hP hS (zq_LH_of1 hnl hA))
theorem gq_astore {ν : zq_E} {M : zq_M} {h : Nat} {Q : Option zq_V → zq_T → Prop} {pc : Nat} {ls : List (Option zq_V)} {st : List zq_V} {σ : zq_T} {i t : Nat} {j : Fin 5} (hd : decode M.2.1 pc = .ok (.astore i, 2)) (hi : i < M.2.2.1) (hnl : zq_nl ls i = true) (k : zq_G ν M h Q (pc + 2) (ls.set i (some (zq_O t j))) st σ) : zq_G ν M h Q pc ls (zq_O t j :: st) σ := by
  intro p l e R s m args below meth c cells slots Qm H locs arr hok hC hX hP hS hL
  exact lv_astore hC.1 hC.2.1 hd (zq_LH_has hL) hi rfl (fun arr hA => k p l e R s m args below meth c cells slots Qm H locs arr hok hC hX hP hS (zq_LH_of1 hnl hA))
theorem gq_astore_n {ν : zq_E} {M : zq_M} {h : Nat} {Q : Option zq_V → zq_T → Prop} {pc : Nat} {ls : List (Option zq_V)} {st : List zq_V} {σ : zq_T} {n : Fin 4} {t : Nat} {j : Fin 5} (hd : decode M.2.1 pc = .ok (.astore_n n, 1)) (hi : (n : Nat) < M.2.2.1) (hnl : zq_nl ls (n : Nat) = true) (k : zq_G ν M h Q (pc + 1) (ls.set (n : Nat) (some (zq_O t j))) st σ) : zq_G ν M h Q pc ls (zq_O t j :: st) σ := by
  intro p l e R s m args below meth c cells slots Qm H locs arr hok hC hX hP hS hL
  exact lv_astore_n hC.1 hC.2.1 hd rfl (zq_LH_has hL) hi rfl (fun arr hA => k p l e R s m args below meth c cells slots Qm H locs arr hok hC hX hP hS (zq_LH_of1 hnl hA))
theorem gq_lstore {ν : zq_E} {M : zq_M} {h : Nat} {Q : Option zq_V → zq_T → Prop} {pc : Nat} {ls : List (Option zq_V)} {st : List zq_V} {σ : zq_T} {i : Nat} {x : Int64} (hd : decode M.2.1 pc = .ok (.lstore i, 2)) (hi : i + 1 < M.2.2.1) (hnl : zq_nl ls i = true) (k : zq_G ν M h Q (pc + 2) ((ls.set i (some (zq_L x))).set (i + 1) none) st σ) : zq_G ν M h Q pc ls (zq_L x :: st) σ := by
  intro p l e R s m args below meth c cells slots Qm H locs arr hok hC hX hP hS hL
  exact lv_lstore hC.1 hC.2.1 hd (zq_LH_has hL) hi rfl (fun arr hA => k p l e R s m args below meth c cells slots Qm H locs arr hok hC hX hP hS (zq_LH_of2 hnl hA))
theorem gq_lstore_n {ν : zq_E} {M : zq_M} {h : Nat} {Q : Option zq_V → zq_T → Prop} {pc : Nat} {ls : List (Option zq_V)} {st : List zq_V} {σ : zq_T} {n : Fin 4} {x : Int64} (hd : decode M.2.1 pc = .ok (.lstore_n n, 1)) (hi : (n : Nat) + 1 < M.2.2.1) (hnl : zq_nl ls (n : Nat) = true) (k : zq_G ν M h Q (pc + 1) ((ls.set (n : Nat) (some (zq_L x))).set ((n : Nat) + 1) none) st σ) : zq_G ν M h Q pc ls (zq_L x :: st) σ := by
  intro p l e R s m args below meth c cells slots Qm H locs arr hok hC hX hP hS hL
  exact lv_lstore_n hC.1 hC.2.1 hd rfl (zq_LH_has hL) hi rfl (fun arr hA => k p l e R s m args below meth c cells slots Qm H locs arr hok hC hX hP hS (zq_LH_of2 hnl hA))
theorem gq_iinc {ν : zq_E} {M : zq_M} {h : Nat} {Q : Option zq_V → zq_T → Prop} {pc : Nat} {ls : List (Option zq_V)} {st : List zq_V} {σ : zq_T} {i : Nat} {n : Int} {x v : Int32} (hd : decode M.2.1 pc = .ok (.iinc i n, 3)) (hl : ls[i]? = some (some (zq_I x))) (hv : x + Int32.ofInt n = v) (hi : i < M.2.2.1) (hnl : zq_nl ls i = true) (k : zq_G ν M h Q (pc + 3) (ls.set i (some (zq_I v))) st σ) : zq_G ν M h Q pc ls st σ := by
  intro p l e R s m args below meth c cells slots Qm H locs arr hok hC hX hP hS hL
  obtain ⟨k0, hk0⟩ := List.getElem?_of_mem (zq_al_mem (ν := ν) hl)
  exact lv_iinc hC.1 hC.2.1 hd (zq_LH_has hL) hk0 hv hi rfl (fun arr hA => k p l e R s m args below meth c cells slots Qm H locs arr hok hC hX hP hS (zq_LH_of1 (v := zq_I v) hnl hA))
theorem gq_if_eq {ν : zq_E} {M : zq_M} {h : Nat} {Q : Option zq_V → zq_T → Prop} {pc : Nat} {ls : List (Option zq_V)} {st : List zq_V} {σ : zq_T} {x : Int32} {off : Int} {tgt : Nat} (hd : decode M.2.1 pc = .ok (.ifCond .eq off, 3)) (ht : (pc : Int) + off = (tgt : Int)) (kt : x = 0 → zq_G ν M h Q tgt ls st σ) (kf : ¬ x = 0 → zq_G ν M h Q (pc + 3) ls st σ) : zq_G ν M h Q pc ls (zq_I x :: st) σ := by
  intro p l e R s m args below meth c cells slots Qm H locs arr hok hC hX hP hS hL
  exact lv_if_eq hC.1 hC.2.1 hd ht (fun q => kt q p l e R s m args below meth c cells slots Qm H locs arr hok hC hX hP hS hL) (fun q => kf q p l e R s m args below meth c cells slots Qm H locs arr hok hC hX hP hS hL)
theorem gq_if_ne {ν : zq_E} {M : zq_M} {h : Nat} {Q : Option zq_V → zq_T → Prop} {pc : Nat} {ls : List (Option zq_V)} {st : List zq_V} {σ : zq_T} {x : Int32} {off : Int} {tgt : Nat} (hd : decode M.2.1 pc = .ok (.ifCond .ne off, 3)) (ht : (pc : Int) + off = (tgt : Int)) (kt : ¬ x = 0 → zq_G ν M h Q tgt ls st σ) (kf : x = 0 → zq_G ν M h Q (pc + 3) ls st σ) : zq_G ν M h Q pc ls (zq_I x :: st) σ := by
  intro p l e R s m args below meth c cells slots Qm H locs arr hok hC hX hP hS hL
  exact lv_if_ne hC.1 hC.2.1 hd ht (fun q => kt q p l e R s m args below meth c cells slots Qm H locs arr hok hC hX hP hS hL) (fun q => kf q p l e R s m args below meth c cells slots Qm H locs arr hok hC hX hP hS hL)
theorem gq_if_lt {ν : zq_E} {M : zq_M} {h : Nat} {Q : Option zq_V → zq_T → Prop} {pc : Nat} {ls : List (Option zq_V)} {st : List zq_V} {σ : zq_T} {x : Int32} {off : Int} {tgt : Nat} (hd : decode M.2.1 pc = .ok (.ifCond .lt off, 3)) (ht : (pc : Int) + off = (tgt : Int)) (kt : x < 0 → zq_G ν M h Q tgt ls st σ) (kf : ¬ x < 0 → zq_G ν M h Q (pc + 3) ls st σ) : zq_G ν M h Q pc ls (zq_I x :: st) σ := by
  intro p l e R s m args below meth c cells slots Qm H locs arr hok hC hX hP hS hL
  exact lv_if_lt hC.1 hC.2.1 hd ht (fun q => kt q p l e R s m args below meth c cells slots Qm H locs arr hok hC hX hP hS hL) (fun q => kf q p l e R s m args below meth c cells slots Qm H locs arr hok hC hX hP hS hL)
theorem gq_if_ge {ν : zq_E} {M : zq_M} {h : Nat} {Q : Option zq_V → zq_T → Prop} {pc : Nat} {ls : List (Option zq_V)} {st : List zq_V} {σ : zq_T} {x : Int32} {off : Int} {tgt : Nat} (hd : decode M.2.1 pc = .ok (.ifCond .ge off, 3)) (ht : (pc : Int) + off = (tgt : Int)) (kt : 0 ≤ x → zq_G ν M h Q tgt ls st σ) (kf : ¬ 0 ≤ x → zq_G ν M h Q (pc + 3) ls st σ) : zq_G ν M h Q pc ls (zq_I x :: st) σ := by
  intro p l e R s m args below meth c cells slots Qm H locs arr hok hC hX hP hS hL
  exact lv_if_ge hC.1 hC.2.1 hd ht (fun q => kt q p l e R s m args below meth c cells slots Qm H locs arr hok hC hX hP hS hL) (fun q => kf q p l e R s m args below meth c cells slots Qm H locs arr hok hC hX hP hS hL)
theorem gq_if_gt {ν : zq_E} {M : zq_M} {h : Nat} {Q : Option zq_V → zq_T → Prop} {pc : Nat} {ls : List (Option zq_V)} {st : List zq_V} {σ : zq_T} {x : Int32} {off : Int} {tgt : Nat} (hd : decode M.2.1 pc = .ok (.ifCond .gt off, 3)) (ht : (pc : Int) + off = (tgt : Int)) (kt : 0 < x → zq_G ν M h Q tgt ls st σ) (kf : ¬ 0 < x → zq_G ν M h Q (pc + 3) ls st σ) : zq_G ν M h Q pc ls (zq_I x :: st) σ := by
  intro p l e R s m args below meth c cells slots Qm H locs arr hok hC hX hP hS hL
  exact lv_if_gt hC.1 hC.2.1 hd ht (fun q => kt q p l e R s m args below meth c cells slots Qm H locs arr hok hC hX hP hS hL) (fun q => kf q p l e R s m args below meth c cells slots Qm H locs arr hok hC hX hP hS hL)
theorem gq_if_le {ν : zq_E} {M : zq_M} {h : Nat} {Q : Option zq_V → zq_T → Prop} {pc : Nat} {ls : List (Option zq_V)} {st : List zq_V} {σ : zq_T} {x : Int32} {off : Int} {tgt : Nat} (hd : decode M.2.1 pc = .ok (.ifCond .le off, 3)) (ht : (pc : Int) + off = (tgt : Int)) (kt : x ≤ 0 → zq_G ν M h Q tgt ls st σ) (kf : ¬ x ≤ 0 → zq_G ν M h Q (pc + 3) ls st σ) : zq_G ν M h Q pc ls (zq_I x :: st) σ := by
  intro p l e R s m args below meth c cells slots Qm H locs arr hok hC hX hP hS hL
  exact lv_if_le hC.1 hC.2.1 hd ht (fun q => kt q p l e R s m args below meth c cells slots Qm H locs arr hok hC hX hP hS hL) (fun q => kf q p l e R s m args below meth c cells slots Qm H locs arr hok hC hX hP hS hL)
theorem gq_icmp_eq {ν : zq_E} {M : zq_M} {h : Nat} {Q : Option zq_V → zq_T → Prop} {pc : Nat} {ls : List (Option zq_V)} {st : List zq_V} {σ : zq_T} {x y : Int32} {off : Int} {tgt : Nat} (hd : decode M.2.1 pc = .ok (.if_icmp .eq off, 3)) (ht : (pc : Int) + off = (tgt : Int)) (kt : x = y → zq_G ν M h Q tgt ls st σ) (kf : ¬ x = y → zq_G ν M h Q (pc + 3) ls st σ) : zq_G ν M h Q pc ls (zq_I y :: zq_I x :: st) σ := by
  intro p l e R s m args below meth c cells slots Qm H locs arr hok hC hX hP hS hL
  exact lv_icmp_eq hC.1 hC.2.1 hd ht (fun q => kt q p l e R s m args below meth c cells slots Qm H locs arr hok hC hX hP hS hL) (fun q => kf q p l e R s m args below meth c cells slots Qm H locs arr hok hC hX hP hS hL)
theorem gq_icmp_ne {ν : zq_E} {M : zq_M} {h : Nat} {Q : Option zq_V → zq_T → Prop} {pc : Nat} {ls : List (Option zq_V)} {st : List zq_V} {σ : zq_T} {x y : Int32} {off : Int} {tgt : Nat} (hd : decode M.2.1 pc = .ok (.if_icmp .ne off, 3)) (ht : (pc : Int) + off = (tgt : Int)) (kt : ¬ x = y → zq_G ν M h Q tgt ls st σ) (kf : x = y → zq_G ν M h Q (pc + 3) ls st σ) : zq_G ν M h Q pc ls (zq_I y :: zq_I x :: st) σ := by
  intro p l e R s m args below meth c cells slots Qm H locs arr hok hC hX hP hS hL
  exact lv_icmp_ne hC.1 hC.2.1 hd ht (fun q => kt q p l e R s m args below meth c cells slots Qm H locs arr hok hC hX hP hS hL) (fun q => kf q p l e R s m args below meth c cells slots Qm H locs arr hok hC hX hP hS hL)
theorem gq_icmp_lt {ν : zq_E} {M : zq_M} {h : Nat} {Q : Option zq_V → zq_T → Prop} {pc : Nat} {ls : List (Option zq_V)} {st : List zq_V} {σ : zq_T} {x y : Int32} {off : Int} {tgt : Nat} (hd : decode M.2.1 pc = .ok (.if_icmp .lt off, 3)) (ht : (pc : Int) + off = (tgt : Int)) (kt : x < y → zq_G ν M h Q tgt ls st σ) (kf : ¬ x < y → zq_G ν M h Q (pc + 3) ls st σ) : zq_G ν M h Q pc ls (zq_I y :: zq_I x :: st) σ := by
  intro p l e R s m args below meth c cells slots Qm H locs arr hok hC hX hP hS hL
  exact lv_icmp_lt hC.1 hC.2.1 hd ht (fun q => kt q p l e R s m args below meth c cells slots Qm H locs arr hok hC hX hP hS hL) (fun q => kf q p l e R s m args below meth c cells slots Qm H locs arr hok hC hX hP hS hL)
theorem gq_icmp_ge {ν : zq_E} {M : zq_M} {h : Nat} {Q : Option zq_V → zq_T → Prop} {pc : Nat} {ls : List (Option zq_V)} {st : List zq_V} {σ : zq_T} {x y : Int32} {off : Int} {tgt : Nat} (hd : decode M.2.1 pc = .ok (.if_icmp .ge off, 3)) (ht : (pc : Int) + off = (tgt : Int)) (kt : y ≤ x → zq_G ν M h Q tgt ls st σ) (kf : ¬ y ≤ x → zq_G ν M h Q (pc + 3) ls st σ) : zq_G ν M h Q pc ls (zq_I y :: zq_I x :: st) σ := by
  intro p l e R s m args below meth c cells slots Qm H locs arr hok hC hX hP hS hL
  exact lv_icmp_ge hC.1 hC.2.1 hd ht (fun q => kt q p l e R s m args below meth c cells slots Qm H locs arr hok hC hX hP hS hL) (fun q => kf q p l e R s m args below meth c cells slots Qm H locs arr hok hC hX hP hS hL)
theorem gq_icmp_gt {ν : zq_E} {M : zq_M} {h : Nat} {Q : Option zq_V → zq_T → Prop} {pc : Nat} {ls : List (Option zq_V)} {st : List zq_V} {σ : zq_T} {x y : Int32} {off : Int} {tgt : Nat} (hd : decode M.2.1 pc = .ok (.if_icmp .gt off, 3)) (ht : (pc : Int) + off = (tgt : Int)) (kt : y < x → zq_G ν M h Q tgt ls st σ) (kf : ¬ y < x → zq_G ν M h Q (pc + 3) ls st σ) : zq_G ν M h Q pc ls (zq_I y :: zq_I x :: st) σ := by
  intro p l e R s m args below meth c cells slots Qm H locs arr hok hC hX hP hS hL
  exact lv_icmp_gt hC.1 hC.2.1 hd ht (fun q => kt q p l e R s m args below meth c cells slots Qm H locs arr hok hC hX hP hS hL) (fun q => kf q p l e R s m args below meth c cells slots Qm H locs arr hok hC hX hP hS hL)
theorem gq_icmp_le {ν : zq_E} {M : zq_M} {h : Nat} {Q : Option zq_V → zq_T → Prop} {pc : Nat} {ls : List (Option zq_V)} {st : List zq_V} {σ : zq_T} {x y : Int32} {off : Int} {tgt : Nat} (hd : decode M.2.1 pc = .ok (.if_icmp .le off, 3)) (ht : (pc : Int) + off = (tgt : Int)) (kt : x ≤ y → zq_G ν M h Q tgt ls st σ) (kf : ¬ x ≤ y → zq_G ν M h Q (pc + 3) ls st σ) : zq_G ν M h Q pc ls (zq_I y :: zq_I x :: st) σ := by
  intro p l e R s m args below meth c cells slots Qm H locs arr hok hC hX hP hS hL
  exact lv_icmp_le hC.1 hC.2.1 hd ht (fun q => kt q p l e R s m args below meth c cells slots Qm H locs arr hok hC hX hP hS hL) (fun q => kf q p l e R s m args below meth c cells slots Qm H locs arr hok hC hX hP hS hL)
theorem gq_goto {ν : zq_E} {M : zq_M} {h : Nat} {Q : Option zq_V → zq_T → Prop} {pc : Nat} {ls : List (Option zq_V)} {st : List zq_V} {σ : zq_T} {off : Int} {tgt : Nat} (hd : decode M.2.1 pc = .ok (.goto off, 3)) (ht : (pc : Int) + off = (tgt : Int)) (k : zq_G ν M h Q tgt ls st σ) : zq_G ν M h Q pc ls st σ := by
  intro p l e R s m args below meth c cells slots Qm H locs arr hok hC hX hP hS hL
  exact lv_goto hC.1 hC.2.1 hd ht (k p l e R s m args below meth c cells slots Qm H locs arr hok hC hX hP hS hL)
theorem gq_ifnonnull {ν : zq_E} {M : zq_M} {h : Nat} {Q : Option zq_V → zq_T → Prop} {pc : Nat} {ls : List (Option zq_V)} {st : List zq_V} {σ : zq_T} {t : Nat} {j : Fin 5} {off : Int} {tgt : Nat} (hd : decode M.2.1 pc = .ok (.ifnonnull off, 3)) (ht : (pc : Int) + off = (tgt : Int)) (k : zq_G ν M h Q tgt ls st σ) : zq_G ν M h Q pc ls (zq_O t j :: st) σ := by
  intro p l e R s m args below meth c cells slots Qm H locs arr hok hC hX hP hS hL
  exact lv_ifnonnull hC.1 hC.2.1 hd ht (k p l e R s m args below meth c cells slots Qm H locs arr hok hC hX hP hS hL)
theorem gq_ifnull {ν : zq_E} {M : zq_M} {h : Nat} {Q : Option zq_V → zq_T → Prop} {pc : Nat} {ls : List (Option zq_V)} {st : List zq_V} {σ : zq_T} {t : Nat} {j : Fin 5} {off : Int} (hd : decode M.2.1 pc = .ok (.ifnull off, 3)) (k : zq_G ν M h Q (pc + 3) ls st σ) : zq_G ν M h Q pc ls (zq_O t j :: st) σ := by
  intro p l e R s m args below meth c cells slots Qm H locs arr hok hC hX hP hS hL
  exact lv_ifnull hC.1 hC.2.1 hd (k p l e R s m args below meth c cells slots Qm H locs arr hok hC hX hP hS hL)
theorem gq_tin {ν : zq_E} {M : zq_M} {h : Nat} {Q : Option zq_V → zq_T → Prop} {pc : Nat} {ls : List (Option zq_V)} {st : List zq_V} {σ : zq_T} {dflt lo hi : Int} {offs : Array Int} {len : Nat} {x : Int32} {off : Int} {tgt : Nat} (hd : decode M.2.1 pc = .ok (.tableswitch dflt lo hi offs, len)) (h1 : ¬ x.toInt < lo) (h2 : ¬ hi < x.toInt) (ho : offs[(x.toInt - lo).toNat]? = some off) (ht : (pc : Int) + off = (tgt : Int)) (k : zq_G ν M h Q tgt ls st σ) : zq_G ν M h Q pc ls (zq_I x :: st) σ := by
  intro p l e R s m args below meth c cells slots Qm H locs arr hok hC hX hP hS hL
  exact lv_tableIn hC.1 hC.2.1 hd h1 h2 ho ht (k p l e R s m args below meth c cells slots Qm H locs arr hok hC hX hP hS hL)
theorem gq_tout {ν : zq_E} {M : zq_M} {h : Nat} {Q : Option zq_V → zq_T → Prop} {pc : Nat} {ls : List (Option zq_V)} {st : List zq_V} {σ : zq_T} {dflt lo hi : Int} {offs : Array Int} {len : Nat} {x : Int32} {tgt : Nat} (hd : decode M.2.1 pc = .ok (.tableswitch dflt lo hi offs, len)) (h1 : x.toInt < lo ∨ hi < x.toInt) (ht : (pc : Int) + dflt = (tgt : Int)) (k : zq_G ν M h Q tgt ls st σ) : zq_G ν M h Q pc ls (zq_I x :: st) σ := by
  intro p l e R s m args below meth c cells slots Qm H locs arr hok hC hX hP hS hL
  exact lv_tableOut hC.1 hC.2.1 hd h1 ht (k p l e R s m args below meth c cells slots Qm H locs arr hok hC hX hP hS hL)
theorem gq_lsw {ν : zq_E} {M : zq_M} {h : Nat} {Q : Option zq_V → zq_T → Prop} {pc : Nat} {ls : List (Option zq_V)} {st : List zq_V} {σ : zq_T} {dflt : Int} {ps : Array (Int × Int)} {len : Nat} {x : Int32} {off : Int} {tgt : Nat} (hd : decode M.2.1 pc = .ok (.lookupswitch dflt ps, len)) (hp : (ps.toList.zip (ps.toList.drop 1)).all (fun (a, next) => a.1 < next.1) = true) (ho : Op.lookupswitch.offset ps.toList dflt x.toInt = off) (ht : (pc : Int) + off = (tgt : Int)) (k : zq_G ν M h Q tgt ls st σ) : zq_G ν M h Q pc ls (zq_I x :: st) σ := by
  intro p l e R s m args below meth c cells slots Qm H locs arr hok hC hX hP hS hL
  exact lv_lookup hC.1 hC.2.1 hd hp ho ht (k p l e R s m args below meth c cells slots Qm H locs arr hok hC hX hP hS hL)
theorem gq_ldc {ν : zq_E} {M : zq_M} {h : Nat} {Q : Option zq_V → zq_T → Prop} {pc : Nat} {ls : List (Option zq_V)} {st : List zq_V} {σ : zq_T} {idx : Nat} {v : Int32} (hw : Cond.constant M.1.cls idx v ∈ zq_tbl) (hd : decode M.2.1 pc = .ok (.ldc idx, 2)) (k : zq_G ν M h Q (pc + 2) ls (zq_I v :: st) σ) : zq_G ν M h Q pc ls st σ := by
  intro p l e R s m args below meth c cells slots Qm H locs arr hok hC hX hP hS hL
  exact lv_ldc hC.1 hC.2.1 hC.2.2.2.1 (hC.2.2.2.2.1 _ hw) hd (k p l e R s m args below meth c cells slots Qm H locs arr hok hC hX hP hS hL)
theorem gq_ldcw {ν : zq_E} {M : zq_M} {h : Nat} {Q : Option zq_V → zq_T → Prop} {pc : Nat} {ls : List (Option zq_V)} {st : List zq_V} {σ : zq_T} {idx : Nat} {v : Int32} (hw : Cond.constant M.1.cls idx v ∈ zq_tbl) (hd : decode M.2.1 pc = .ok (.ldc_w idx, 3)) (k : zq_G ν M h Q (pc + 3) ls (zq_I v :: st) σ) : zq_G ν M h Q pc ls st σ := by
  intro p l e R s m args below meth c cells slots Qm H locs arr hok hC hX hP hS hL
  exact lv_ldcw hC.1 hC.2.1 hC.2.2.2.1 (hC.2.2.2.2.1 _ hw) hd (k p l e R s m args below meth c cells slots Qm H locs arr hok hC hX hP hS hL)
theorem gq_ldc2 {ν : zq_E} {M : zq_M} {h : Nat} {Q : Option zq_V → zq_T → Prop} {pc : Nat} {ls : List (Option zq_V)} {st : List zq_V} {σ : zq_T} {idx : Nat} {v : Int64} (hw : Cond.constantLong M.1.cls idx v ∈ zq_tbl) (hd : decode M.2.1 pc = .ok (.ldc2_w idx, 3)) (k : zq_G ν M h Q (pc + 3) ls (zq_L v :: st) σ) : zq_G ν M h Q pc ls st σ := by
  intro p l e R s m args below meth c cells slots Qm H locs arr hok hC hX hP hS hL
  exact lv_ldc2 hC.1 hC.2.1 hC.2.2.2.1 (hC.2.2.2.2.1 _ hw) hd (k p l e R s m args below meth c cells slots Qm H locs arr hok hC hX hP hS hL)
theorem gq_ldcS {ν : zq_E} {M : zq_M} {h : Nat} {Q : Option zq_V → zq_T → Prop} {pc : Nat} {ls : List (Option zq_V)} {st : List zq_V} {σ : zq_T} {idx i : Nat} {tx : String} (hw : zq_str[i]? = some (idx, tx)) (hown : M.1.cls = "ThirdSon$Teller") (hd : decode M.2.1 pc = .ok (.ldc idx, 2)) (k : zq_G ν M h Q (pc + 2) ls (zq_O (100 + i) 0 :: st) σ) : zq_G ν M h Q pc ls st σ := by
  intro p l e R s m args below meth c cells slots Qm H locs arr hok hC hX hP hS hL
  exact va_ldcS hC.1 hC.2.1 (own := "ThirdSon$Teller") (by rw [← hown]; exact hC.2.2.2.1) (hC.2.2.2.2.2.2.1.2.2.2.1 i _ hw) hd (k p l e R s m args below meth c cells slots Qm H locs arr hok hC hX hP hS hL)
theorem gq_ireturn {ν : zq_E} {M : zq_M} {h : Nat} {Q : Option zq_V → zq_T → Prop} {pc : Nat} {ls : List (Option zq_V)} {st : List zq_V} {σ : zq_T} {x : Int32} (ty : FieldType) (hd : decode M.2.1 pc = .ok (.ireturn, 1)) (hr : M.2.2.2 = some ty) (hn : narrow ty (.int x) = .int x) (hq : Q (some (zq_I x)) σ) : zq_G ν M h Q pc ls [zq_I x] σ := by
  intro p l e R s m args below meth c cells slots Qm H locs arr hok hC hX hP hS hL
  exact hX (some (zq_I x)) σ .ireturn H locs pc arr (Or.inr (Or.inl ⟨ty, x, hr, rfl, rfl, hn⟩)) hd hq hP hS
theorem gq_lreturn {ν : zq_E} {M : zq_M} {h : Nat} {Q : Option zq_V → zq_T → Prop} {pc : Nat} {ls : List (Option zq_V)} {st : List zq_V} {σ : zq_T} {x : Int64} (hd : decode M.2.1 pc = .ok (.lreturn, 1)) (hr : M.2.2.2 = some .long) (hq : Q (some (zq_L x)) σ) : zq_G ν M h Q pc ls [zq_L x] σ := by
  intro p l e R s m args below meth c cells slots Qm H locs arr hok hC hX hP hS hL
  exact hX (some (zq_L x)) σ .lreturn H locs pc arr (Or.inr (Or.inr (Or.inl ⟨x, hr, rfl, rfl⟩))) hd hq hP hS
theorem gq_areturn {ν : zq_E} {M : zq_M} {h : Nat} {Q : Option zq_V → zq_T → Prop} {pc : Nat} {ls : List (Option zq_V)} {st : List zq_V} {σ : zq_T} {t : Nat} {j : Fin 5} {C : String} (hd : decode M.2.1 pc = .ok (.areturn, 1)) (hr : M.2.2.2 = some (.object C)) (hq : Q (some (zq_O t j)) σ) : zq_G ν M h Q pc ls [zq_O t j] σ := by
  intro p l e R s m args below meth c cells slots Qm H locs arr hok hC hX hP hS hL
  exact hX (some (zq_O t j)) σ .areturn H locs pc arr (Or.inr (Or.inr (Or.inr ⟨C, (t, j), hr, rfl, rfl⟩))) hd hq hP hS
theorem gq_return {ν : zq_E} {M : zq_M} {h : Nat} {Q : Option zq_V → zq_T → Prop} {pc : Nat} {ls : List (Option zq_V)} {st : List zq_V} {σ : zq_T} (hd : decode M.2.1 pc = .ok (.return_, 1)) (hr : M.2.2.2 = none) (hq : Q none σ) : zq_G ν M h Q pc ls [] σ := by
  intro p l e R s m args below meth c cells slots Qm H locs arr hok hC hX hP hS hL
  exact hX none σ .return_ H locs pc arr (Or.inl ⟨hr, rfl, rfl⟩) hd hq hP hS
/-! fields -/
def zq_F (own : String) (idx t k : Nat) : Prop := ∃ (ci N : Nat) (C : String) (T : u_T), zq_kd t = (0, ci, N) ∧ zq_cl[ci]? = some (C, T, N) ∧ (∀ w ∈ u_ws C T N, w ∈ zq_tbl) ∧ k < N ∧ Cond.fieldLink own idx (T k).1 (T k).2.1 (T k).2.2.1 ∈ zq_tbl
def zq_W (own : String) (idx t k : Nat) (ty : FieldType) : Prop := ∃ (ci N : Nat) (C : String) (T : u_T) (ty0 : Nat → FieldType), zq_kd t = (0, ci, N) ∧ zq_cl[ci]? = some (C, T, N) ∧ (∀ w ∈ u_ws C T N, w ∈ zq_tbl) ∧ k < N ∧ Cond.fieldLink own idx (T k).1 (T k).2.1 (T k).2.2.1 ∈ zq_tbl ∧ (∀ k, k < N → parseFieldDescriptor (T k).2.2.1 = some (ty0 k)) ∧ (∀ a, a < N → ∀ b, b < N → a ≠ b → (T a).2.1 ≠ (T b).2.1) ∧ (T k).2.2.2 = false ∧ parseFieldDescriptor (T k).2.2.1 = some ty
theorem zq_el_obj {ν : zq_E} {σ : zq_T} {t ci N : Nat} {j : Fin 5} (h : zq_kd t = (0, ci, N)) : zq_el ν σ t j = .inr (ci, (List.range N).map (fun k => zq_ev ν (zq_fv σ t j k))) := by
  unfold zq_el
  rw [h]
  rfl
theorem zq_el_ints {ν : zq_E} {σ : zq_T} {t n : Nat} {j : Fin 5} (h : zq_kd t = (1, n, 0)) : zq_el ν σ t j = .inl (ν.2.2.1 1, n, .inl (σ.1 t j)) := by
  unfold zq_el
  rw [h]
  rfl
theorem zq_el_bytes {ν : zq_E} {σ : zq_T} {t n : Nat} {j : Fin 5} (h : zq_kd t = (2, n, 0)) : zq_el ν σ t j = .inl (ν.2.2.1 2, n, .inl (σ.1 t j)) := by
  unfold zq_el
  rw [h]
  rfl
theorem zq_el_bools {ν : zq_E} {σ : zq_T} {t n : Nat} {j : Fin 5} (h : zq_kd t = (4, n, 0)) : zq_el ν σ t j = .inl (ν.2.2.1 4, n, .inl (σ.1 t j)) := by
  unfold zq_el
  rw [h]
  rfl
theorem zq_el_longs {ν : zq_E} {σ : zq_T} {t n : Nat} {j : Fin 5} (h : zq_kd t = (3, n, 0)) : zq_el ν σ t j = .inl (ν.2.2.1 3, n, .inr (.inl σ.2.1)) := by
  unfold zq_el
  rw [h]
  rfl
theorem zq_el_refs {ν : zq_E} {σ : zq_T} {t n : Nat} {j : Fin 5} (h : zq_kd t = (5, n, 0)) : zq_el ν σ t j = .inl (ν.2.2.1 5, n, .inr (.inr (.inr (.inr (zq_rows ν))))) := by
  unfold zq_el
  rw [h]
  rfl
theorem zq_el_up {ν : zq_E} {σ : zq_T} {t t' : Nat} {j j' : Fin 5} {k : Nat} {x : Int32} (h : (t', j') ≠ (t, j)) : zq_el ν σ t' j' = zq_el ν (zq_up σ.1 t j k x, σ.2) t' j' := by
  have e : ∀ i, zq_up σ.1 t j k x t' j' i = σ.1 t' j' i := fun i => if_neg fun q => h (by rw [q.1, q.2.1])
  have e2 : zq_up σ.1 t j k x t' j' = σ.1 t' j' := funext e
  have e3 : ∀ i, zq_fv (zq_up σ.1 t j k x, σ.2) t' j' i = zq_fv σ t' j' i := fun i => by
    simp only [zq_fv, e]
  simp only [zq_el, e2, e3]
section FLD
variable {ν : zq_E} {M : zq_M} {h : Nat} {Q : Option zq_V → zq_T → Prop} {pc : Nat} {ls : List (Option zq_V)} {st : List zq_V} {σ : zq_T}
theorem gq_getG {idx t k : Nat} {j : Fin 5} {v : zq_V} (hF : zq_F M.1.cls idx t k) (hf : zq_fv σ t j k = v) (hv : zq_vd t j = true) (hd : decode M.2.1 pc = .ok (.getfield idx, 3)) (kk : zq_G ν M h Q (pc + 3) ls (v :: st) σ) : zq_G ν M h Q pc ls (zq_O t j :: st) σ := by
  intro p l e R s m args below meth c cells slots Qm H locs arr hok hC hX hP hS hL
  obtain ⟨ci, N, C, T, h1, h2, h3, h4, h5⟩ := hF
  obtain ⟨q0, hq, hw⟩ := zq_at hv
  have he : (zq_ws ν σ)[q0]? = some (ν.1 t j, .inr (ci, (List.range N).map (fun k => zq_ev ν (zq_fv σ t j k)))) := by rw [hw, zq_el_obj h1]
  exact va_get (D := ν.2.1) (v := zq_ev ν v) hC.1 hC.2.1 hC.2.2.2.2.1 h3 hC.2.2.2.1 hC.2.2.2.2.2.1 hP q0 he h2 k h4 (hC.2.2.2.2.1 _ h5) (fun _ h9 => h9) (by simp [h4, hf]) hd (kk p l e R s m args below meth c cells slots Qm H locs arr hok hC hX hP hS hL)
/-- an int field -/
theorem gq_getI {idx t k : Nat} {j : Fin 5} (hF : zq_F M.1.cls idx t k) (hf : zq_ff t k = (0, 0)) (hv : zq_vd t j = true) (hd : decode M.2.1 pc = .ok (.getfield idx, 3)) (kk : zq_G ν M h Q (pc + 3) ls (zq_I (σ.1 t j k) :: st) σ) : zq_G ν M h Q pc ls (zq_O t j :: st) σ := gq_getG hF (by simp only [zq_fv, hf]) hv hd kk
/-- a place beside it -/
theorem gq_getR {idx t k : Nat} {j : Fin 5} (t' : Nat) (hF : zq_F M.1.cls idx t k) (hf : zq_ff t k = (1, t')) (hv : zq_vd t j = true) (hd : decode M.2.1 pc = .ok (.getfield idx, 3)) (kk : zq_G ν M h Q (pc + 3) ls (zq_O t' j :: st) σ) : zq_G ν M h Q pc ls (zq_O t j :: st) σ := gq_getG hF (by simp only [zq_fv, hf]) hv hd kk
/-- a duchy that is always the same -/
theorem gq_getX {idx t k : Nat} {j : Fin 5} (a : Nat) (j' : Fin 5) (hF : zq_F M.1.cls idx t k) (hf : zq_ff t k = (2, a)) (hj : zq_fin a = j') (hv : zq_vd t j = true) (hd : decode M.2.1 pc = .ok (.getfield idx, 3)) (kk : zq_G ν M h Q (pc + 3) ls (zq_O 10 j' :: st) σ) : zq_G ν M h Q pc ls (zq_O t j :: st) σ := gq_getG hF (by simp only [zq_fv, hf, hj]) hv hd kk
/-- 'duchy' -/
theorem gq_getU {idx t k : Nat} {j : Fin 5} (hF : zq_F M.1.cls idx t k) (hf : zq_ff t k = (3, 0)) (hv : zq_vd t j = true) (hd : decode M.2.1 pc = .ok (.getfield idx, 3)) (kk : zq_G ν M h Q (pc + 3) ls (zq_O 10 σ.2.2.1 :: st) σ) : zq_G ν M h Q pc ls (zq_O t j :: st) σ := gq_getG hF (by simp only [zq_fv, hf]) hv hd kk
/-- 'draft' -/
theorem gq_getY {idx t k : Nat} {j : Fin 5} (hF : zq_F M.1.cls idx t k) (hf : zq_ff t k = (4, 0)) (hv : zq_vd t j = true) (hd : decode M.2.1 pc = .ok (.getfield idx, 3)) (kk : zq_G ν M h Q (pc + 3) ls (zq_O 10 σ.2.2.2 :: st) σ) : zq_G ν M h Q pc ls (zq_O t j :: st) σ := gq_getG hF (by simp only [zq_fv, hf]) hv hd kk
theorem gq_putG {idx t k : Nat} {j : Fin 5} {v : zq_V} {ty : FieldType} {σ' : zq_T} (hF : zq_W M.1.cls idx t k ty) (hn : ∀ ν, narrow ty (zq_ev ν v) = zq_ev ν v) (hfit : ∀ ν, fits ty (zq_ev ν v) = true) (hsame : ∀ i, i ≠ k → zq_fv σ t j i = zq_fv σ' t j i) (hnew : zq_fv σ' t j k = v) (ho : ∀ t' j', (t', j') ∈ zq_cs → (t', j') ≠ (t, j) → zq_el ν σ t' j' = zq_el ν σ' t' j') (hv : zq_vd t j = true) (hd : decode M.2.1 pc = .ok (.putfield idx, 3)) (kk : zq_G ν M h Q (pc + 3) ls st σ') : zq_G ν M h Q pc ls (v :: zq_O t j :: st) σ := by
  intro p l e R s m args below meth c cells slots Qm H locs arr hok hC hX hP hS hL
  obtain ⟨ci, N, C, T, ty0, h1, h2, h3, h4, h5, h6, h7, h8, h9⟩ := hF
  obtain ⟨q0, hq, hw⟩ := zq_at hv
  have he : (zq_ws ν σ)[q0]? = some (ν.1 t j, .inr (ci, (List.range N).map (fun k => zq_ev ν (zq_fv σ t j k)))) := by rw [hw, zq_el_obj h1]
  have hset : (zq_ws ν σ).set q0 (ν.1 t j, .inr (ci, ((List.range N).map (fun k => zq_ev ν (zq_fv σ t j k))).set k (zq_ev ν v))) = zq_ws ν σ' := by
    refine zq_set hq ?_ ho
    rw [zq_el_obj h1]
    congr 2
    refine List.ext_getElem? fun i => ?_
    rw [List.getElem?_set]
    by_cases e1 : k = i
    · subst e1
      simp [h4, hnew]
    · rw [if_neg e1]
      simp only [List.getElem?_map]
      rw [show (fun a => zq_ev ν (zq_fv σ t j a)) = fun a => zq_ev ν (zq_fv σ t j a) from rfl]
      rcases Nat.lt_or_ge i N with q | q
      · simp [q, hsame i (fun e => e1 e.symm)]
      · simp [Nat.not_lt.mpr q]
  refine va_put (D := ν.2.1) (v := zq_ev ν v) (ty := ty) hC.1 hC.2.1 hC.2.2.2.2.1 h3 ty0 h6 h7 hC.2.2.2.1 hC.2.2.2.2.2.1 hP (zq_D hok σ) hS q0 he h2 k h4 (hC.2.2.2.2.1 _ h5) (fun _ h9 => h9) h8 h9 (hn ν) (hfit ν) (by simp [h4]) hd (fun H1 locs1 hP1 hD1 hS1 => ?_)
  rw [hset] at hP1
  exact kk p l e R s m args below meth c cells slots Qm H1 locs1 arr hok hC hX hP1 hS1 hL
theorem zq_fv_up {t t' : Nat} {j j' : Fin 5} {k i : Nat} {x : Int32} (h : i ≠ k) : zq_fv σ t' j' i = zq_fv (zq_up σ.1 t j k x, σ.2) t' j' i := by
  have e : zq_up σ.1 t j k x t' j' i = σ.1 t' j' i := if_neg fun q => h q.2.2
  simp only [zq_fv, e]
theorem zq_up_at (f : Nat → Fin 5 → Nat → Int32) (t : Nat) (j : Fin 5) (k : Nat) (x : Int32) : zq_up f t j k x t j k = x := if_pos ⟨rfl, rfl, rfl⟩
/-- an int field is written -/
theorem gq_putI {idx t k : Nat} {j : Fin 5} {x : Int32} (hF : zq_W M.1.cls idx t k .int) (hf : zq_ff t k = (0, 0)) (hv : zq_vd t j = true) (hd : decode M.2.1 pc = .ok (.putfield idx, 3)) (kk : zq_G ν M h Q (pc + 3) ls st (zq_up σ.1 t j k x, σ.2)) : zq_G ν M h Q pc ls (zq_I x :: zq_O t j :: st) σ :=
  gq_putG hF (fun _ => rfl) (fun _ => rfl) (fun i hi => zq_fv_up hi) (by simp only [zq_fv, hf, zq_up_at]) (fun t' j' _ hne => zq_el_up hne) hv hd kk
theorem zq_ff_dyn : ∀ t k : Nat, t ≠ 0 → (zq_ff t k).1 < 3 := by
  intro t k ht
  have gl : ∀ (l : List (Nat × Nat)), (∀ q ∈ l, q.1 < 3) → (l.getD k (0, 0)).1 < 3 := by
    intro l hl
    rw [List.getD_eq_getElem?_getD]
    cases hk : l[k]? with
    | none => decide
    | some q => exact hl q (List.mem_of_getElem? hk)
  unfold zq_ff
  split
  · exact absurd rfl ht
  · exact gl _ (by decide)
  · exact gl _ (by decide)
  · exact gl _ (by decide)
  · exact gl _ (by decide)
  · decide
theorem zq_cs_0 : ∀ j : Fin 5, (0, j) ∈ zq_cs → j = 0 := by decide +kernel
theorem zq_fv_dyn {σ σ' : zq_T} (h1 : σ.1 = σ'.1) {t : Nat} (ht : t ≠ 0) (j : Fin 5) (i : Nat) : zq_fv σ t j i = zq_fv σ' t j i := by
  have h4 := zq_ff_dyn t i ht
  have hx : (zq_ff t i).1 = 0 ∨ (zq_ff t i).1 = 1 ∨ (zq_ff t i).1 = 2 := by omega
  unfold zq_fv
  generalize zq_ff t i = z at hx ⊢
  obtain ⟨a, b⟩ := z
  rcases hx with e | e | e <;> (simp only at e; subst e)
  · show zq_I (σ.1 t j i) = zq_I (σ'.1 t j i)
    rw [h1]
  · rfl
  · rfl
theorem zq_el_dyn {σ σ' : zq_T} (h1 : σ.1 = σ'.1) (h2 : σ.2.1 = σ'.2.1) {t : Nat} (ht : t ≠ 0) (j : Fin 5) : zq_el ν σ t j = zq_el ν σ' t j := by
  have e : ∀ i, zq_fv σ t j i = zq_fv σ' t j i := zq_fv_dyn h1 ht j
  simp only [zq_el, h1, h2, e]
/-- 'duchy' is written -/
theorem gq_putU {idx : Nat} {d : Fin 5} (hF : zq_W M.1.cls idx 0 9 (.object "ThirdSon$Duchy")) (hd : decode M.2.1 pc = .ok (.putfield idx, 3)) (kk : zq_G ν M h Q (pc + 3) ls st (σ.1, σ.2.1, d, σ.2.2.2)) : zq_G ν M h Q pc ls (zq_O 10 d :: zq_O 0 0 :: st) σ := by
  refine gq_putG hF (fun _ => rfl) (fun _ => rfl) (fun i hi => ?_) rfl (fun t' j' hm hne => ?_) rfl hd kk
  · by_cases h3 : i = 10
    · subst h3; rfl
    · have h4 : (zq_ff 0 i).1 < 3 := by
        rcases Nat.lt_or_ge i 11 with q | q
        · have : ∀ i : Fin 11, i.val ≠ 9 → i.val ≠ 10 → (zq_ff 0 i.val).1 < 3 := by decide
          exact this ⟨i, q⟩ hi h3
        · have : zq_ff 0 i = (0, 0) := by
            show List.getD _ i (0, 0) = _
            rw [List.getD_eq_getElem?_getD, List.getElem?_eq_none (by simpa using q)]
            rfl
          rw [this]
          decide
      have hx : (zq_ff 0 i).1 = 0 ∨ (zq_ff 0 i).1 = 1 ∨ (zq_ff 0 i).1 = 2 := by omega
      unfold zq_fv
      generalize zq_ff 0 i = z at hx ⊢
      obtain ⟨a, b⟩ := z
      rcases hx with e | e | e <;> (simp only at e; subst e; rfl)
  · by_cases ht : t' = 0
    · subst ht
      have := zq_cs_0 j' hm
      subst this
      exact absurd rfl hne
    · exact zq_el_dyn (σ := σ) (σ' := (σ.1, σ.2.1, d, σ.2.2.2)) rfl rfl ht j'
/-- 'draft' is written -/
theorem gq_putY {idx : Nat} {d : Fin 5} (hF : zq_W M.1.cls idx 0 10 (.object "ThirdSon$Duchy")) (hd : decode M.2.1 pc = .ok (.putfield idx, 3)) (kk : zq_G ν M h Q (pc + 3) ls st (σ.1, σ.2.1, σ.2.2.1, d)) : zq_G ν M h Q pc ls (zq_O 10 d :: zq_O 0 0 :: st) σ := by
  refine gq_putG hF (fun _ => rfl) (fun _ => rfl) (fun i hi => ?_) rfl (fun t' j' hm hne => ?_) rfl hd kk
  · by_cases h3 : i = 9
    · subst h3; rfl
    · have h4 : (zq_ff 0 i).1 < 3 := by
        rcases Nat.lt_or_ge i 11 with q | q
        · have : ∀ i : Fin 11, i.val ≠ 9 → i.val ≠ 10 → (zq_ff 0 i.val).1 < 3 := by decide
          exact this ⟨i, q⟩ h3 hi
        · have : zq_ff 0 i = (0, 0) := by
            show List.getD _ i (0, 0) = _
            rw [List.getD_eq_getElem?_getD, List.getElem?_eq_none (by simpa using q)]
            rfl
          rw [this]
          decide
      have hx : (zq_ff 0 i).1 = 0 ∨ (zq_ff 0 i).1 = 1 ∨ (zq_ff 0 i).1 = 2 := by omega
      unfold zq_fv
      generalize zq_ff 0 i = z at hx ⊢
      obtain ⟨a, b⟩ := z
      rcases hx with e | e | e <;> (simp only at e; subst e; rfl)
  · by_cases ht : t' = 0
    · subst ht
      have := zq_cs_0 j' hm
      subst this
      exact absurd rfl hne
    · exact zq_el_dyn (σ := σ) (σ' := (σ.1, σ.2.1, σ.2.2.1, d)) rfl rfl ht j'
/-! arrays -/
theorem gq_iald {t n : Nat} {j : Fin 5} {i : Int32} (hkd : zq_kd t = (1, n, 0)) (hv : zq_vd t j = true) (hin : vp_in i n) (hd : decode M.2.1 pc = .ok (.iaload, 1)) (kk : zq_G ν M h Q (pc + 1) ls (zq_I (σ.1 t j i.toNatClampNeg) :: st) σ) : zq_G ν M h Q pc ls (zq_I i :: zq_O t j :: st) σ := by
  intro p l e R s m args below meth c cells slots Qm H locs arr hok hC hX hP hS hL
  obtain ⟨q0, hq, hw⟩ := zq_at hv
  exact va_iald hC.1 hC.2.1 hC.2.2.2.2.2.1 hP q0 0 (by rw [hw, zq_el_ints hkd]) rfl hin hd (kk p l e R s m args below meth c cells slots Qm H locs arr hok hC hX hP hS hL)
theorem gq_bald {t n : Nat} {j : Fin 5} {i : Int32} (hkd : zq_kd t = (2, n, 0)) (hv : zq_vd t j = true) (hin : vp_in i n) (hd : decode M.2.1 pc = .ok (.baload, 1)) (kk : zq_G ν M h Q (pc + 1) ls (zq_I (σ.1 t j i.toNatClampNeg) :: st) σ) : zq_G ν M h Q pc ls (zq_I i :: zq_O t j :: st) σ := by
  intro p l e R s m args below meth c cells slots Qm H locs arr hok hC hX hP hS hL
  obtain ⟨q0, hq, hw⟩ := zq_at hv
  exact va_bald hC.1 hC.2.1 hC.2.2.2.2.2.1 hP q0 1 (by rw [hw, zq_el_bytes hkd]) rfl hin hd (kk p l e R s m args below meth c cells slots Qm H locs arr hok hC hX hP hS hL)
theorem gq_zald {t n : Nat} {j : Fin 5} {i : Int32} (hkd : zq_kd t = (4, n, 0)) (hv : zq_vd t j = true) (hin : vp_in i n) (hd : decode M.2.1 pc = .ok (.baload, 1)) (kk : zq_G ν M h Q (pc + 1) ls (zq_I (σ.1 t j i.toNatClampNeg) :: st) σ) : zq_G ν M h Q pc ls (zq_I i :: zq_O t j :: st) σ := by
  intro p l e R s m args below meth c cells slots Qm H locs arr hok hC hX hP hS hL
  obtain ⟨q0, hq, hw⟩ := zq_at hv
  exact va_zald hC.1 hC.2.1 hC.2.2.2.2.2.1 hP q0 3 (by rw [hw, zq_el_bools hkd]) rfl hin hd (kk p l e R s m args below meth c cells slots Qm H locs arr hok hC hX hP hS hL)
theorem gq_lald {t n : Nat} {j : Fin 5} {i : Int32} (hkd : zq_kd t = (3, n, 0)) (hv : zq_vd t j = true) (hin : vp_in i n) (hd : decode M.2.1 pc = .ok (.laload, 1)) (kk : zq_G ν M h Q (pc + 1) ls (zq_L (σ.2.1 i.toNatClampNeg) :: st) σ) : zq_G ν M h Q pc ls (zq_I i :: zq_O t j :: st) σ := by
  intro p l e R s m args below meth c cells slots Qm H locs arr hok hC hX hP hS hL
  obtain ⟨q0, hq, hw⟩ := zq_at hv
  exact va_lald hC.1 hC.2.1 hC.2.2.2.2.2.1 hP q0 2 (by rw [hw, zq_el_longs hkd]) rfl hin hd (kk p l e R s m args below meth c cells slots Qm H locs arr hok hC hX hP hS hL)
theorem gq_aald {i : Int32} (hin : vp_in i 4) (hd : decode M.2.1 pc = .ok (.aaload, 1)) (kk : ∀ j : Fin 5, j.val = i.toNatClampNeg → zq_G ν M h Q (pc + 1) ls (zq_O 6 j :: st) σ) : zq_G ν M h Q pc ls (zq_I i :: zq_O 5 0 :: st) σ := by
  intro p l e R s m args below meth c cells slots Qm H locs arr hok hC hX hP hS hL
  obtain ⟨q0, hq, hw⟩ := zq_at (t := 5) (j := 0) rfl
  have hlt : i.toNatClampNeg < 4 := Nat.not_le.mp fun q => hin (Or.inr q)
  have he : (zq_ws ν σ)[q0]? = some (ν.1 5 0, .inl (ν.2.2.1 5, 4, .inr (.inr (.inr (.inr (zq_rows ν)))))) := by rw [hw, zq_el_refs rfl]
  have hv : zq_rows ν i.toNatClampNeg = some (ν.1 6 ⟨i.toNatClampNeg, by omega⟩) := by
    unfold zq_rows
    rw [dif_pos hlt]
  exact W.aald (v := .ref (ν.1 6 ⟨i.toNatClampNeg, by omega⟩)) (ty := .array .int) hC.1 hC.2.1 (hP q0 _ he) ((hC.2.2.2.2.2.1.2 4 (ν.2.2.1 5, .array .int) rfl).1 4 (fun j => va_rf (zq_rows ν j))) rfl (fun q => by cases q) (by show ¬ (i < 0 ∨ (arrV _ _ _).slots.size ≤ _); rw [arrV_size]; exact hin) (by show (arrV _ _ _).slots[_]? = _; rw [arrV_read _ _ hlt, hv]; rfl) rfl rfl hd (kk ⟨i.toNatClampNeg, by omega⟩ rfl p l e R s m args below meth c cells slots Qm H locs arr hok hC hX hP hS hL)
theorem zq_upd_at (f : Nat → Fin 5 → Nat → Int32) (t : Nat) (j : Fin 5) (k : Nat) (x : Int32) : upd (f t j) k x = zq_up f t j k x t j := funext fun i => by
  simp only [upd, zq_up, true_and]
theorem gq_iast {t n : Nat} {j : Fin 5} {i x : Int32} (hkd : zq_kd t = (1, n, 0)) (hv : zq_vd t j = true) (hin : vp_in i n) (hd : decode M.2.1 pc = .ok (.iastore, 1)) (kk : zq_G ν M h Q (pc + 1) ls st (zq_up σ.1 t j i.toNatClampNeg x, σ.2)) : zq_G ν M h Q pc ls (zq_I x :: zq_I i :: zq_O t j :: st) σ := by
  intro p l e R s m args below meth c cells slots Qm H locs arr hok hC hX hP hS hL
  obtain ⟨q0, hq, hw⟩ := zq_at hv
  refine va_iast hC.1 hC.2.1 hC.2.2.2.2.2.1 hP (zq_D hok σ) hS q0 0 (by rw [hw, zq_el_ints hkd]) rfl hin hd (fun H1 locs1 hP1 hD1 hS1 => ?_)
  rw [zq_set (σ' := (zq_up σ.1 t j i.toNatClampNeg x, σ.2)) hq (by rw [zq_el_ints hkd, zq_upd_at]) (fun t' j' _ hne => zq_el_up hne)] at hP1
  exact kk p l e R s m args below meth c cells slots Qm H1 locs1 arr hok hC hX hP1 hS1 hL
theorem gq_bast {t n : Nat} {j : Fin 5} {i x : Int32} (hkd : zq_kd t = (2, n, 0)) (hv : zq_vd t j = true) (hin : vp_in i n) (hd : decode M.2.1 pc = .ok (.bastore, 1)) (kk : zq_G ν M h Q (pc + 1) ls st (zq_up σ.1 t j i.toNatClampNeg x.toInt8.toInt32, σ.2)) : zq_G ν M h Q pc ls (zq_I x :: zq_I i :: zq_O t j :: st) σ := by
  intro p l e R s m args below meth c cells slots Qm H locs arr hok hC hX hP hS hL
  obtain ⟨q0, hq, hw⟩ := zq_at hv
  refine va_bast hC.1 hC.2.1 hC.2.2.2.2.2.1 hP (zq_D hok σ) hS q0 1 (by rw [hw, zq_el_bytes hkd]) rfl hin hd (fun H1 locs1 hP1 hD1 hS1 => ?_)
  rw [zq_set (σ' := (zq_up σ.1 t j i.toNatClampNeg x.toInt8.toInt32, σ.2)) hq (by rw [zq_el_bytes hkd, zq_upd_at, vp_nar_byte]) (fun t' j' _ hne => zq_el_up hne)] at hP1
  exact kk p l e R s m args below meth c cells slots Qm H1 locs1 arr hok hC hX hP1 hS1 hL
theorem gq_zast {t n : Nat} {j : Fin 5} {i x : Int32} (hkd : zq_kd t = (4, n, 0)) (hv : zq_vd t j = true) (hin : vp_in i n) (hd : decode M.2.1 pc = .ok (.bastore, 1)) (kk : zq_G ν M h Q (pc + 1) ls st (zq_up σ.1 t j i.toNatClampNeg (vp_nar .boolean x), σ.2)) : zq_G ν M h Q pc ls (zq_I x :: zq_I i :: zq_O t j :: st) σ := by
  intro p l e R s m args below meth c cells slots Qm H locs arr hok hC hX hP hS hL
  obtain ⟨q0, hq, hw⟩ := zq_at hv
  refine va_zast hC.1 hC.2.1 hC.2.2.2.2.2.1 hP (zq_D hok σ) hS q0 3 (by rw [hw, zq_el_bools hkd]) rfl hin hd (fun H1 locs1 hP1 hD1 hS1 => ?_)
  rw [zq_set (σ' := (zq_up σ.1 t j i.toNatClampNeg (vp_nar .boolean x), σ.2)) hq (by rw [zq_el_bools hkd, zq_upd_at]) (fun t' j' _ hne => zq_el_up hne)] at hP1
  exact kk p l e R s m args below meth c cells slots Qm H1 locs1 arr hok hC hX hP1 hS1 hL
theorem zq_kd_3 : ∀ t : Nat, (zq_kd t).1 = 3 → t = 42 := by
  intro t h
  rcases Nat.lt_or_ge t 48 with q | q
  · have : ∀ t : Fin 48, (zq_kd t.val).1 = 3 → t.val = 42 := by decide
    exact this ⟨t, q⟩ h
  · exfalso
    have e : zq_kd t = (9, 0, 0) := by
      show List.getD _ t (9, 0, 0) = _
      rw [List.getD_eq_getElem?_getD, List.getElem?_eq_none (by simpa using q)]
      rfl
    rw [e] at h
    exact absurd h (by decide)
theorem zq_cs_42 : ∀ j : Fin 5, (42, j) ∈ zq_cs → j = 0 := by decide +kernel
theorem gq_last {n : Nat} {i : Int32} {x : Int64} (hin : vp_in i 128) (hd : decode M.2.1 pc = .ok (.lastore, 1)) (kk : zq_G ν M h Q (pc + 1) ls st (σ.1, vp_updL σ.2.1 i.toNatClampNeg x, σ.2.2)) : zq_G ν M h Q pc ls (zq_L x :: zq_I i :: zq_O 42 0 :: st) σ := by
  intro p l e R s m args below meth c cells slots Qm H locs arr hok hC hX hP hS hL
  obtain ⟨q0, hq, hw⟩ := zq_at (t := 42) (j := 0) rfl
  refine va_last hC.1 hC.2.1 hC.2.2.2.2.2.1 hP (zq_D hok σ) hS q0 2 (by rw [hw, zq_el_longs (n := 128) rfl]) rfl hin hd (fun H1 locs1 hP1 hD1 hS1 => ?_)
  rw [zq_set (σ' := (σ.1, vp_updL σ.2.1 i.toNatClampNeg x, σ.2.2)) hq (by rw [zq_el_longs (n := 128) rfl]) (fun t' j' hm hne => ?_)] at hP1
  · exact kk p l e R s m args below meth c cells slots Qm H1 locs1 arr hok hC hX hP1 hS1 hL
  · have h3 : (zq_kd t').1 ≠ 3 := by
      intro h3
      have e1 := zq_kd_3 t' h3
      subst e1
      have e2 := zq_cs_42 j' hm
      subst e2
      exact hne rfl
    have e : ∀ i2, zq_fv σ t' j' i2 = zq_fv (σ.1, vp_updL σ.2.1 i.toNatClampNeg x, σ.2.2) t' j' i2 := fun i2 => rfl
    unfold zq_el
    generalize zq_kd t' = z at h3 ⊢
    obtain ⟨a, b, c'⟩ := z
    match a, h3 with
    | 0, _ => rfl
    | 1, _ => rfl
    | 2, _ => rfl
    | 3, h3 => exact absurd rfl h3
    | 4, _ => rfl
    | 5, _ => rfl
    | a + 6, _ => rfl
theorem gq_alen {t n : Nat} {j : Fin 5} {v : Int32} (hkd : zq_kd t = (1, n, 0)) (hv : zq_vd t j = true) (hn : Int32.ofNat n = v) (hd : decode M.2.1 pc = .ok (.arraylength, 1)) (kk : zq_G ν M h Q (pc + 1) ls (zq_I v :: st) σ) : zq_G ν M h Q pc ls (zq_O t j :: st) σ := by
  intro p l e R s m args below meth c cells slots Qm H locs arr hok hC hX hP hS hL
  obtain ⟨q0, hq, hw⟩ := zq_at hv
  exact va_alen hC.1 hC.2.1 hC.2.2.2.2.2.1 hP q0 0 (by rw [hw, zq_el_ints hkd]) (ty := .int) rfl hn hd (kk p l e R s m args below meth c cells slots Qm H locs arr hok hC hX hP hS hL)
/-! calls -/
theorem zq_callR {p : Program} {l : Launch} {e : Env} {R : Room} {s : State} {m : MethodId} {args : Array Value} {below : List Frame} {meth : Method} {c : Code} {H : Heap} {locs : List Loc} {cells slots : Nat} {Qm : State → Prop} {arr : Array Slot} {rest st0 : List Value} {a : Array Value} {Q' : Option zq_V → zq_T → Prop} (hr : va_Run p l e R s m args below meth c H locs cells slots 0 0 (F0 m pc arr st0) rest (zq_Qc ν Q' a) (zq_A ν)) (hS : va_S (zq_A ν) s.heap H locs) (kk : ∀ (r : Option zq_V) (σ' : zq_T) (H1 : Heap) (locs1 : List Loc), Q' r σ' → va_P ν.2.1 zq_cl (zq_ws ν σ') H1 → va_S (zq_A ν) s.heap H1 locs1 → W p l e R s m args below meth c H1 locs1 cells slots Qm (F0 m (pc + 3) arr ((r.map (zq_ev ν)).toList ++ rest))) : W p l e R s m args below meth c H locs cells slots Qm (F0 m pc arr st0) := by
  intro T hT X
  obtain ⟨v, st₀, t, T', L, h0, X', hL, e1, e2, ⟨⟨r, σ', hv, hQ, hP⟩, hz, hk⟩, st⟩ := hr T hT X
  cases hv
  rw [h0] at hz hk
  obtain ⟨t2, a1, b1⟩ := kk r σ' T'.heap (locs ++ L) hQ (by rw [e1]; exact hP) ⟨Nat.le_trans hS.1 (by rw [e1]; exact hz), fun q h1 h2 => by rw [e1, hk q (Nat.lt_of_lt_of_le h1 hS.1) h2]; exact hS.2.1 q h1 h2, fun q hq => by
      rcases List.mem_append.mp hq with h | h
      · exact hS.2.2 q h
      · exact hL q h⟩ T' rfl X'
  exact ⟨t2, st t2 a1, b1⟩
theorem zq_blind (ν : zq_E) (a : List zq_V) (σ : zq_T) : FrameBlind (zq_Pc ν a σ) := fun v U g mk q => ⟨q.1, q.2.1, va_K.moved (u := U) (U := U.calling g mk v) (Vm.Alike.refl U.vm) q.2.2.1, q.2.2.2.call g mk v⟩
theorem zq_rest (ν : zq_E) : ∀ st : List zq_V, ((st.map (zq_ev ν)).map fun v => v.category).sum = (st.map zq_ct).sum
  | [] => rfl
  | v :: st => by simp only [List.map_cons, List.sum_cons, zq_ct_ev, zq_rest ν st]
theorem gq_callRecv {Mj : zq_M} {h' n idx : Nat} {As : List zq_V} {t : Nat} {j : Fin 5} {Q' : Option zq_V → zq_T → Prop} {st0 : List zq_V} (hrecv : ∀ (s : State) (H : Heap) (locs : List Loc), va_K ν.2.1 zq_cl (zq_tys ν) s → zq_J ν s s.heap → va_P ν.2.1 zq_cl (zq_ws ν σ) H → va_S (zq_A ν) s.heap H locs → ∃ cellB : Cell, H[ν.1 t j]? = some cellB ∧ cellB.vm.isStatics = false ∧ s.vm.findClass Mj.1.cls = some cellB.cls) (hSp : zq_Sp Mj h' (zq_O t j :: As) σ Q') (hm : zq_MV Mj n) (hlk : Cond.methodLink M.1.cls idx Mj.1 ∈ zq_tbl) (hd : decode M.2.1 pc = .ok (.invokevirtual idx, 3)) (hh : h' + 1 ≤ h) (hn : As.length = n) (hst : As.reverse ++ zq_O t j :: st = st0) (hct : (st.map zq_ct).sum ≤ 8) (kk : ∀ r σ', Q' r σ' → zq_G ν M h Q (pc + 3) ls (r.toList ++ st) σ') : zq_G ν M h Q pc ls st0 σ := by
  intro p l e R s m args below meth c cells slots Qm H locs arr hok hC hX hP hS hL
  obtain ⟨m1, m2, m3, m4, m5, m6, m7, m8⟩ := hm
  obtain ⟨c1, c2, c3, c4, c5, c6, c7, c8, c9, c10, c11⟩ := id hC
  have hMet := hSp ν hok l
  subst hst
  have cw : CallW R s args M.1.cls Mj.1.cls idx Mj.1 Mj.2.1 Mj.2.2.1 Mj.2.2.2 (zq_wm Mj) (zq_rm h') 0 0 n := ⟨callB_of n c5 (zq_good m1) rfl rfl rfl (c5 _ m4) (c5 _ hlk) ⟨m5.1, m5.2, m6⟩ ⟨Nat.le_trans hh c8, by show 8 + (Mj.2.2.1 + 11) + 60 * h' ≤ R.locals; omega⟩, c5 _ m2, c5 _ m3⟩
  refine zq_callR (va_runV (As := As.map (zq_ev ν)) (rest := st.map (zq_ev ν)) (b := ν.1 t j) ⟨c1, c2, c3, c4, c5⟩ hMet cw ⟨zq_blind ν _ σ, hrecv s H locs c6 c7 hP hS, fun U hU hW => ⟨by rw [List.map_cons]; rfl, by rw [hU]; exact hP, va_K.moved hW.alike c6, by rw [hU]; exact c7.go hS hW⟩⟩ rfl (by rw [List.length_map]; exact hn) hL.1 (by simp [zq_ev]) (lv_room (by rw [zq_rest]; exact hct)) hd ⟨c10, c11⟩) hS (fun r σ' H1 locs1 hQ' hP1 hS1 => ?_)
  have := kk r σ' hQ' p l e R s m args below meth c cells slots Qm H1 locs1 arr hok hC hX hP1 hS1 hL
  rw [List.map_append] at this
  rcases r with _ | r
  · exact this
  · exact this
theorem gq_callV {Mj : zq_M} {h' n idx : Nat} {As : List zq_V} {t ci N : Nat} {j : Fin 5} {Q' : Option zq_V → zq_T → Prop} {st0 : List zq_V} (hSp : zq_Sp Mj h' (zq_O t j :: As) σ Q') (hm : zq_MV Mj n) (hlk : Cond.methodLink M.1.cls idx Mj.1 ∈ zq_tbl) (hd : decode M.2.1 pc = .ok (.invokevirtual idx, 3)) (hkd : zq_kd t = (0, ci, N)) (hcl : (zq_cl[ci]?).map (fun q => q.1) = some Mj.1.cls) (hv : zq_vd t j = true) (hh : h' + 1 ≤ h) (hn : As.length = n) (hst : As.reverse ++ zq_O t j :: st = st0) (hct : (st.map zq_ct).sum ≤ 8) (kk : ∀ r σ', Q' r σ' → zq_G ν M h Q (pc + 3) ls (r.toList ++ st) σ') : zq_G ν M h Q pc ls st0 σ := by
  refine gq_callRecv (fun s H locs hK hJ hP hS => ?_) hSp hm hlk hd hh hn hst hct kk
  obtain ⟨q0, hq, hw⟩ := zq_at hv
  cases hci : zq_cl[ci]? with
  | none => rw [hci] at hcl; cases hcl
  | some r =>
    rw [hci] at hcl
    rw [← show r.1 = Mj.1.cls from Option.some.inj hcl]
    exact va_recv hK hP hci (by rw [hw, zq_el_obj hkd])
theorem gq_callS {Mj : zq_M} {h' n idx : Nat} {As : List zq_V} {Q' : Option zq_V → zq_T → Prop} {st0 : List zq_V} (hSp : zq_Sp Mj h' As σ Q') (hm : zq_MS Mj n) (hlk : Cond.methodLink M.1.cls idx Mj.1 ∈ zq_tbl) (hd : decode M.2.1 pc = .ok (.invokestatic idx, 3)) (hh : h' + 1 ≤ h) (hn : As.length = n) (hst : As.reverse ++ st = st0) (hct : (st.map zq_ct).sum ≤ 8) (kk : ∀ r σ', Q' r σ' → zq_G ν M h Q (pc + 3) ls (r.toList ++ st) σ') : zq_G ν M h Q pc ls st0 σ := by
  intro p l e R s m args below meth c cells slots Qm H locs arr hok hC hX hP hS hL
  obtain ⟨m1, m2, m4, m5, m6, m7, m8⟩ := hm
  obtain ⟨c1, c2, c3, c4, c5, c6, c7, c8, c9, c10, c11⟩ := id hC
  have hMet := hSp ν hok l
  subst hst
  have cw : CallB R s args M.1.cls idx Mj.1 Mj.2.1 Mj.2.2.1 Mj.2.2.2 (zq_wm Mj) (zq_rm h') 0 0 n ∧ (Cond.static Mj.1).before args s = true := ⟨callB_of n c5 (zq_good m1) rfl rfl rfl (c5 _ m4) (c5 _ hlk) ⟨m5.1, m5.2, m6⟩ ⟨Nat.le_trans hh c8, by show 8 + (Mj.2.2.1 + 11) + 60 * h' ≤ R.locals; omega⟩, c5 _ m2⟩
  refine zq_callR (va_runS (As := As.map (zq_ev ν)) (rest := st.map (zq_ev ν)) ⟨c1, c2, c3, c4, c5⟩ hMet cw ⟨zq_blind ν _ σ, fun U hU hW => ⟨rfl, by rw [hU]; exact hP, va_K.moved hW.alike c6, by rw [hU]; exact c7.go hS hW⟩⟩ rfl (by rw [List.length_map]; exact hn) hL.1 (by simp) (lv_room (by rw [zq_rest]; exact hct)) hd ⟨c10, c11⟩) hS (fun r σ' H1 locs1 hQ' hP1 hS1 => ?_)
  have := kk r σ' hQ' p l e R s m args below meth c cells slots Qm H1 locs1 arr hok hC hX hP1 hS1 hL
  rw [List.map_append] at this
  rcases r with _ | r
  · exact this
  · exact this
/-- calls that answer one value; that answer nothing -/
theorem gq_cV {Mj : zq_M} {h' n idx : Nat} {As : List zq_V} {t ci N : Nat} {j : Fin 5} {v : zq_V} {τ : zq_T} {st0 : List zq_V} (hSp : zq_Sp Mj h' (zq_O t j :: As) σ (zq_rv v τ)) (hm : zq_MV Mj n) (hlk : Cond.methodLink M.1.cls idx Mj.1 ∈ zq_tbl) (hd : decode M.2.1 pc = .ok (.invokevirtual idx, 3)) (hkd : zq_kd t = (0, ci, N)) (hcl : (zq_cl[ci]?).map (fun q => q.1) = some Mj.1.cls) (hv : zq_vd t j = true) (hh : h' + 1 ≤ h) (hn : As.length = n) (hst : As.reverse ++ zq_O t j :: st = st0) (hct : (st.map zq_ct).sum ≤ 8) (kk : zq_G ν M h Q (pc + 3) ls (v :: st) τ) : zq_G ν M h Q pc ls st0 σ :=
  gq_callV hSp hm hlk hd hkd hcl hv hh hn hst hct (fun r σ' q => by obtain ⟨rfl, rfl⟩ := q; exact kk)
theorem gq_cV0 {Mj : zq_M} {h' n idx : Nat} {As : List zq_V} {t ci N : Nat} {j : Fin 5} {τ : zq_T} {st0 : List zq_V} (hSp : zq_Sp Mj h' (zq_O t j :: As) σ (zq_r0 τ)) (hm : zq_MV Mj n) (hlk : Cond.methodLink M.1.cls idx Mj.1 ∈ zq_tbl) (hd : decode M.2.1 pc = .ok (.invokevirtual idx, 3)) (hkd : zq_kd t = (0, ci, N)) (hcl : (zq_cl[ci]?).map (fun q => q.1) = some Mj.1.cls) (hv : zq_vd t j = true) (hh : h' + 1 ≤ h) (hn : As.length = n) (hst : As.reverse ++ zq_O t j :: st = st0) (hct : (st.map zq_ct).sum ≤ 8) (kk : zq_G ν M h Q (pc + 3) ls st τ) : zq_G ν M h Q pc ls st0 σ :=
  gq_callV hSp hm hlk hd hkd hcl hv hh hn hst hct (fun r σ' q => by obtain ⟨rfl, rfl⟩ := q; exact kk)
theorem gq_cS {Mj : zq_M} {h' n idx : Nat} {As : List zq_V} {v : zq_V} {τ : zq_T} {st0 : List zq_V} (hSp : zq_Sp Mj h' As σ (zq_rv v τ)) (hm : zq_MS Mj n) (hlk : Cond.methodLink M.1.cls idx Mj.1 ∈ zq_tbl) (hd : decode M.2.1 pc = .ok (.invokestatic idx, 3)) (hh : h' + 1 ≤ h) (hn : As.length = n) (hst : As.reverse ++ st = st0) (hct : (st.map zq_ct).sum ≤ 8) (kk : zq_G ν M h Q (pc + 3) ls (v :: st) τ) : zq_G ν M h Q pc ls st0 σ :=
  gq_callS hSp hm hlk hd hh hn hst hct (fun r σ' q => by obtain ⟨rfl, rfl⟩ := q; exact kk)
theorem gq_cS0 {Mj : zq_M} {h' n idx : Nat} {As : List zq_V} {τ : zq_T} {st0 : List zq_V} (hSp : zq_Sp Mj h' As σ (zq_r0 τ)) (hm : zq_MS Mj n) (hlk : Cond.methodLink M.1.cls idx Mj.1 ∈ zq_tbl) (hd : decode M.2.1 pc = .ok (.invokestatic idx, 3)) (hh : h' + 1 ≤ h) (hn : As.length = n) (hst : As.reverse ++ st = st0) (hct : (st.map zq_ct).sum ≤ 8) (kk : zq_G ν M h Q (pc + 3) ls st τ) : zq_G ν M h Q pc ls st0 σ :=
  gq_callS hSp hm hlk hd hh hn hst hct (fun r σ' q => by obtain ⟨rfl, rfl⟩ := q; exact kk)
end FLD
theorem zx_max1 : Cond.methodLink "ThirdSon" 286 Lib.MathLoose.max_long.x ∈ zq_tbl := zl_S_286
theorem zx_max2 : Cond.static Lib.MathLoose.max_long.x ∈ zq_tbl := zq_in 692 (by decide +kernel) rfl
theorem zx_max3 : Cond.code Lib.MathLoose.max_long.x Lib.MathLoose.max_long.code 4 (some .long) ∈ zq_tbl := zq_in 693 (by decide +kernel) rfl
theorem gq_lmax {ν : zq_E} {M : zq_M} {h : Nat} {Q : Option zq_V → zq_T → Prop} {pc : Nat} {ls : List (Option zq_V)} {st : List zq_V} {σ : zq_T} {x y : Int64} (hown : M.1.cls = "ThirdSon") (hd : decode M.2.1 pc = .ok (.invokestatic 286, 3)) (hh : 1 ≤ h) (hct : (st.map zq_ct).sum ≤ 8) (kk : zq_G ν M h Q (pc + 3) ls (zq_L (if y < x then x else y) :: st) σ) : zq_G ν M h Q pc ls (zq_L y :: zq_L x :: st) σ := by
  intro p l e R s m args below meth c cells slots Qm H locs arr hok hC hX hP hS hL
  obtain ⟨c1, c2, c3, c4, c5, c6, c7, c8, c9, c10, c11⟩ := id hC
  exact va_mmax_long c1 c2 (c3.trans hL.1.symm) (own := "ThirdSon") (by rw [← hown]; exact c4) (c5 _ zx_max1) (c5 _ zx_max2) (c5 _ zi_JM) (c5 _ zx_max3) (by omega) (by rw [zq_rest]; omega) c10 c11 hd (kk p l e R s m args below meth c cells slots Qm H locs arr hok hC hX hP hS hL)
end
section
theorem zf_P_9 : zq_F "ThirdSon$Tape" 9 1 0 := ⟨2, 6, RX2, TX2, rfl, rfl, zq_in2, by decide, zl_P_9⟩
theorem zf_P_13 : zq_F "ThirdSon$Tape" 13 1 1 := ⟨2, 6, RX2, TX2, rfl, rfl, zq_in2, by decide, zl_P_13⟩
theorem zv_P_13 : zq_W "ThirdSon$Tape" 13 1 1 .int := ⟨2, 6, RX2, TX2, tyX2, rfl, rfl, zq_in2, by decide, zl_P_13, tyX2_ok, nmX2, rfl, by decide +kernel⟩
theorem zf_S_63 : zq_F "ThirdSon" 63 1 1 := ⟨2, 6, RX2, TX2, rfl, rfl, zq_in2, by decide, zl_S_63⟩
theorem zv_S_63 : zq_W "ThirdSon" 63 1 1 .int := ⟨2, 6, RX2, TX2, tyX2, rfl, rfl, zq_in2, by decide, zl_S_63, tyX2_ok, nmX2, rfl, by decide +kernel⟩
theorem zf_E_52 : zq_F "ThirdSon$Teller" 52 1 1 := ⟨2, 6, RX2, TX2, rfl, rfl, zq_in2, by decide, zl_E_52⟩
theorem zv_E_52 : zq_W "ThirdSon$Teller" 52 1 1 .int := ⟨2, 6, RX2, TX2, tyX2, rfl, rfl, zq_in2, by decide, zl_E_52, tyX2_ok, nmX2, rfl, by decide +kernel⟩
theorem zf_E_37 : zq_F "ThirdSon$Teller" 37 1 2 := ⟨2, 6, RX2, TX2, rfl, rfl, zq_in2, by decide, zl_E_37⟩
theorem zv_E_37 : zq_W "ThirdSon$Teller" 37 1 2 .int := ⟨2, 6, RX2, TX2, tyX2, rfl, rfl, zq_in2, by decide, zl_E_37, tyX2_ok, nmX2, rfl, by decide +kernel⟩
theorem zf_P_27 : zq_F "ThirdSon$Tape" 27 1 2 := ⟨2, 6, RX2, TX2, rfl, rfl, zq_in2, by decide, zl_P_27⟩
theorem zv_P_27 : zq_W "ThirdSon$Tape" 27 1 2 .int := ⟨2, 6, RX2, TX2, tyX2, rfl, rfl, zq_in2, by decide, zl_P_27, tyX2_ok, nmX2, rfl, by decide +kernel⟩
theorem zf_P_24 : zq_F "ThirdSon$Tape" 24 1 3 := ⟨2, 6, RX2, TX2, rfl, rfl, zq_in2, by decide, zl_P_24⟩
theorem zv_P_24 : zq_W "ThirdSon$Tape" 24 1 3 .int := ⟨2, 6, RX2, TX2, tyX2, rfl, rfl, zq_in2, by decide, zl_P_24, tyX2_ok, nmX2, rfl, by decide +kernel⟩
theorem zf_E_99 : zq_F "ThirdSon$Teller" 99 1 3 := ⟨2, 6, RX2, TX2, rfl, rfl, zq_in2, by decide, zl_E_99⟩
theorem zv_E_99 : zq_W "ThirdSon$Teller" 99 1 3 .int := ⟨2, 6, RX2, TX2, tyX2, rfl, rfl, zq_in2, by decide, zl_E_99, tyX2_ok, nmX2, rfl, by decide +kernel⟩
theorem zf_E_102 : zq_F "ThirdSon$Teller" 102 1 4 := ⟨2, 6, RX2, TX2, rfl, rfl, zq_in2, by decide, zl_E_102⟩
theorem zv_E_102 : zq_W "ThirdSon$Teller" 102 1 4 .int := ⟨2, 6, RX2, TX2, tyX2, rfl, rfl, zq_in2, by decide, zl_E_102, tyX2_ok, nmX2, rfl, by decide +kernel⟩
theorem zf_P_52 : zq_F "ThirdSon$Tape" 52 1 4 := ⟨2, 6, RX2, TX2, rfl, rfl, zq_in2, by decide, zl_P_52⟩
theorem zv_P_52 : zq_W "ThirdSon$Tape" 52 1 4 .int := ⟨2, 6, RX2, TX2, tyX2, rfl, rfl, zq_in2, by decide, zl_P_52, tyX2_ok, nmX2, rfl, by decide +kernel⟩
theorem zf_P_17 : zq_F "ThirdSon$Tape" 17 1 5 := ⟨2, 6, RX2, TX2, rfl, rfl, zq_in2, by decide, zl_P_17⟩
theorem zv_P_17 : zq_W "ThirdSon$Tape" 17 1 5 .int := ⟨2, 6, RX2, TX2, tyX2, rfl, rfl, zq_in2, by decide, zl_P_17, tyX2_ok, nmX2, rfl, by decide +kernel⟩
theorem zf_E_9 : zq_F "ThirdSon$Teller" 9 3 0 := ⟨3, 4, RX3, TX3, rfl, rfl, zq_in3, by decide, zl_E_9⟩
theorem zv_E_9 : zq_W "ThirdSon$Teller" 9 3 0 .int := ⟨3, 4, RX3, TX3, tyX3, rfl, rfl, zq_in3, by decide, zl_E_9, tyX3_ok, nmX3, rfl, by decide +kernel⟩
theorem zf_S_71 : zq_F "ThirdSon" 71 3 0 := ⟨3, 4, RX3, TX3, rfl, rfl, zq_in3, by decide, zl_S_71⟩
theorem zv_S_71 : zq_W "ThirdSon" 71 3 0 .int := ⟨3, 4, RX3, TX3, tyX3, rfl, rfl, zq_in3, by decide, zl_S_71, tyX3_ok, nmX3, rfl, by decide +kernel⟩
theorem zf_E_15 : zq_F "ThirdSon$Teller" 15 3 1 := ⟨3, 4, RX3, TX3, rfl, rfl, zq_in3, by decide, zl_E_15⟩
theorem zv_E_15 : zq_W "ThirdSon$Teller" 15 3 1 .int := ⟨3, 4, RX3, TX3, tyX3, rfl, rfl, zq_in3, by decide, zl_E_15, tyX3_ok, nmX3, rfl, by decide +kernel⟩
theorem zf_S_77 : zq_F "ThirdSon" 77 3 1 := ⟨3, 4, RX3, TX3, rfl, rfl, zq_in3, by decide, zl_S_77⟩
theorem zv_S_77 : zq_W "ThirdSon" 77 3 1 .int := ⟨3, 4, RX3, TX3, tyX3, rfl, rfl, zq_in3, by decide, zl_S_77, tyX3_ok, nmX3, rfl, by decide +kernel⟩
theorem zf_E_18 : zq_F "ThirdSon$Teller" 18 3 2 := ⟨3, 4, RX3, TX3, rfl, rfl, zq_in3, by decide, zl_E_18⟩
theorem zv_E_18 : zq_W "ThirdSon$Teller" 18 3 2 .int := ⟨3, 4, RX3, TX3, tyX3, rfl, rfl, zq_in3, by decide, zl_E_18, tyX3_ok, nmX3, rfl, by decide +kernel⟩
theorem zf_E_21 : zq_F "ThirdSon$Teller" 21 3 3 := ⟨3, 4, RX3, TX3, rfl, rfl, zq_in3, by decide, zl_E_21⟩
theorem zv_E_21 : zq_W "ThirdSon$Teller" 21 3 3 .int := ⟨3, 4, RX3, TX3, tyX3, rfl, rfl, zq_in3, by decide, zl_E_21, tyX3_ok, nmX3, rfl, by decide +kernel⟩
theorem zf_H_13 : zq_F "ThirdSon$Sheets" 13 4 0 := ⟨1, 3, RX1, TX1, rfl, rfl, zq_in1, by decide, zl_H_13⟩
theorem zf_H_16 : zq_F "ThirdSon$Sheets" 16 4 1 := ⟨1, 3, RX1, TX1, rfl, rfl, zq_in1, by decide, zl_H_16⟩
theorem zf_H_20 : zq_F "ThirdSon$Sheets" 20 4 2 := ⟨1, 3, RX1, TX1, rfl, rfl, zq_in1, by decide, zl_H_20⟩
theorem zf_D_45 : zq_F "ThirdSon$Duchy" 45 10 0 := ⟨0, 13, RX0, TX0, rfl, rfl, zq_in0, by decide, zl_D_45⟩
theorem zv_D_45 : zq_W "ThirdSon$Duchy" 45 10 0 .int := ⟨0, 13, RX0, TX0, tyX0, rfl, rfl, zq_in0, by decide, zl_D_45, tyX0_ok, nmX0, rfl, by decide +kernel⟩
theorem zf_E_96 : zq_F "ThirdSon$Teller" 96 10 0 := ⟨0, 13, RX0, TX0, rfl, rfl, zq_in0, by decide, zl_E_96⟩
theorem zv_E_96 : zq_W "ThirdSon$Teller" 96 10 0 .int := ⟨0, 13, RX0, TX0, tyX0, rfl, rfl, zq_in0, by decide, zl_E_96, tyX0_ok, nmX0, rfl, by decide +kernel⟩
theorem zf_S_86 : zq_F "ThirdSon" 86 10 0 := ⟨0, 13, RX0, TX0, rfl, rfl, zq_in0, by decide, zl_S_86⟩
theorem zv_S_86 : zq_W "ThirdSon" 86 10 0 .int := ⟨0, 13, RX0, TX0, tyX0, rfl, rfl, zq_in0, by decide, zl_S_86, tyX0_ok, nmX0, rfl, by decide +kernel⟩
theorem zf_D_49 : zq_F "ThirdSon$Duchy" 49 10 1 := ⟨0, 13, RX0, TX0, rfl, rfl, zq_in0, by decide, zl_D_49⟩
theorem zv_D_49 : zq_W "ThirdSon$Duchy" 49 10 1 .int := ⟨0, 13, RX0, TX0, tyX0, rfl, rfl, zq_in0, by decide, zl_D_49, tyX0_ok, nmX0, rfl, by decide +kernel⟩
theorem zf_S_92 : zq_F "ThirdSon" 92 10 1 := ⟨0, 13, RX0, TX0, rfl, rfl, zq_in0, by decide, zl_S_92⟩
theorem zv_S_92 : zq_W "ThirdSon" 92 10 1 .int := ⟨0, 13, RX0, TX0, tyX0, rfl, rfl, zq_in0, by decide, zl_S_92, tyX0_ok, nmX0, rfl, by decide +kernel⟩
theorem zf_E_127 : zq_F "ThirdSon$Teller" 127 10 1 := ⟨0, 13, RX0, TX0, rfl, rfl, zq_in0, by decide, zl_E_127⟩
theorem zv_E_127 : zq_W "ThirdSon$Teller" 127 10 1 .int := ⟨0, 13, RX0, TX0, tyX0, rfl, rfl, zq_in0, by decide, zl_E_127, tyX0_ok, nmX0, rfl, by decide +kernel⟩
theorem zf_D_52 : zq_F "ThirdSon$Duchy" 52 10 2 := ⟨0, 13, RX0, TX0, rfl, rfl, zq_in0, by decide, zl_D_52⟩
theorem zv_D_52 : zq_W "ThirdSon$Duchy" 52 10 2 .int := ⟨0, 13, RX0, TX0, tyX0, rfl, rfl, zq_in0, by decide, zl_D_52, tyX0_ok, nmX0, rfl, by decide +kernel⟩
theorem zf_S_89 : zq_F "ThirdSon" 89 10 2 := ⟨0, 13, RX0, TX0, rfl, rfl, zq_in0, by decide, zl_S_89⟩
theorem zv_S_89 : zq_W "ThirdSon" 89 10 2 .int := ⟨0, 13, RX0, TX0, tyX0, rfl, rfl, zq_in0, by decide, zl_S_89, tyX0_ok, nmX0, rfl, by decide +kernel⟩
theorem zf_E_134 : zq_F "ThirdSon$Teller" 134 10 2 := ⟨0, 13, RX0, TX0, rfl, rfl, zq_in0, by decide, zl_E_134⟩
theorem zv_E_134 : zq_W "ThirdSon$Teller" 134 10 2 .int := ⟨0, 13, RX0, TX0, tyX0, rfl, rfl, zq_in0, by decide, zl_E_134, tyX0_ok, nmX0, rfl, by decide +kernel⟩
theorem zf_D_9 : zq_F "ThirdSon$Duchy" 9 10 3 := ⟨0, 13, RX0, TX0, rfl, rfl, zq_in0, by decide, zl_D_9⟩
theorem zf_S_98 : zq_F "ThirdSon" 98 10 3 := ⟨0, 13, RX0, TX0, rfl, rfl, zq_in0, by decide, zl_S_98⟩
theorem zf_D_15 : zq_F "ThirdSon$Duchy" 15 10 4 := ⟨0, 13, RX0, TX0, rfl, rfl, zq_in0, by decide, zl_D_15⟩
theorem zf_D_18 : zq_F "ThirdSon$Duchy" 18 10 5 := ⟨0, 13, RX0, TX0, rfl, rfl, zq_in0, by decide, zl_D_18⟩
theorem zf_E_117 : zq_F "ThirdSon$Teller" 117 10 5 := ⟨0, 13, RX0, TX0, rfl, rfl, zq_in0, by decide, zl_E_117⟩
theorem zf_S_101 : zq_F "ThirdSon" 101 10 5 := ⟨0, 13, RX0, TX0, rfl, rfl, zq_in0, by decide, zl_S_101⟩
theorem zf_D_21 : zq_F "ThirdSon$Duchy" 21 10 6 := ⟨0, 13, RX0, TX0, rfl, rfl, zq_in0, by decide, zl_D_21⟩
theorem zf_S_104 : zq_F "ThirdSon" 104 10 6 := ⟨0, 13, RX0, TX0, rfl, rfl, zq_in0, by decide, zl_S_104⟩
theorem zf_D_24 : zq_F "ThirdSon$Duchy" 24 10 7 := ⟨0, 13, RX0, TX0, rfl, rfl, zq_in0, by decide, zl_D_24⟩
theorem zf_S_120 : zq_F "ThirdSon" 120 10 7 := ⟨0, 13, RX0, TX0, rfl, rfl, zq_in0, by decide, zl_S_120⟩
theorem zf_E_132 : zq_F "ThirdSon$Teller" 132 10 7 := ⟨0, 13, RX0, TX0, rfl, rfl, zq_in0, by decide, zl_E_132⟩
theorem zf_D_27 : zq_F "ThirdSon$Duchy" 27 10 8 := ⟨0, 13, RX0, TX0, rfl, rfl, zq_in0, by decide, zl_D_27⟩
theorem zf_S_126 : zq_F "ThirdSon" 126 10 8 := ⟨0, 13, RX0, TX0, rfl, rfl, zq_in0, by decide, zl_S_126⟩
theorem zf_D_30 : zq_F "ThirdSon$Duchy" 30 10 9 := ⟨0, 13, RX0, TX0, rfl, rfl, zq_in0, by decide, zl_D_30⟩
theorem zf_S_129 : zq_F "ThirdSon" 129 10 9 := ⟨0, 13, RX0, TX0, rfl, rfl, zq_in0, by decide, zl_S_129⟩
theorem zf_D_33 : zq_F "ThirdSon$Duchy" 33 10 10 := ⟨0, 13, RX0, TX0, rfl, rfl, zq_in0, by decide, zl_D_33⟩
theorem zf_S_132 : zq_F "ThirdSon" 132 10 10 := ⟨0, 13, RX0, TX0, rfl, rfl, zq_in0, by decide, zl_S_132⟩
theorem zf_D_36 : zq_F "ThirdSon$Duchy" 36 10 11 := ⟨0, 13, RX0, TX0, rfl, rfl, zq_in0, by decide, zl_D_36⟩
theorem zf_S_135 : zq_F "ThirdSon" 135 10 11 := ⟨0, 13, RX0, TX0, rfl, rfl, zq_in0, by decide, zl_S_135⟩
theorem zf_D_39 : zq_F "ThirdSon$Duchy" 39 10 12 := ⟨0, 13, RX0, TX0, rfl, rfl, zq_in0, by decide, zl_D_39⟩
theorem zf_S_138 : zq_F "ThirdSon" 138 10 12 := ⟨0, 13, RX0, TX0, rfl, rfl, zq_in0, by decide, zl_S_138⟩
theorem zf_S_12 : zq_F "ThirdSon" 12 0 0 := ⟨4, 15, RX4, TX4, rfl, rfl, zq_in4, by decide, zl_S_12⟩
theorem zf_S_19 : zq_F "ThirdSon" 19 0 1 := ⟨4, 15, RX4, TX4, rfl, rfl, zq_in4, by decide, zl_S_19⟩
theorem zf_S_26 : zq_F "ThirdSon" 26 0 2 := ⟨4, 15, RX4, TX4, rfl, rfl, zq_in4, by decide, zl_S_26⟩
theorem zf_S_33 : zq_F "ThirdSon" 33 0 3 := ⟨4, 15, RX4, TX4, rfl, rfl, zq_in4, by decide, zl_S_33⟩
theorem zf_S_37 : zq_F "ThirdSon" 37 0 4 := ⟨4, 15, RX4, TX4, rfl, rfl, zq_in4, by decide, zl_S_37⟩
theorem zf_S_40 : zq_F "ThirdSon" 40 0 5 := ⟨4, 15, RX4, TX4, rfl, rfl, zq_in4, by decide, zl_S_40⟩
theorem zf_S_43 : zq_F "ThirdSon" 43 0 6 := ⟨4, 15, RX4, TX4, rfl, rfl, zq_in4, by decide, zl_S_43⟩
theorem zf_S_47 : zq_F "ThirdSon" 47 0 7 := ⟨4, 15, RX4, TX4, rfl, rfl, zq_in4, by decide, zl_S_47⟩
theorem zf_S_50 : zq_F "ThirdSon" 50 0 8 := ⟨4, 15, RX4, TX4, rfl, rfl, zq_in4, by decide, zl_S_50⟩
theorem zf_S_53 : zq_F "ThirdSon" 53 0 9 := ⟨4, 15, RX4, TX4, rfl, rfl, zq_in4, by decide, zl_S_53⟩
theorem zv_S_53 : zq_W "ThirdSon" 53 0 9 (.object "ThirdSon$Duchy") := ⟨4, 15, RX4, TX4, tyX4, rfl, rfl, zq_in4, by decide, zl_S_53, tyX4_ok, nmX4, rfl, by decide +kernel⟩
theorem zf_S_56 : zq_F "ThirdSon" 56 0 10 := ⟨4, 15, RX4, TX4, rfl, rfl, zq_in4, by decide, zl_S_56⟩
theorem zv_S_56 : zq_W "ThirdSon" 56 0 10 (.object "ThirdSon$Duchy") := ⟨4, 15, RX4, TX4, tyX4, rfl, rfl, zq_in4, by decide, zl_S_56, tyX4_ok, nmX4, rfl, by decide +kernel⟩
theorem zf_S_74 : zq_F "ThirdSon" 74 0 11 := ⟨4, 15, RX4, TX4, rfl, rfl, zq_in4, by decide, zl_S_74⟩
theorem zv_S_74 : zq_W "ThirdSon" 74 0 11 .int := ⟨4, 15, RX4, TX4, tyX4, rfl, rfl, zq_in4, by decide, zl_S_74, tyX4_ok, nmX4, rfl, by decide +kernel⟩
theorem zf_S_264 : zq_F "ThirdSon" 264 0 12 := ⟨4, 15, RX4, TX4, rfl, rfl, zq_in4, by decide, zl_S_264⟩
theorem zv_S_264 : zq_W "ThirdSon" 264 0 12 .int := ⟨4, 15, RX4, TX4, tyX4, rfl, rfl, zq_in4, by decide, zl_S_264, tyX4_ok, nmX4, rfl, by decide +kernel⟩
theorem zf_S_80 : zq_F "ThirdSon" 80 0 13 := ⟨4, 15, RX4, TX4, rfl, rfl, zq_in4, by decide, zl_S_80⟩
theorem zv_S_80 : zq_W "ThirdSon" 80 0 13 .int := ⟨4, 15, RX4, TX4, tyX4, rfl, rfl, zq_in4, by decide, zl_S_80, tyX4_ok, nmX4, rfl, by decide +kernel⟩
theorem zf_S_83 : zq_F "ThirdSon" 83 0 14 := ⟨4, 15, RX4, TX4, rfl, rfl, zq_in4, by decide, zl_S_83⟩
theorem zv_S_83 : zq_W "ThirdSon" 83 0 14 .int := ⟨4, 15, RX4, TX4, tyX4, rfl, rfl, zq_in4, by decide, zl_S_83, tyX4_ok, nmX4, rfl, by decide +kernel⟩
theorem zf_M_7 : zq_F "ThirdSonModel" 7 30 0 := ⟨5, 34, RX5, TX5, rfl, rfl, zq_in5, by decide, zl_M_7⟩
theorem zf_M_13 : zq_F "ThirdSonModel" 13 30 1 := ⟨5, 34, RX5, TX5, rfl, rfl, zq_in5, by decide, zl_M_13⟩
theorem zf_M_16 : zq_F "ThirdSonModel" 16 30 2 := ⟨5, 34, RX5, TX5, rfl, rfl, zq_in5, by decide, zl_M_16⟩
theorem zf_M_158 : zq_F "ThirdSonModel" 158 30 3 := ⟨5, 34, RX5, TX5, rfl, rfl, zq_in5, by decide, zl_M_158⟩
theorem zv_M_158 : zq_W "ThirdSonModel" 158 30 3 .int := ⟨5, 34, RX5, TX5, tyX5, rfl, rfl, zq_in5, by decide, zl_M_158, tyX5_ok, nmX5, rfl, by decide +kernel⟩
theorem zf_M_161 : zq_F "ThirdSonModel" 161 30 4 := ⟨5, 34, RX5, TX5, rfl, rfl, zq_in5, by decide, zl_M_161⟩
theorem zv_M_161 : zq_W "ThirdSonModel" 161 30 4 .int := ⟨5, 34, RX5, TX5, tyX5, rfl, rfl, zq_in5, by decide, zl_M_161, tyX5_ok, nmX5, rfl, by decide +kernel⟩
theorem zf_M_19 : zq_F "ThirdSonModel" 19 30 5 := ⟨5, 34, RX5, TX5, rfl, rfl, zq_in5, by decide, zl_M_19⟩
theorem zf_M_22 : zq_F "ThirdSonModel" 22 30 6 := ⟨5, 34, RX5, TX5, rfl, rfl, zq_in5, by decide, zl_M_22⟩
theorem zf_M_25 : zq_F "ThirdSonModel" 25 30 7 := ⟨5, 34, RX5, TX5, rfl, rfl, zq_in5, by decide, zl_M_25⟩
theorem zf_M_134 : zq_F "ThirdSonModel" 134 30 8 := ⟨5, 34, RX5, TX5, rfl, rfl, zq_in5, by decide, zl_M_134⟩
theorem zv_M_134 : zq_W "ThirdSonModel" 134 30 8 .int := ⟨5, 34, RX5, TX5, tyX5, rfl, rfl, zq_in5, by decide, zl_M_134, tyX5_ok, nmX5, rfl, by decide +kernel⟩
theorem zf_M_125 : zq_F "ThirdSonModel" 125 30 9 := ⟨5, 34, RX5, TX5, rfl, rfl, zq_in5, by decide, zl_M_125⟩
theorem zv_M_125 : zq_W "ThirdSonModel" 125 30 9 .int := ⟨5, 34, RX5, TX5, tyX5, rfl, rfl, zq_in5, by decide, zl_M_125, tyX5_ok, nmX5, rfl, by decide +kernel⟩
theorem zf_M_137 : zq_F "ThirdSonModel" 137 30 10 := ⟨5, 34, RX5, TX5, rfl, rfl, zq_in5, by decide, zl_M_137⟩
theorem zv_M_137 : zq_W "ThirdSonModel" 137 30 10 .int := ⟨5, 34, RX5, TX5, tyX5, rfl, rfl, zq_in5, by decide, zl_M_137, tyX5_ok, nmX5, rfl, by decide +kernel⟩
theorem zf_M_114 : zq_F "ThirdSonModel" 114 30 11 := ⟨5, 34, RX5, TX5, rfl, rfl, zq_in5, by decide, zl_M_114⟩
theorem zv_M_114 : zq_W "ThirdSonModel" 114 30 11 .int := ⟨5, 34, RX5, TX5, tyX5, rfl, rfl, zq_in5, by decide, zl_M_114, tyX5_ok, nmX5, rfl, by decide +kernel⟩
theorem zf_M_28 : zq_F "ThirdSonModel" 28 30 12 := ⟨5, 34, RX5, TX5, rfl, rfl, zq_in5, by decide, zl_M_28⟩
theorem zf_M_69 : zq_F "ThirdSonModel" 69 30 13 := ⟨5, 34, RX5, TX5, rfl, rfl, zq_in5, by decide, zl_M_69⟩
theorem zv_M_69 : zq_W "ThirdSonModel" 69 30 13 .int := ⟨5, 34, RX5, TX5, tyX5, rfl, rfl, zq_in5, by decide, zl_M_69, tyX5_ok, nmX5, rfl, by decide +kernel⟩
theorem zf_M_155 : zq_F "ThirdSonModel" 155 30 14 := ⟨5, 34, RX5, TX5, rfl, rfl, zq_in5, by decide, zl_M_155⟩
theorem zv_M_155 : zq_W "ThirdSonModel" 155 30 14 .int := ⟨5, 34, RX5, TX5, tyX5, rfl, rfl, zq_in5, by decide, zl_M_155, tyX5_ok, nmX5, rfl, by decide +kernel⟩
theorem zf_M_73 : zq_F "ThirdSonModel" 73 30 15 := ⟨5, 34, RX5, TX5, rfl, rfl, zq_in5, by decide, zl_M_73⟩
theorem zv_M_73 : zq_W "ThirdSonModel" 73 30 15 .int := ⟨5, 34, RX5, TX5, tyX5, rfl, rfl, zq_in5, by decide, zl_M_73, tyX5_ok, nmX5, rfl, by decide +kernel⟩
theorem zf_M_79 : zq_F "ThirdSonModel" 79 30 16 := ⟨5, 34, RX5, TX5, rfl, rfl, zq_in5, by decide, zl_M_79⟩
theorem zv_M_79 : zq_W "ThirdSonModel" 79 30 16 .int := ⟨5, 34, RX5, TX5, tyX5, rfl, rfl, zq_in5, by decide, zl_M_79, tyX5_ok, nmX5, rfl, by decide +kernel⟩
theorem zf_M_85 : zq_F "ThirdSonModel" 85 30 17 := ⟨5, 34, RX5, TX5, rfl, rfl, zq_in5, by decide, zl_M_85⟩
theorem zv_M_85 : zq_W "ThirdSonModel" 85 30 17 .int := ⟨5, 34, RX5, TX5, tyX5, rfl, rfl, zq_in5, by decide, zl_M_85, tyX5_ok, nmX5, rfl, by decide +kernel⟩
theorem zf_M_76 : zq_F "ThirdSonModel" 76 30 18 := ⟨5, 34, RX5, TX5, rfl, rfl, zq_in5, by decide, zl_M_76⟩
theorem zv_M_76 : zq_W "ThirdSonModel" 76 30 18 .int := ⟨5, 34, RX5, TX5, tyX5, rfl, rfl, zq_in5, by decide, zl_M_76, tyX5_ok, nmX5, rfl, by decide +kernel⟩
theorem zf_M_82 : zq_F "ThirdSonModel" 82 30 19 := ⟨5, 34, RX5, TX5, rfl, rfl, zq_in5, by decide, zl_M_82⟩
theorem zv_M_82 : zq_W "ThirdSonModel" 82 30 19 .int := ⟨5, 34, RX5, TX5, tyX5, rfl, rfl, zq_in5, by decide, zl_M_82, tyX5_ok, nmX5, rfl, by decide +kernel⟩
theorem zf_M_92 : zq_F "ThirdSonModel" 92 30 20 := ⟨5, 34, RX5, TX5, rfl, rfl, zq_in5, by decide, zl_M_92⟩
theorem zv_M_92 : zq_W "ThirdSonModel" 92 30 20 .int := ⟨5, 34, RX5, TX5, tyX5, rfl, rfl, zq_in5, by decide, zl_M_92, tyX5_ok, nmX5, rfl, by decide +kernel⟩
theorem zf_M_31 : zq_F "ThirdSonModel" 31 30 21 := ⟨5, 34, RX5, TX5, rfl, rfl, zq_in5, by decide, zl_M_31⟩
theorem zf_M_34 : zq_F "ThirdSonModel" 34 30 22 := ⟨5, 34, RX5, TX5, rfl, rfl, zq_in5, by decide, zl_M_34⟩
theorem zf_M_37 : zq_F "ThirdSonModel" 37 30 23 := ⟨5, 34, RX5, TX5, rfl, rfl, zq_in5, by decide, zl_M_37⟩
theorem zf_M_40 : zq_F "ThirdSonModel" 40 30 24 := ⟨5, 34, RX5, TX5, rfl, rfl, zq_in5, by decide, zl_M_40⟩
theorem zf_M_243 : zq_F "ThirdSonModel" 243 30 25 := ⟨5, 34, RX5, TX5, rfl, rfl, zq_in5, by decide, zl_M_243⟩
theorem zv_M_243 : zq_W "ThirdSonModel" 243 30 25 .int := ⟨5, 34, RX5, TX5, tyX5, rfl, rfl, zq_in5, by decide, zl_M_243, tyX5_ok, nmX5, rfl, by decide +kernel⟩
theorem zf_M_43 : zq_F "ThirdSonModel" 43 30 26 := ⟨5, 34, RX5, TX5, rfl, rfl, zq_in5, by decide, zl_M_43⟩
theorem zf_M_47 : zq_F "ThirdSonModel" 47 30 27 := ⟨5, 34, RX5, TX5, rfl, rfl, zq_in5, by decide, zl_M_47⟩
theorem zf_M_164 : zq_F "ThirdSonModel" 164 30 28 := ⟨5, 34, RX5, TX5, rfl, rfl, zq_in5, by decide, zl_M_164⟩
theorem zv_M_164 : zq_W "ThirdSonModel" 164 30 28 .int := ⟨5, 34, RX5, TX5, tyX5, rfl, rfl, zq_in5, by decide, zl_M_164, tyX5_ok, nmX5, rfl, by decide +kernel⟩
theorem zf_M_50 : zq_F "ThirdSonModel" 50 30 29 := ⟨5, 34, RX5, TX5, rfl, rfl, zq_in5, by decide, zl_M_50⟩
theorem zf_M_54 : zq_F "ThirdSonModel" 54 30 30 := ⟨5, 34, RX5, TX5, rfl, rfl, zq_in5, by decide, zl_M_54⟩
theorem zf_M_57 : zq_F "ThirdSonModel" 57 30 31 := ⟨5, 34, RX5, TX5, rfl, rfl, zq_in5, by decide, zl_M_57⟩
theorem zf_M_60 : zq_F "ThirdSonModel" 60 30 32 := ⟨5, 34, RX5, TX5, rfl, rfl, zq_in5, by decide, zl_M_60⟩
theorem zf_M_294 : zq_F "ThirdSonModel" 294 30 33 := ⟨5, 34, RX5, TX5, rfl, rfl, zq_in5, by decide, zl_M_294⟩
theorem zv_M_294 : zq_W "ThirdSonModel" 294 30 33 .int := ⟨5, 34, RX5, TX5, tyX5, rfl, rfl, zq_in5, by decide, zl_M_294, tyX5_ok, nmX5, rfl, by decide +kernel⟩
end
section
theorem dz_D_clear_0 : decode zm_D_clear.2.1 0 = .ok (.aload_n 0, 1) := by decide +kernel
theorem dz_D_clear_1 : decode zm_D_clear.2.1 1 = .ok (.iconst 0, 1) := by decide +kernel
theorem dz_D_clear_2 : decode zm_D_clear.2.1 2 = .ok (.putfield 45, 3) := by decide +kernel
theorem dz_D_clear_5 : decode zm_D_clear.2.1 5 = .ok (.aload_n 0, 1) := by decide +kernel
theorem dz_D_clear_6 : decode zm_D_clear.2.1 6 = .ok (.iconst 0, 1) := by decide +kernel
theorem dz_D_clear_7 : decode zm_D_clear.2.1 7 = .ok (.putfield 49, 3) := by decide +kernel
theorem dz_D_clear_10 : decode zm_D_clear.2.1 10 = .ok (.aload_n 0, 1) := by decide +kernel
theorem dz_D_clear_11 : decode zm_D_clear.2.1 11 = .ok (.iconst 0, 1) := by decide +kernel
theorem dz_D_clear_12 : decode zm_D_clear.2.1 12 = .ok (.putfield 52, 3) := by decide +kernel
theorem dz_D_clear_15 : decode zm_D_clear.2.1 15 = .ok (.iconst 0, 1) := by decide +kernel
theorem dz_D_clear_16 : decode zm_D_clear.2.1 16 = .ok (.istore_n 1, 1) := by decide +kernel
theorem dz_D_clear_17 : decode zm_D_clear.2.1 17 = .ok (.iload_n 1, 1) := by decide +kernel
theorem dz_D_clear_18 : decode zm_D_clear.2.1 18 = .ok (.bipush 6, 2) := by decide +kernel
theorem dz_D_clear_20 : decode zm_D_clear.2.1 20 = .ok (.if_icmp .ge 23, 3) := by decide +kernel
theorem dz_D_clear_23 : decode zm_D_clear.2.1 23 = .ok (.aload_n 0, 1) := by decide +kernel
theorem dz_D_clear_24 : decode zm_D_clear.2.1 24 = .ok (.getfield 18, 3) := by decide +kernel
theorem dz_D_clear_27 : decode zm_D_clear.2.1 27 = .ok (.iload_n 1, 1) := by decide +kernel
theorem dz_D_clear_28 : decode zm_D_clear.2.1 28 = .ok (.iconst 0, 1) := by decide +kernel
theorem dz_D_clear_29 : decode zm_D_clear.2.1 29 = .ok (.iastore, 1) := by decide +kernel
theorem dz_D_clear_30 : decode zm_D_clear.2.1 30 = .ok (.aload_n 0, 1) := by decide +kernel
theorem dz_D_clear_31 : decode zm_D_clear.2.1 31 = .ok (.getfield 21, 3) := by decide +kernel
theorem dz_D_clear_34 : decode zm_D_clear.2.1 34 = .ok (.iload_n 1, 1) := by decide +kernel
theorem dz_D_clear_35 : decode zm_D_clear.2.1 35 = .ok (.iconst 0, 1) := by decide +kernel
theorem dz_D_clear_36 : decode zm_D_clear.2.1 36 = .ok (.iastore, 1) := by decide +kernel
theorem dz_D_clear_37 : decode zm_D_clear.2.1 37 = .ok (.iinc 1 1, 3) := by decide +kernel
theorem dz_D_clear_40 : decode zm_D_clear.2.1 40 = .ok (.goto (-23), 3) := by decide +kernel
theorem dz_D_clear_43 : decode zm_D_clear.2.1 43 = .ok (.iconst 0, 1) := by decide +kernel
theorem dz_D_clear_44 : decode zm_D_clear.2.1 44 = .ok (.istore_n 1, 1) := by decide +kernel
theorem dz_D_clear_45 : decode zm_D_clear.2.1 45 = .ok (.iload_n 1, 1) := by decide +kernel
theorem dz_D_clear_46 : decode zm_D_clear.2.1 46 = .ok (.iconst 5, 1) := by decide +kernel
theorem dz_D_clear_47 : decode zm_D_clear.2.1 47 = .ok (.if_icmp .ge 16, 3) := by decide +kernel
theorem dz_D_clear_50 : decode zm_D_clear.2.1 50 = .ok (.aload_n 0, 1) := by decide +kernel
theorem dz_D_clear_51 : decode zm_D_clear.2.1 51 = .ok (.getfield 24, 3) := by decide +kernel
theorem dz_D_clear_54 : decode zm_D_clear.2.1 54 = .ok (.iload_n 1, 1) := by decide +kernel
theorem dz_D_clear_55 : decode zm_D_clear.2.1 55 = .ok (.iconst 5, 1) := by decide +kernel
theorem dz_D_clear_56 : decode zm_D_clear.2.1 56 = .ok (.iastore, 1) := by decide +kernel
theorem dz_D_clear_57 : decode zm_D_clear.2.1 57 = .ok (.iinc 1 1, 3) := by decide +kernel
theorem dz_D_clear_60 : decode zm_D_clear.2.1 60 = .ok (.goto (-15), 3) := by decide +kernel
theorem dz_D_clear_63 : decode zm_D_clear.2.1 63 = .ok (.return_, 1) := by decide +kernel
theorem dz_D_copyFrom_0 : decode zm_D_copyFrom.2.1 0 = .ok (.aload_n 1, 1) := by decide +kernel
theorem dz_D_copyFrom_1 : decode zm_D_copyFrom.2.1 1 = .ok (.ifnonnull 4, 3) := by decide +kernel
theorem dz_D_copyFrom_4 : decode zm_D_copyFrom.2.1 4 = .ok (.return_, 1) := by decide +kernel
theorem dz_D_copyFrom_5 : decode zm_D_copyFrom.2.1 5 = .ok (.aload_n 0, 1) := by decide +kernel
theorem dz_D_copyFrom_6 : decode zm_D_copyFrom.2.1 6 = .ok (.aload_n 1, 1) := by decide +kernel
theorem dz_D_copyFrom_7 : decode zm_D_copyFrom.2.1 7 = .ok (.getfield 45, 3) := by decide +kernel
theorem dz_D_copyFrom_10 : decode zm_D_copyFrom.2.1 10 = .ok (.putfield 45, 3) := by decide +kernel
theorem dz_D_copyFrom_13 : decode zm_D_copyFrom.2.1 13 = .ok (.aload_n 0, 1) := by decide +kernel
theorem dz_D_copyFrom_14 : decode zm_D_copyFrom.2.1 14 = .ok (.aload_n 1, 1) := by decide +kernel
theorem dz_D_copyFrom_15 : decode zm_D_copyFrom.2.1 15 = .ok (.getfield 49, 3) := by decide +kernel
theorem dz_D_copyFrom_18 : decode zm_D_copyFrom.2.1 18 = .ok (.putfield 49, 3) := by decide +kernel
theorem dz_D_copyFrom_21 : decode zm_D_copyFrom.2.1 21 = .ok (.aload_n 0, 1) := by decide +kernel
theorem dz_D_copyFrom_22 : decode zm_D_copyFrom.2.1 22 = .ok (.aload_n 1, 1) := by decide +kernel
theorem dz_D_copyFrom_23 : decode zm_D_copyFrom.2.1 23 = .ok (.getfield 52, 3) := by decide +kernel
theorem dz_D_copyFrom_26 : decode zm_D_copyFrom.2.1 26 = .ok (.putfield 52, 3) := by decide +kernel
theorem dz_D_copyFrom_29 : decode zm_D_copyFrom.2.1 29 = .ok (.iconst 0, 1) := by decide +kernel
theorem dz_D_copyFrom_30 : decode zm_D_copyFrom.2.1 30 = .ok (.istore_n 2, 1) := by decide +kernel
theorem dz_D_copyFrom_31 : decode zm_D_copyFrom.2.1 31 = .ok (.iload_n 2, 1) := by decide +kernel
theorem dz_D_copyFrom_32 : decode zm_D_copyFrom.2.1 32 = .ok (.bipush 6, 2) := by decide +kernel
theorem dz_D_copyFrom_34 : decode zm_D_copyFrom.2.1 34 = .ok (.if_icmp .ge 57, 3) := by decide +kernel
theorem dz_D_copyFrom_37 : decode zm_D_copyFrom.2.1 37 = .ok (.aload_n 0, 1) := by decide +kernel
theorem dz_D_copyFrom_38 : decode zm_D_copyFrom.2.1 38 = .ok (.getfield 9, 3) := by decide +kernel
theorem dz_D_copyFrom_41 : decode zm_D_copyFrom.2.1 41 = .ok (.iload_n 2, 1) := by decide +kernel
theorem dz_D_copyFrom_42 : decode zm_D_copyFrom.2.1 42 = .ok (.aload_n 1, 1) := by decide +kernel
theorem dz_D_copyFrom_43 : decode zm_D_copyFrom.2.1 43 = .ok (.getfield 9, 3) := by decide +kernel
theorem dz_D_copyFrom_46 : decode zm_D_copyFrom.2.1 46 = .ok (.iload_n 2, 1) := by decide +kernel
theorem dz_D_copyFrom_47 : decode zm_D_copyFrom.2.1 47 = .ok (.iaload, 1) := by decide +kernel
theorem dz_D_copyFrom_48 : decode zm_D_copyFrom.2.1 48 = .ok (.iastore, 1) := by decide +kernel
theorem dz_D_copyFrom_49 : decode zm_D_copyFrom.2.1 49 = .ok (.aload_n 0, 1) := by decide +kernel
theorem dz_D_copyFrom_50 : decode zm_D_copyFrom.2.1 50 = .ok (.getfield 15, 3) := by decide +kernel
theorem dz_D_copyFrom_53 : decode zm_D_copyFrom.2.1 53 = .ok (.iload_n 2, 1) := by decide +kernel
theorem dz_D_copyFrom_54 : decode zm_D_copyFrom.2.1 54 = .ok (.aload_n 1, 1) := by decide +kernel
theorem dz_D_copyFrom_55 : decode zm_D_copyFrom.2.1 55 = .ok (.getfield 15, 3) := by decide +kernel
theorem dz_D_copyFrom_58 : decode zm_D_copyFrom.2.1 58 = .ok (.iload_n 2, 1) := by decide +kernel
theorem dz_D_copyFrom_59 : decode zm_D_copyFrom.2.1 59 = .ok (.iaload, 1) := by decide +kernel
theorem dz_D_copyFrom_60 : decode zm_D_copyFrom.2.1 60 = .ok (.iastore, 1) := by decide +kernel
theorem dz_D_copyFrom_61 : decode zm_D_copyFrom.2.1 61 = .ok (.aload_n 0, 1) := by decide +kernel
theorem dz_D_copyFrom_62 : decode zm_D_copyFrom.2.1 62 = .ok (.getfield 18, 3) := by decide +kernel
theorem dz_D_copyFrom_65 : decode zm_D_copyFrom.2.1 65 = .ok (.iload_n 2, 1) := by decide +kernel
theorem dz_D_copyFrom_66 : decode zm_D_copyFrom.2.1 66 = .ok (.aload_n 1, 1) := by decide +kernel
theorem dz_D_copyFrom_67 : decode zm_D_copyFrom.2.1 67 = .ok (.getfield 18, 3) := by decide +kernel
theorem dz_D_copyFrom_70 : decode zm_D_copyFrom.2.1 70 = .ok (.iload_n 2, 1) := by decide +kernel
theorem dz_D_copyFrom_71 : decode zm_D_copyFrom.2.1 71 = .ok (.iaload, 1) := by decide +kernel
theorem dz_D_copyFrom_72 : decode zm_D_copyFrom.2.1 72 = .ok (.iastore, 1) := by decide +kernel
theorem dz_D_copyFrom_73 : decode zm_D_copyFrom.2.1 73 = .ok (.aload_n 0, 1) := by decide +kernel
theorem dz_D_copyFrom_74 : decode zm_D_copyFrom.2.1 74 = .ok (.getfield 21, 3) := by decide +kernel
theorem dz_D_copyFrom_77 : decode zm_D_copyFrom.2.1 77 = .ok (.iload_n 2, 1) := by decide +kernel
theorem dz_D_copyFrom_78 : decode zm_D_copyFrom.2.1 78 = .ok (.aload_n 1, 1) := by decide +kernel
theorem dz_D_copyFrom_79 : decode zm_D_copyFrom.2.1 79 = .ok (.getfield 21, 3) := by decide +kernel
theorem dz_D_copyFrom_82 : decode zm_D_copyFrom.2.1 82 = .ok (.iload_n 2, 1) := by decide +kernel
theorem dz_D_copyFrom_83 : decode zm_D_copyFrom.2.1 83 = .ok (.iaload, 1) := by decide +kernel
theorem dz_D_copyFrom_84 : decode zm_D_copyFrom.2.1 84 = .ok (.iastore, 1) := by decide +kernel
theorem dz_D_copyFrom_85 : decode zm_D_copyFrom.2.1 85 = .ok (.iinc 2 1, 3) := by decide +kernel
theorem dz_D_copyFrom_88 : decode zm_D_copyFrom.2.1 88 = .ok (.goto (-57), 3) := by decide +kernel
theorem dz_D_copyFrom_91 : decode zm_D_copyFrom.2.1 91 = .ok (.iconst 0, 1) := by decide +kernel
theorem dz_D_copyFrom_92 : decode zm_D_copyFrom.2.1 92 = .ok (.istore_n 2, 1) := by decide +kernel
theorem dz_D_copyFrom_93 : decode zm_D_copyFrom.2.1 93 = .ok (.iload_n 2, 1) := by decide +kernel
theorem dz_D_copyFrom_94 : decode zm_D_copyFrom.2.1 94 = .ok (.iconst 5, 1) := by decide +kernel
theorem dz_D_copyFrom_95 : decode zm_D_copyFrom.2.1 95 = .ok (.if_icmp .ge 21, 3) := by decide +kernel
theorem dz_D_copyFrom_98 : decode zm_D_copyFrom.2.1 98 = .ok (.aload_n 0, 1) := by decide +kernel
theorem dz_D_copyFrom_99 : decode zm_D_copyFrom.2.1 99 = .ok (.getfield 24, 3) := by decide +kernel
theorem dz_D_copyFrom_102 : decode zm_D_copyFrom.2.1 102 = .ok (.iload_n 2, 1) := by decide +kernel
theorem dz_D_copyFrom_103 : decode zm_D_copyFrom.2.1 103 = .ok (.aload_n 1, 1) := by decide +kernel
theorem dz_D_copyFrom_104 : decode zm_D_copyFrom.2.1 104 = .ok (.getfield 24, 3) := by decide +kernel
theorem dz_D_copyFrom_107 : decode zm_D_copyFrom.2.1 107 = .ok (.iload_n 2, 1) := by decide +kernel
theorem dz_D_copyFrom_108 : decode zm_D_copyFrom.2.1 108 = .ok (.iaload, 1) := by decide +kernel
theorem dz_D_copyFrom_109 : decode zm_D_copyFrom.2.1 109 = .ok (.iastore, 1) := by decide +kernel
theorem dz_D_copyFrom_110 : decode zm_D_copyFrom.2.1 110 = .ok (.iinc 2 1, 3) := by decide +kernel
theorem dz_D_copyFrom_113 : decode zm_D_copyFrom.2.1 113 = .ok (.goto (-20), 3) := by decide +kernel
theorem dz_D_copyFrom_116 : decode zm_D_copyFrom.2.1 116 = .ok (.iconst 0, 1) := by decide +kernel
theorem dz_D_copyFrom_117 : decode zm_D_copyFrom.2.1 117 = .ok (.istore_n 2, 1) := by decide +kernel
theorem dz_D_copyFrom_118 : decode zm_D_copyFrom.2.1 118 = .ok (.iload_n 2, 1) := by decide +kernel
theorem dz_D_copyFrom_119 : decode zm_D_copyFrom.2.1 119 = .ok (.iconst 5, 1) := by decide +kernel
theorem dz_D_copyFrom_120 : decode zm_D_copyFrom.2.1 120 = .ok (.if_icmp .ge 69, 3) := by decide +kernel
theorem dz_D_copyFrom_123 : decode zm_D_copyFrom.2.1 123 = .ok (.aload_n 0, 1) := by decide +kernel
theorem dz_D_copyFrom_124 : decode zm_D_copyFrom.2.1 124 = .ok (.getfield 27, 3) := by decide +kernel
theorem dz_D_copyFrom_127 : decode zm_D_copyFrom.2.1 127 = .ok (.iload_n 2, 1) := by decide +kernel
theorem dz_D_copyFrom_128 : decode zm_D_copyFrom.2.1 128 = .ok (.aload_n 1, 1) := by decide +kernel
theorem dz_D_copyFrom_129 : decode zm_D_copyFrom.2.1 129 = .ok (.getfield 27, 3) := by decide +kernel
theorem dz_D_copyFrom_132 : decode zm_D_copyFrom.2.1 132 = .ok (.iload_n 2, 1) := by decide +kernel
theorem dz_D_copyFrom_133 : decode zm_D_copyFrom.2.1 133 = .ok (.iaload, 1) := by decide +kernel
theorem dz_D_copyFrom_134 : decode zm_D_copyFrom.2.1 134 = .ok (.iastore, 1) := by decide +kernel
theorem dz_D_copyFrom_135 : decode zm_D_copyFrom.2.1 135 = .ok (.aload_n 0, 1) := by decide +kernel
theorem dz_D_copyFrom_136 : decode zm_D_copyFrom.2.1 136 = .ok (.getfield 30, 3) := by decide +kernel
theorem dz_D_copyFrom_139 : decode zm_D_copyFrom.2.1 139 = .ok (.iload_n 2, 1) := by decide +kernel
theorem dz_D_copyFrom_140 : decode zm_D_copyFrom.2.1 140 = .ok (.aload_n 1, 1) := by decide +kernel
theorem dz_D_copyFrom_141 : decode zm_D_copyFrom.2.1 141 = .ok (.getfield 30, 3) := by decide +kernel
theorem dz_D_copyFrom_144 : decode zm_D_copyFrom.2.1 144 = .ok (.iload_n 2, 1) := by decide +kernel
theorem dz_D_copyFrom_145 : decode zm_D_copyFrom.2.1 145 = .ok (.iaload, 1) := by decide +kernel
theorem dz_D_copyFrom_146 : decode zm_D_copyFrom.2.1 146 = .ok (.iastore, 1) := by decide +kernel
theorem dz_D_copyFrom_147 : decode zm_D_copyFrom.2.1 147 = .ok (.aload_n 0, 1) := by decide +kernel
theorem dz_D_copyFrom_148 : decode zm_D_copyFrom.2.1 148 = .ok (.getfield 33, 3) := by decide +kernel
theorem dz_D_copyFrom_151 : decode zm_D_copyFrom.2.1 151 = .ok (.iload_n 2, 1) := by decide +kernel
theorem dz_D_copyFrom_152 : decode zm_D_copyFrom.2.1 152 = .ok (.aload_n 1, 1) := by decide +kernel
theorem dz_D_copyFrom_153 : decode zm_D_copyFrom.2.1 153 = .ok (.getfield 33, 3) := by decide +kernel
theorem dz_D_copyFrom_156 : decode zm_D_copyFrom.2.1 156 = .ok (.iload_n 2, 1) := by decide +kernel
theorem dz_D_copyFrom_157 : decode zm_D_copyFrom.2.1 157 = .ok (.iaload, 1) := by decide +kernel
theorem dz_D_copyFrom_158 : decode zm_D_copyFrom.2.1 158 = .ok (.iastore, 1) := by decide +kernel
theorem dz_D_copyFrom_159 : decode zm_D_copyFrom.2.1 159 = .ok (.aload_n 0, 1) := by decide +kernel
theorem dz_D_copyFrom_160 : decode zm_D_copyFrom.2.1 160 = .ok (.getfield 36, 3) := by decide +kernel
theorem dz_D_copyFrom_163 : decode zm_D_copyFrom.2.1 163 = .ok (.iload_n 2, 1) := by decide +kernel
theorem dz_D_copyFrom_164 : decode zm_D_copyFrom.2.1 164 = .ok (.aload_n 1, 1) := by decide +kernel
theorem dz_D_copyFrom_165 : decode zm_D_copyFrom.2.1 165 = .ok (.getfield 36, 3) := by decide +kernel
theorem dz_D_copyFrom_168 : decode zm_D_copyFrom.2.1 168 = .ok (.iload_n 2, 1) := by decide +kernel
theorem dz_D_copyFrom_169 : decode zm_D_copyFrom.2.1 169 = .ok (.iaload, 1) := by decide +kernel
theorem dz_D_copyFrom_170 : decode zm_D_copyFrom.2.1 170 = .ok (.iastore, 1) := by decide +kernel
theorem dz_D_copyFrom_171 : decode zm_D_copyFrom.2.1 171 = .ok (.aload_n 0, 1) := by decide +kernel
theorem dz_D_copyFrom_172 : decode zm_D_copyFrom.2.1 172 = .ok (.getfield 39, 3) := by decide +kernel
theorem dz_D_copyFrom_175 : decode zm_D_copyFrom.2.1 175 = .ok (.iload_n 2, 1) := by decide +kernel
theorem dz_D_copyFrom_176 : decode zm_D_copyFrom.2.1 176 = .ok (.aload_n 1, 1) := by decide +kernel
theorem dz_D_copyFrom_177 : decode zm_D_copyFrom.2.1 177 = .ok (.getfield 39, 3) := by decide +kernel
theorem dz_D_copyFrom_180 : decode zm_D_copyFrom.2.1 180 = .ok (.iload_n 2, 1) := by decide +kernel
theorem dz_D_copyFrom_181 : decode zm_D_copyFrom.2.1 181 = .ok (.iaload, 1) := by decide +kernel
theorem dz_D_copyFrom_182 : decode zm_D_copyFrom.2.1 182 = .ok (.iastore, 1) := by decide +kernel
theorem dz_D_copyFrom_183 : decode zm_D_copyFrom.2.1 183 = .ok (.iinc 2 1, 3) := by decide +kernel
theorem dz_D_copyFrom_186 : decode zm_D_copyFrom.2.1 186 = .ok (.goto (-68), 3) := by decide +kernel
theorem dz_D_copyFrom_189 : decode zm_D_copyFrom.2.1 189 = .ok (.return_, 1) := by decide +kernel
theorem dz_D_addOne_0 : decode zm_D_addOne.2.1 0 = .ok (.aload_n 0, 1) := by decide +kernel
theorem dz_D_addOne_1 : decode zm_D_addOne.2.1 1 = .ok (.getfield 45, 3) := by decide +kernel
theorem dz_D_addOne_4 : decode zm_D_addOne.2.1 4 = .ok (.bipush 6, 2) := by decide +kernel
theorem dz_D_addOne_6 : decode zm_D_addOne.2.1 6 = .ok (.if_icmp .lt 4, 3) := by decide +kernel
theorem dz_D_addOne_9 : decode zm_D_addOne.2.1 9 = .ok (.return_, 1) := by decide +kernel
theorem dz_D_addOne_10 : decode zm_D_addOne.2.1 10 = .ok (.aload_n 0, 1) := by decide +kernel
theorem dz_D_addOne_11 : decode zm_D_addOne.2.1 11 = .ok (.getfield 9, 3) := by decide +kernel
theorem dz_D_addOne_14 : decode zm_D_addOne.2.1 14 = .ok (.aload_n 0, 1) := by decide +kernel
theorem dz_D_addOne_15 : decode zm_D_addOne.2.1 15 = .ok (.getfield 45, 3) := by decide +kernel
theorem dz_D_addOne_18 : decode zm_D_addOne.2.1 18 = .ok (.bipush (-4), 2) := by decide +kernel
theorem dz_D_addOne_20 : decode zm_D_addOne.2.1 20 = .ok (.iastore, 1) := by decide +kernel
theorem dz_D_addOne_21 : decode zm_D_addOne.2.1 21 = .ok (.aload_n 0, 1) := by decide +kernel
theorem dz_D_addOne_22 : decode zm_D_addOne.2.1 22 = .ok (.getfield 15, 3) := by decide +kernel
theorem dz_D_addOne_25 : decode zm_D_addOne.2.1 25 = .ok (.aload_n 0, 1) := by decide +kernel
theorem dz_D_addOne_26 : decode zm_D_addOne.2.1 26 = .ok (.getfield 45, 3) := by decide +kernel
theorem dz_D_addOne_29 : decode zm_D_addOne.2.1 29 = .ok (.iconst 0, 1) := by decide +kernel
theorem dz_D_addOne_30 : decode zm_D_addOne.2.1 30 = .ok (.iastore, 1) := by decide +kernel
theorem dz_D_addOne_31 : decode zm_D_addOne.2.1 31 = .ok (.aload_n 0, 1) := by decide +kernel
theorem dz_D_addOne_32 : decode zm_D_addOne.2.1 32 = .ok (.iload_n 1, 1) := by decide +kernel
theorem dz_D_addOne_33 : decode zm_D_addOne.2.1 33 = .ok (.invokevirtual 55, 3) := by decide +kernel
theorem dz_D_addOne_36 : decode zm_D_addOne.2.1 36 = .ok (.ifCond .eq 32, 3) := by decide +kernel
theorem dz_D_addOne_39 : decode zm_D_addOne.2.1 39 = .ok (.aload_n 0, 1) := by decide +kernel
theorem dz_D_addOne_40 : decode zm_D_addOne.2.1 40 = .ok (.getfield 9, 3) := by decide +kernel
theorem dz_D_addOne_43 : decode zm_D_addOne.2.1 43 = .ok (.aload_n 0, 1) := by decide +kernel
theorem dz_D_addOne_44 : decode zm_D_addOne.2.1 44 = .ok (.getfield 45, 3) := by decide +kernel
theorem dz_D_addOne_47 : decode zm_D_addOne.2.1 47 = .ok (.iload_n 1, 1) := by decide +kernel
theorem dz_D_addOne_48 : decode zm_D_addOne.2.1 48 = .ok (.iastore, 1) := by decide +kernel
theorem dz_D_addOne_49 : decode zm_D_addOne.2.1 49 = .ok (.aload_n 0, 1) := by decide +kernel
theorem dz_D_addOne_50 : decode zm_D_addOne.2.1 50 = .ok (.getfield 15, 3) := by decide +kernel
theorem dz_D_addOne_53 : decode zm_D_addOne.2.1 53 = .ok (.aload_n 0, 1) := by decide +kernel
theorem dz_D_addOne_54 : decode zm_D_addOne.2.1 54 = .ok (.getfield 45, 3) := by decide +kernel
theorem dz_D_addOne_57 : decode zm_D_addOne.2.1 57 = .ok (.aload_n 0, 1) := by decide +kernel
theorem dz_D_addOne_58 : decode zm_D_addOne.2.1 58 = .ok (.getfield 15, 3) := by decide +kernel
theorem dz_D_addOne_61 : decode zm_D_addOne.2.1 61 = .ok (.iload_n 1, 1) := by decide +kernel
theorem dz_D_addOne_62 : decode zm_D_addOne.2.1 62 = .ok (.iaload, 1) := by decide +kernel
theorem dz_D_addOne_63 : decode zm_D_addOne.2.1 63 = .ok (.iconst 1, 1) := by decide +kernel
theorem dz_D_addOne_64 : decode zm_D_addOne.2.1 64 = .ok (.iload_n 1, 1) := by decide +kernel
theorem dz_D_addOne_65 : decode zm_D_addOne.2.1 65 = .ok (.ishl, 1) := by decide +kernel
theorem dz_D_addOne_66 : decode zm_D_addOne.2.1 66 = .ok (.ior, 1) := by decide +kernel
theorem dz_D_addOne_67 : decode zm_D_addOne.2.1 67 = .ok (.iastore, 1) := by decide +kernel
theorem dz_D_addOne_68 : decode zm_D_addOne.2.1 68 = .ok (.aload_n 0, 1) := by decide +kernel
theorem dz_D_addOne_69 : decode zm_D_addOne.2.1 69 = .ok (.dup, 1) := by decide +kernel
theorem dz_D_addOne_70 : decode zm_D_addOne.2.1 70 = .ok (.getfield 45, 3) := by decide +kernel
theorem dz_D_addOne_73 : decode zm_D_addOne.2.1 73 = .ok (.iconst 1, 1) := by decide +kernel
theorem dz_D_addOne_74 : decode zm_D_addOne.2.1 74 = .ok (.iadd, 1) := by decide +kernel
theorem dz_D_addOne_75 : decode zm_D_addOne.2.1 75 = .ok (.putfield 45, 3) := by decide +kernel
theorem dz_D_addOne_78 : decode zm_D_addOne.2.1 78 = .ok (.return_, 1) := by decide +kernel
theorem dz_D_addRule_0 : decode zm_D_addRule.2.1 0 = .ok (.aload_n 0, 1) := by decide +kernel
theorem dz_D_addRule_1 : decode zm_D_addRule.2.1 1 = .ok (.getfield 52, 3) := by decide +kernel
theorem dz_D_addRule_4 : decode zm_D_addRule.2.1 4 = .ok (.iconst 5, 1) := by decide +kernel
theorem dz_D_addRule_5 : decode zm_D_addRule.2.1 5 = .ok (.if_icmp .lt 4, 3) := by decide +kernel
theorem dz_D_addRule_8 : decode zm_D_addRule.2.1 8 = .ok (.return_, 1) := by decide +kernel
theorem dz_D_addRule_9 : decode zm_D_addRule.2.1 9 = .ok (.aload_n 0, 1) := by decide +kernel
theorem dz_D_addRule_10 : decode zm_D_addRule.2.1 10 = .ok (.getfield 27, 3) := by decide +kernel
theorem dz_D_addRule_13 : decode zm_D_addRule.2.1 13 = .ok (.aload_n 0, 1) := by decide +kernel
theorem dz_D_addRule_14 : decode zm_D_addRule.2.1 14 = .ok (.getfield 52, 3) := by decide +kernel
theorem dz_D_addRule_17 : decode zm_D_addRule.2.1 17 = .ok (.iload_n 1, 1) := by decide +kernel
theorem dz_D_addRule_18 : decode zm_D_addRule.2.1 18 = .ok (.iastore, 1) := by decide +kernel
theorem dz_D_addRule_19 : decode zm_D_addRule.2.1 19 = .ok (.aload_n 0, 1) := by decide +kernel
theorem dz_D_addRule_20 : decode zm_D_addRule.2.1 20 = .ok (.getfield 30, 3) := by decide +kernel
theorem dz_D_addRule_23 : decode zm_D_addRule.2.1 23 = .ok (.aload_n 0, 1) := by decide +kernel
theorem dz_D_addRule_24 : decode zm_D_addRule.2.1 24 = .ok (.getfield 52, 3) := by decide +kernel
theorem dz_D_addRule_27 : decode zm_D_addRule.2.1 27 = .ok (.iload_n 2, 1) := by decide +kernel
theorem dz_D_addRule_28 : decode zm_D_addRule.2.1 28 = .ok (.iastore, 1) := by decide +kernel
theorem dz_D_addRule_29 : decode zm_D_addRule.2.1 29 = .ok (.aload_n 0, 1) := by decide +kernel
theorem dz_D_addRule_30 : decode zm_D_addRule.2.1 30 = .ok (.getfield 33, 3) := by decide +kernel
theorem dz_D_addRule_33 : decode zm_D_addRule.2.1 33 = .ok (.aload_n 0, 1) := by decide +kernel
theorem dz_D_addRule_34 : decode zm_D_addRule.2.1 34 = .ok (.getfield 52, 3) := by decide +kernel
theorem dz_D_addRule_37 : decode zm_D_addRule.2.1 37 = .ok (.iload_n 3, 1) := by decide +kernel
theorem dz_D_addRule_38 : decode zm_D_addRule.2.1 38 = .ok (.iastore, 1) := by decide +kernel
theorem dz_D_addRule_39 : decode zm_D_addRule.2.1 39 = .ok (.aload_n 0, 1) := by decide +kernel
theorem dz_D_addRule_40 : decode zm_D_addRule.2.1 40 = .ok (.getfield 36, 3) := by decide +kernel
theorem dz_D_addRule_43 : decode zm_D_addRule.2.1 43 = .ok (.aload_n 0, 1) := by decide +kernel
theorem dz_D_addRule_44 : decode zm_D_addRule.2.1 44 = .ok (.getfield 52, 3) := by decide +kernel
theorem dz_D_addRule_47 : decode zm_D_addRule.2.1 47 = .ok (.iload 4, 2) := by decide +kernel
theorem dz_D_addRule_49 : decode zm_D_addRule.2.1 49 = .ok (.iastore, 1) := by decide +kernel
theorem dz_D_addRule_50 : decode zm_D_addRule.2.1 50 = .ok (.aload_n 0, 1) := by decide +kernel
theorem dz_D_addRule_51 : decode zm_D_addRule.2.1 51 = .ok (.getfield 39, 3) := by decide +kernel
theorem dz_D_addRule_54 : decode zm_D_addRule.2.1 54 = .ok (.aload_n 0, 1) := by decide +kernel
theorem dz_D_addRule_55 : decode zm_D_addRule.2.1 55 = .ok (.getfield 52, 3) := by decide +kernel
theorem dz_D_addRule_58 : decode zm_D_addRule.2.1 58 = .ok (.iload 5, 2) := by decide +kernel
theorem dz_D_addRule_60 : decode zm_D_addRule.2.1 60 = .ok (.iastore, 1) := by decide +kernel
theorem dz_D_addRule_61 : decode zm_D_addRule.2.1 61 = .ok (.aload_n 0, 1) := by decide +kernel
theorem dz_D_addRule_62 : decode zm_D_addRule.2.1 62 = .ok (.dup, 1) := by decide +kernel
theorem dz_D_addRule_63 : decode zm_D_addRule.2.1 63 = .ok (.getfield 52, 3) := by decide +kernel
theorem dz_D_addRule_66 : decode zm_D_addRule.2.1 66 = .ok (.iconst 1, 1) := by decide +kernel
theorem dz_D_addRule_67 : decode zm_D_addRule.2.1 67 = .ok (.iadd, 1) := by decide +kernel
theorem dz_D_addRule_68 : decode zm_D_addRule.2.1 68 = .ok (.putfield 52, 3) := by decide +kernel
theorem dz_D_addRule_71 : decode zm_D_addRule.2.1 71 = .ok (.return_, 1) := by decide +kernel
theorem dz_D_isOne_0 : decode zm_D_isOne.2.1 0 = .ok (.iload_n 1, 1) := by decide +kernel
theorem dz_D_isOne_1 : decode zm_D_isOne.2.1 1 = .ok (.ifCond .lt 21, 3) := by decide +kernel
theorem dz_D_isOne_4 : decode zm_D_isOne.2.1 4 = .ok (.iload_n 1, 1) := by decide +kernel
theorem dz_D_isOne_5 : decode zm_D_isOne.2.1 5 = .ok (.aload_n 0, 1) := by decide +kernel
theorem dz_D_isOne_6 : decode zm_D_isOne.2.1 6 = .ok (.getfield 45, 3) := by decide +kernel
theorem dz_D_isOne_9 : decode zm_D_isOne.2.1 9 = .ok (.if_icmp .ge 13, 3) := by decide +kernel
theorem dz_D_isOne_12 : decode zm_D_isOne.2.1 12 = .ok (.iload_n 1, 1) := by decide +kernel
theorem dz_D_isOne_13 : decode zm_D_isOne.2.1 13 = .ok (.bipush 6, 2) := by decide +kernel
theorem dz_D_isOne_15 : decode zm_D_isOne.2.1 15 = .ok (.if_icmp .ge 7, 3) := by decide +kernel
theorem dz_D_isOne_18 : decode zm_D_isOne.2.1 18 = .ok (.iconst 1, 1) := by decide +kernel
theorem dz_D_isOne_19 : decode zm_D_isOne.2.1 19 = .ok (.goto 4, 3) := by decide +kernel
theorem dz_D_isOne_22 : decode zm_D_isOne.2.1 22 = .ok (.iconst 0, 1) := by decide +kernel
theorem dz_D_isOne_23 : decode zm_D_isOne.2.1 23 = .ok (.ireturn, 1) := by decide +kernel
theorem dz_D_isRule_0 : decode zm_D_isRule.2.1 0 = .ok (.iload_n 1, 1) := by decide +kernel
theorem dz_D_isRule_1 : decode zm_D_isRule.2.1 1 = .ok (.ifCond .lt 20, 3) := by decide +kernel
theorem dz_D_isRule_4 : decode zm_D_isRule.2.1 4 = .ok (.iload_n 1, 1) := by decide +kernel
theorem dz_D_isRule_5 : decode zm_D_isRule.2.1 5 = .ok (.aload_n 0, 1) := by decide +kernel
theorem dz_D_isRule_6 : decode zm_D_isRule.2.1 6 = .ok (.getfield 52, 3) := by decide +kernel
theorem dz_D_isRule_9 : decode zm_D_isRule.2.1 9 = .ok (.if_icmp .ge 12, 3) := by decide +kernel
theorem dz_D_isRule_12 : decode zm_D_isRule.2.1 12 = .ok (.iload_n 1, 1) := by decide +kernel
theorem dz_D_isRule_13 : decode zm_D_isRule.2.1 13 = .ok (.iconst 5, 1) := by decide +kernel
theorem dz_D_isRule_14 : decode zm_D_isRule.2.1 14 = .ok (.if_icmp .ge 7, 3) := by decide +kernel
theorem dz_D_isRule_17 : decode zm_D_isRule.2.1 17 = .ok (.iconst 1, 1) := by decide +kernel
theorem dz_D_isRule_18 : decode zm_D_isRule.2.1 18 = .ok (.goto 4, 3) := by decide +kernel
theorem dz_D_isRule_21 : decode zm_D_isRule.2.1 21 = .ok (.iconst 0, 1) := by decide +kernel
theorem dz_D_isRule_22 : decode zm_D_isRule.2.1 22 = .ok (.ireturn, 1) := by decide +kernel
theorem dz_D_isGone_0 : decode zm_D_isGone.2.1 0 = .ok (.aload_n 0, 1) := by decide +kernel
theorem dz_D_isGone_1 : decode zm_D_isGone.2.1 1 = .ok (.getfield 49, 3) := by decide +kernel
theorem dz_D_isGone_4 : decode zm_D_isGone.2.1 4 = .ok (.iload_n 1, 1) := by decide +kernel
theorem dz_D_isGone_5 : decode zm_D_isGone.2.1 5 = .ok (.ishr, 1) := by decide +kernel
theorem dz_D_isGone_6 : decode zm_D_isGone.2.1 6 = .ok (.iconst 1, 1) := by decide +kernel
theorem dz_D_isGone_7 : decode zm_D_isGone.2.1 7 = .ok (.iand, 1) := by decide +kernel
theorem dz_D_isGone_8 : decode zm_D_isGone.2.1 8 = .ok (.ifCond .eq 7, 3) := by decide +kernel
theorem dz_D_isGone_11 : decode zm_D_isGone.2.1 11 = .ok (.iconst 1, 1) := by decide +kernel
theorem dz_D_isGone_12 : decode zm_D_isGone.2.1 12 = .ok (.goto 4, 3) := by decide +kernel
theorem dz_D_isGone_15 : decode zm_D_isGone.2.1 15 = .ok (.iconst 0, 1) := by decide +kernel
theorem dz_D_isGone_16 : decode zm_D_isGone.2.1 16 = .ok (.ireturn, 1) := by decide +kernel
theorem dz_D_isKnown_0 : decode zm_D_isKnown.2.1 0 = .ok (.aload_n 0, 1) := by decide +kernel
theorem dz_D_isKnown_1 : decode zm_D_isKnown.2.1 1 = .ok (.iload_n 1, 1) := by decide +kernel
theorem dz_D_isKnown_2 : decode zm_D_isKnown.2.1 2 = .ok (.invokevirtual 55, 3) := by decide +kernel
theorem dz_D_isKnown_5 : decode zm_D_isKnown.2.1 5 = .ok (.ifCond .eq 20, 3) := by decide +kernel
theorem dz_D_isKnown_8 : decode zm_D_isKnown.2.1 8 = .ok (.aload_n 0, 1) := by decide +kernel
theorem dz_D_isKnown_9 : decode zm_D_isKnown.2.1 9 = .ok (.getfield 18, 3) := by decide +kernel
theorem dz_D_isKnown_12 : decode zm_D_isKnown.2.1 12 = .ok (.iload_n 1, 1) := by decide +kernel
theorem dz_D_isKnown_13 : decode zm_D_isKnown.2.1 13 = .ok (.iaload, 1) := by decide +kernel
theorem dz_D_isKnown_14 : decode zm_D_isKnown.2.1 14 = .ok (.iload_n 2, 1) := by decide +kernel
theorem dz_D_isKnown_15 : decode zm_D_isKnown.2.1 15 = .ok (.ishr, 1) := by decide +kernel
theorem dz_D_isKnown_16 : decode zm_D_isKnown.2.1 16 = .ok (.iconst 1, 1) := by decide +kernel
theorem dz_D_isKnown_17 : decode zm_D_isKnown.2.1 17 = .ok (.iand, 1) := by decide +kernel
theorem dz_D_isKnown_18 : decode zm_D_isKnown.2.1 18 = .ok (.ifCond .eq 7, 3) := by decide +kernel
theorem dz_D_isKnown_21 : decode zm_D_isKnown.2.1 21 = .ok (.iconst 1, 1) := by decide +kernel
theorem dz_D_isKnown_22 : decode zm_D_isKnown.2.1 22 = .ok (.goto 4, 3) := by decide +kernel
theorem dz_D_isKnown_25 : decode zm_D_isKnown.2.1 25 = .ok (.iconst 0, 1) := by decide +kernel
theorem dz_D_isKnown_26 : decode zm_D_isKnown.2.1 26 = .ok (.ireturn, 1) := by decide +kernel
theorem dz_D_everybody_0 : decode zm_D_everybody.2.1 0 = .ok (.iconst 1, 1) := by decide +kernel
theorem dz_D_everybody_1 : decode zm_D_everybody.2.1 1 = .ok (.aload_n 0, 1) := by decide +kernel
theorem dz_D_everybody_2 : decode zm_D_everybody.2.1 2 = .ok (.getfield 45, 3) := by decide +kernel
theorem dz_D_everybody_5 : decode zm_D_everybody.2.1 5 = .ok (.ishl, 1) := by decide +kernel
theorem dz_D_everybody_6 : decode zm_D_everybody.2.1 6 = .ok (.iconst 1, 1) := by decide +kernel
theorem dz_D_everybody_7 : decode zm_D_everybody.2.1 7 = .ok (.isub, 1) := by decide +kernel
theorem dz_D_everybody_8 : decode zm_D_everybody.2.1 8 = .ok (.ireturn, 1) := by decide +kernel
theorem dz_D_allRules_0 : decode zm_D_allRules.2.1 0 = .ok (.iconst 1, 1) := by decide +kernel
theorem dz_D_allRules_1 : decode zm_D_allRules.2.1 1 = .ok (.aload_n 0, 1) := by decide +kernel
theorem dz_D_allRules_2 : decode zm_D_allRules.2.1 2 = .ok (.getfield 52, 3) := by decide +kernel
theorem dz_D_allRules_5 : decode zm_D_allRules.2.1 5 = .ok (.ishl, 1) := by decide +kernel
theorem dz_D_allRules_6 : decode zm_D_allRules.2.1 6 = .ok (.iconst 1, 1) := by decide +kernel
theorem dz_D_allRules_7 : decode zm_D_allRules.2.1 7 = .ok (.isub, 1) := by decide +kernel
theorem dz_D_allRules_8 : decode zm_D_allRules.2.1 8 = .ok (.ireturn, 1) := by decide +kernel
theorem dz_D_cases_0 : decode zm_D_cases.2.1 0 = .ok (.iconst 1, 1) := by decide +kernel
theorem dz_D_cases_1 : decode zm_D_cases.2.1 1 = .ok (.aload_n 0, 1) := by decide +kernel
theorem dz_D_cases_2 : decode zm_D_cases.2.1 2 = .ok (.getfield 45, 3) := by decide +kernel
theorem dz_D_cases_5 : decode zm_D_cases.2.1 5 = .ok (.ishl, 1) := by decide +kernel
theorem dz_D_cases_6 : decode zm_D_cases.2.1 6 = .ok (.ireturn, 1) := by decide +kernel
theorem dz_D_placeAmongBorn_0 : decode zm_D_placeAmongBorn.2.1 0 = .ok (.iload_n 1, 1) := by decide +kernel
theorem dz_D_placeAmongBorn_1 : decode zm_D_placeAmongBorn.2.1 1 = .ok (.ifCond .lt 19, 3) := by decide +kernel
theorem dz_D_placeAmongBorn_4 : decode zm_D_placeAmongBorn.2.1 4 = .ok (.iload_n 1, 1) := by decide +kernel
theorem dz_D_placeAmongBorn_5 : decode zm_D_placeAmongBorn.2.1 5 = .ok (.aload_n 0, 1) := by decide +kernel
theorem dz_D_placeAmongBorn_6 : decode zm_D_placeAmongBorn.2.1 6 = .ok (.getfield 45, 3) := by decide +kernel
theorem dz_D_placeAmongBorn_9 : decode zm_D_placeAmongBorn.2.1 9 = .ok (.if_icmp .ge 11, 3) := by decide +kernel
theorem dz_D_placeAmongBorn_12 : decode zm_D_placeAmongBorn.2.1 12 = .ok (.iload_n 2, 1) := by decide +kernel
theorem dz_D_placeAmongBorn_13 : decode zm_D_placeAmongBorn.2.1 13 = .ok (.iload_n 1, 1) := by decide +kernel
theorem dz_D_placeAmongBorn_14 : decode zm_D_placeAmongBorn.2.1 14 = .ok (.ishr, 1) := by decide +kernel
theorem dz_D_placeAmongBorn_15 : decode zm_D_placeAmongBorn.2.1 15 = .ok (.iconst 1, 1) := by decide +kernel
theorem dz_D_placeAmongBorn_16 : decode zm_D_placeAmongBorn.2.1 16 = .ok (.iand, 1) := by decide +kernel
theorem dz_D_placeAmongBorn_17 : decode zm_D_placeAmongBorn.2.1 17 = .ok (.ifCond .eq 5, 3) := by decide +kernel
theorem dz_D_placeAmongBorn_20 : decode zm_D_placeAmongBorn.2.1 20 = .ok (.iconst 0, 1) := by decide +kernel
theorem dz_D_placeAmongBorn_21 : decode zm_D_placeAmongBorn.2.1 21 = .ok (.ireturn, 1) := by decide +kernel
theorem dz_D_placeAmongBorn_22 : decode zm_D_placeAmongBorn.2.1 22 = .ok (.iconst 0, 1) := by decide +kernel
theorem dz_D_placeAmongBorn_23 : decode zm_D_placeAmongBorn.2.1 23 = .ok (.istore_n 3, 1) := by decide +kernel
theorem dz_D_placeAmongBorn_24 : decode zm_D_placeAmongBorn.2.1 24 = .ok (.iconst 0, 1) := by decide +kernel
theorem dz_D_placeAmongBorn_25 : decode zm_D_placeAmongBorn.2.1 25 = .ok (.istore 4, 2) := by decide +kernel
theorem dz_D_placeAmongBorn_27 : decode zm_D_placeAmongBorn.2.1 27 = .ok (.iload 4, 2) := by decide +kernel
theorem dz_D_placeAmongBorn_29 : decode zm_D_placeAmongBorn.2.1 29 = .ok (.iload_n 1, 1) := by decide +kernel
theorem dz_D_placeAmongBorn_30 : decode zm_D_placeAmongBorn.2.1 30 = .ok (.if_icmp .gt 37, 3) := by decide +kernel
theorem dz_D_placeAmongBorn_33 : decode zm_D_placeAmongBorn.2.1 33 = .ok (.aload_n 0, 1) := by decide +kernel
theorem dz_D_placeAmongBorn_34 : decode zm_D_placeAmongBorn.2.1 34 = .ok (.getfield 9, 3) := by decide +kernel
theorem dz_D_placeAmongBorn_37 : decode zm_D_placeAmongBorn.2.1 37 = .ok (.iload 4, 2) := by decide +kernel
theorem dz_D_placeAmongBorn_39 : decode zm_D_placeAmongBorn.2.1 39 = .ok (.iaload, 1) := by decide +kernel
theorem dz_D_placeAmongBorn_40 : decode zm_D_placeAmongBorn.2.1 40 = .ok (.aload_n 0, 1) := by decide +kernel
theorem dz_D_placeAmongBorn_41 : decode zm_D_placeAmongBorn.2.1 41 = .ok (.getfield 9, 3) := by decide +kernel
theorem dz_D_placeAmongBorn_44 : decode zm_D_placeAmongBorn.2.1 44 = .ok (.iload_n 1, 1) := by decide +kernel
theorem dz_D_placeAmongBorn_45 : decode zm_D_placeAmongBorn.2.1 45 = .ok (.iaload, 1) := by decide +kernel
theorem dz_D_placeAmongBorn_46 : decode zm_D_placeAmongBorn.2.1 46 = .ok (.if_icmp .ne 15, 3) := by decide +kernel
theorem dz_D_placeAmongBorn_49 : decode zm_D_placeAmongBorn.2.1 49 = .ok (.iload_n 2, 1) := by decide +kernel
theorem dz_D_placeAmongBorn_50 : decode zm_D_placeAmongBorn.2.1 50 = .ok (.iload 4, 2) := by decide +kernel
theorem dz_D_placeAmongBorn_52 : decode zm_D_placeAmongBorn.2.1 52 = .ok (.ishr, 1) := by decide +kernel
theorem dz_D_placeAmongBorn_53 : decode zm_D_placeAmongBorn.2.1 53 = .ok (.iconst 1, 1) := by decide +kernel
theorem dz_D_placeAmongBorn_54 : decode zm_D_placeAmongBorn.2.1 54 = .ok (.iand, 1) := by decide +kernel
theorem dz_D_placeAmongBorn_55 : decode zm_D_placeAmongBorn.2.1 55 = .ok (.ifCond .ne 6, 3) := by decide +kernel
theorem dz_D_placeAmongBorn_58 : decode zm_D_placeAmongBorn.2.1 58 = .ok (.iinc 3 1, 3) := by decide +kernel
theorem dz_D_placeAmongBorn_61 : decode zm_D_placeAmongBorn.2.1 61 = .ok (.iinc 4 1, 3) := by decide +kernel
theorem dz_D_placeAmongBorn_64 : decode zm_D_placeAmongBorn.2.1 64 = .ok (.goto (-37), 3) := by decide +kernel
theorem dz_D_placeAmongBorn_67 : decode zm_D_placeAmongBorn.2.1 67 = .ok (.iload_n 3, 1) := by decide +kernel
theorem dz_D_placeAmongBorn_68 : decode zm_D_placeAmongBorn.2.1 68 = .ok (.ireturn, 1) := by decide +kernel
theorem dz_D_childrenLeft_0 : decode zm_D_childrenLeft.2.1 0 = .ok (.iconst 0, 1) := by decide +kernel
theorem dz_D_childrenLeft_1 : decode zm_D_childrenLeft.2.1 1 = .ok (.istore_n 3, 1) := by decide +kernel
theorem dz_D_childrenLeft_2 : decode zm_D_childrenLeft.2.1 2 = .ok (.iconst 0, 1) := by decide +kernel
theorem dz_D_childrenLeft_3 : decode zm_D_childrenLeft.2.1 3 = .ok (.istore 4, 2) := by decide +kernel
theorem dz_D_childrenLeft_5 : decode zm_D_childrenLeft.2.1 5 = .ok (.iload 4, 2) := by decide +kernel
theorem dz_D_childrenLeft_7 : decode zm_D_childrenLeft.2.1 7 = .ok (.aload_n 0, 1) := by decide +kernel
theorem dz_D_childrenLeft_8 : decode zm_D_childrenLeft.2.1 8 = .ok (.getfield 45, 3) := by decide +kernel
theorem dz_D_childrenLeft_11 : decode zm_D_childrenLeft.2.1 11 = .ok (.if_icmp .ge 32, 3) := by decide +kernel
theorem dz_D_childrenLeft_14 : decode zm_D_childrenLeft.2.1 14 = .ok (.aload_n 0, 1) := by decide +kernel
theorem dz_D_childrenLeft_15 : decode zm_D_childrenLeft.2.1 15 = .ok (.getfield 9, 3) := by decide +kernel
theorem dz_D_childrenLeft_18 : decode zm_D_childrenLeft.2.1 18 = .ok (.iload 4, 2) := by decide +kernel
theorem dz_D_childrenLeft_20 : decode zm_D_childrenLeft.2.1 20 = .ok (.iaload, 1) := by decide +kernel
theorem dz_D_childrenLeft_21 : decode zm_D_childrenLeft.2.1 21 = .ok (.iload_n 1, 1) := by decide +kernel
theorem dz_D_childrenLeft_22 : decode zm_D_childrenLeft.2.1 22 = .ok (.if_icmp .ne 15, 3) := by decide +kernel
theorem dz_D_childrenLeft_25 : decode zm_D_childrenLeft.2.1 25 = .ok (.iload_n 2, 1) := by decide +kernel
theorem dz_D_childrenLeft_26 : decode zm_D_childrenLeft.2.1 26 = .ok (.iload 4, 2) := by decide +kernel
theorem dz_D_childrenLeft_28 : decode zm_D_childrenLeft.2.1 28 = .ok (.ishr, 1) := by decide +kernel
theorem dz_D_childrenLeft_29 : decode zm_D_childrenLeft.2.1 29 = .ok (.iconst 1, 1) := by decide +kernel
theorem dz_D_childrenLeft_30 : decode zm_D_childrenLeft.2.1 30 = .ok (.iand, 1) := by decide +kernel
theorem dz_D_childrenLeft_31 : decode zm_D_childrenLeft.2.1 31 = .ok (.ifCond .ne 6, 3) := by decide +kernel
theorem dz_D_childrenLeft_34 : decode zm_D_childrenLeft.2.1 34 = .ok (.iinc 3 1, 3) := by decide +kernel
theorem dz_D_childrenLeft_37 : decode zm_D_childrenLeft.2.1 37 = .ok (.iinc 4 1, 3) := by decide +kernel
theorem dz_D_childrenLeft_40 : decode zm_D_childrenLeft.2.1 40 = .ok (.goto (-35), 3) := by decide +kernel
theorem dz_D_childrenLeft_43 : decode zm_D_childrenLeft.2.1 43 = .ok (.iload_n 3, 1) := by decide +kernel
theorem dz_D_childrenLeft_44 : decode zm_D_childrenLeft.2.1 44 = .ok (.ireturn, 1) := by decide +kernel
theorem dz_D_meets_0 : decode zm_D_meets.2.1 0 = .ok (.aload_n 0, 1) := by decide +kernel
theorem dz_D_meets_1 : decode zm_D_meets.2.1 1 = .ok (.iload_n 1, 1) := by decide +kernel
theorem dz_D_meets_2 : decode zm_D_meets.2.1 2 = .ok (.invokevirtual 55, 3) := by decide +kernel
theorem dz_D_meets_5 : decode zm_D_meets.2.1 5 = .ok (.ifCond .eq 19, 3) := by decide +kernel
theorem dz_D_meets_8 : decode zm_D_meets.2.1 8 = .ok (.aload_n 0, 1) := by decide +kernel
theorem dz_D_meets_9 : decode zm_D_meets.2.1 9 = .ok (.iload_n 2, 1) := by decide +kernel
theorem dz_D_meets_10 : decode zm_D_meets.2.1 10 = .ok (.invokevirtual 59, 3) := by decide +kernel
theorem dz_D_meets_13 : decode zm_D_meets.2.1 13 = .ok (.ifCond .eq 11, 3) := by decide +kernel
theorem dz_D_meets_16 : decode zm_D_meets.2.1 16 = .ok (.iload_n 3, 1) := by decide +kernel
theorem dz_D_meets_17 : decode zm_D_meets.2.1 17 = .ok (.iload_n 1, 1) := by decide +kernel
theorem dz_D_meets_18 : decode zm_D_meets.2.1 18 = .ok (.ishr, 1) := by decide +kernel
theorem dz_D_meets_19 : decode zm_D_meets.2.1 19 = .ok (.iconst 1, 1) := by decide +kernel
theorem dz_D_meets_20 : decode zm_D_meets.2.1 20 = .ok (.iand, 1) := by decide +kernel
theorem dz_D_meets_21 : decode zm_D_meets.2.1 21 = .ok (.ifCond .eq 5, 3) := by decide +kernel
theorem dz_D_meets_24 : decode zm_D_meets.2.1 24 = .ok (.iconst 0, 1) := by decide +kernel
theorem dz_D_meets_25 : decode zm_D_meets.2.1 25 = .ok (.ireturn, 1) := by decide +kernel
theorem dz_D_meets_26 : decode zm_D_meets.2.1 26 = .ok (.aload_n 0, 1) := by decide +kernel
theorem dz_D_meets_27 : decode zm_D_meets.2.1 27 = .ok (.getfield 36, 3) := by decide +kernel
theorem dz_D_meets_30 : decode zm_D_meets.2.1 30 = .ok (.iload_n 2, 1) := by decide +kernel
theorem dz_D_meets_31 : decode zm_D_meets.2.1 31 = .ok (.iaload, 1) := by decide +kernel
theorem dz_D_meets_32 : decode zm_D_meets.2.1 32 = .ok (.istore 4, 2) := by decide +kernel
theorem dz_D_meets_34 : decode zm_D_meets.2.1 34 = .ok (.aload_n 0, 1) := by decide +kernel
theorem dz_D_meets_35 : decode zm_D_meets.2.1 35 = .ok (.getfield 33, 3) := by decide +kernel
theorem dz_D_meets_38 : decode zm_D_meets.2.1 38 = .ok (.iload_n 2, 1) := by decide +kernel
theorem dz_D_meets_39 : decode zm_D_meets.2.1 39 = .ok (.iaload, 1) := by decide +kernel
theorem dz_D_meets_40 : decode zm_D_meets.2.1 40 = .ok (.tableswitch 112 0 4 #[36, 38, 55, 75, 92], 36) := by decide +kernel
theorem dz_D_meets_76 : decode zm_D_meets.2.1 76 = .ok (.iconst 1, 1) := by decide +kernel
theorem dz_D_meets_77 : decode zm_D_meets.2.1 77 = .ok (.ireturn, 1) := by decide +kernel
theorem dz_D_meets_78 : decode zm_D_meets.2.1 78 = .ok (.aload_n 0, 1) := by decide +kernel
theorem dz_D_meets_79 : decode zm_D_meets.2.1 79 = .ok (.iload_n 1, 1) := by decide +kernel
theorem dz_D_meets_80 : decode zm_D_meets.2.1 80 = .ok (.iload_n 3, 1) := by decide +kernel
theorem dz_D_meets_81 : decode zm_D_meets.2.1 81 = .ok (.invokevirtual 62, 3) := by decide +kernel
theorem dz_D_meets_84 : decode zm_D_meets.2.1 84 = .ok (.iload 4, 2) := by decide +kernel
theorem dz_D_meets_86 : decode zm_D_meets.2.1 86 = .ok (.if_icmp .ne 7, 3) := by decide +kernel
theorem dz_D_meets_89 : decode zm_D_meets.2.1 89 = .ok (.iconst 1, 1) := by decide +kernel
theorem dz_D_meets_90 : decode zm_D_meets.2.1 90 = .ok (.goto 4, 3) := by decide +kernel
theorem dz_D_meets_93 : decode zm_D_meets.2.1 93 = .ok (.iconst 0, 1) := by decide +kernel
theorem dz_D_meets_94 : decode zm_D_meets.2.1 94 = .ok (.ireturn, 1) := by decide +kernel
theorem dz_D_meets_95 : decode zm_D_meets.2.1 95 = .ok (.aload_n 0, 1) := by decide +kernel
theorem dz_D_meets_96 : decode zm_D_meets.2.1 96 = .ok (.getfield 18, 3) := by decide +kernel
theorem dz_D_meets_99 : decode zm_D_meets.2.1 99 = .ok (.iload_n 1, 1) := by decide +kernel
theorem dz_D_meets_100 : decode zm_D_meets.2.1 100 = .ok (.iaload, 1) := by decide +kernel
theorem dz_D_meets_101 : decode zm_D_meets.2.1 101 = .ok (.iload 4, 2) := by decide +kernel
theorem dz_D_meets_103 : decode zm_D_meets.2.1 103 = .ok (.ishr, 1) := by decide +kernel
theorem dz_D_meets_104 : decode zm_D_meets.2.1 104 = .ok (.iconst 1, 1) := by decide +kernel
theorem dz_D_meets_105 : decode zm_D_meets.2.1 105 = .ok (.iand, 1) := by decide +kernel
theorem dz_D_meets_106 : decode zm_D_meets.2.1 106 = .ok (.ifCond .eq 7, 3) := by decide +kernel
theorem dz_D_meets_109 : decode zm_D_meets.2.1 109 = .ok (.iconst 1, 1) := by decide +kernel
theorem dz_D_meets_110 : decode zm_D_meets.2.1 110 = .ok (.goto 4, 3) := by decide +kernel
theorem dz_D_meets_113 : decode zm_D_meets.2.1 113 = .ok (.iconst 0, 1) := by decide +kernel
theorem dz_D_meets_114 : decode zm_D_meets.2.1 114 = .ok (.ireturn, 1) := by decide +kernel
theorem dz_D_meets_115 : decode zm_D_meets.2.1 115 = .ok (.aload_n 0, 1) := by decide +kernel
theorem dz_D_meets_116 : decode zm_D_meets.2.1 116 = .ok (.getfield 21, 3) := by decide +kernel
theorem dz_D_meets_119 : decode zm_D_meets.2.1 119 = .ok (.iload_n 1, 1) := by decide +kernel
theorem dz_D_meets_120 : decode zm_D_meets.2.1 120 = .ok (.iaload, 1) := by decide +kernel
theorem dz_D_meets_121 : decode zm_D_meets.2.1 121 = .ok (.iload 4, 2) := by decide +kernel
theorem dz_D_meets_123 : decode zm_D_meets.2.1 123 = .ok (.if_icmp .lt 7, 3) := by decide +kernel
theorem dz_D_meets_126 : decode zm_D_meets.2.1 126 = .ok (.iconst 1, 1) := by decide +kernel
theorem dz_D_meets_127 : decode zm_D_meets.2.1 127 = .ok (.goto 4, 3) := by decide +kernel
theorem dz_D_meets_130 : decode zm_D_meets.2.1 130 = .ok (.iconst 0, 1) := by decide +kernel
theorem dz_D_meets_131 : decode zm_D_meets.2.1 131 = .ok (.ireturn, 1) := by decide +kernel
theorem dz_D_meets_132 : decode zm_D_meets.2.1 132 = .ok (.aload_n 0, 1) := by decide +kernel
theorem dz_D_meets_133 : decode zm_D_meets.2.1 133 = .ok (.getfield 15, 3) := by decide +kernel
theorem dz_D_meets_136 : decode zm_D_meets.2.1 136 = .ok (.iload_n 1, 1) := by decide +kernel
theorem dz_D_meets_137 : decode zm_D_meets.2.1 137 = .ok (.iaload, 1) := by decide +kernel
theorem dz_D_meets_138 : decode zm_D_meets.2.1 138 = .ok (.iload 4, 2) := by decide +kernel
theorem dz_D_meets_140 : decode zm_D_meets.2.1 140 = .ok (.ishr, 1) := by decide +kernel
theorem dz_D_meets_141 : decode zm_D_meets.2.1 141 = .ok (.iconst 1, 1) := by decide +kernel
theorem dz_D_meets_142 : decode zm_D_meets.2.1 142 = .ok (.iand, 1) := by decide +kernel
theorem dz_D_meets_143 : decode zm_D_meets.2.1 143 = .ok (.ifCond .eq 7, 3) := by decide +kernel
theorem dz_D_meets_146 : decode zm_D_meets.2.1 146 = .ok (.iconst 1, 1) := by decide +kernel
theorem dz_D_meets_147 : decode zm_D_meets.2.1 147 = .ok (.goto 4, 3) := by decide +kernel
theorem dz_D_meets_150 : decode zm_D_meets.2.1 150 = .ok (.iconst 0, 1) := by decide +kernel
theorem dz_D_meets_151 : decode zm_D_meets.2.1 151 = .ok (.ireturn, 1) := by decide +kernel
theorem dz_D_meets_152 : decode zm_D_meets.2.1 152 = .ok (.aload_n 0, 1) := by decide +kernel
theorem dz_D_meets_153 : decode zm_D_meets.2.1 153 = .ok (.iload_n 1, 1) := by decide +kernel
theorem dz_D_meets_154 : decode zm_D_meets.2.1 154 = .ok (.iload_n 3, 1) := by decide +kernel
theorem dz_D_meets_155 : decode zm_D_meets.2.1 155 = .ok (.invokevirtual 66, 3) := by decide +kernel
theorem dz_D_meets_158 : decode zm_D_meets.2.1 158 = .ok (.iload 4, 2) := by decide +kernel
theorem dz_D_meets_160 : decode zm_D_meets.2.1 160 = .ok (.if_icmp .ne 7, 3) := by decide +kernel
theorem dz_D_meets_163 : decode zm_D_meets.2.1 163 = .ok (.iconst 1, 1) := by decide +kernel
theorem dz_D_meets_164 : decode zm_D_meets.2.1 164 = .ok (.goto 4, 3) := by decide +kernel
theorem dz_D_meets_167 : decode zm_D_meets.2.1 167 = .ok (.iconst 0, 1) := by decide +kernel
theorem dz_D_meets_168 : decode zm_D_meets.2.1 168 = .ok (.ireturn, 1) := by decide +kernel
theorem dz_D_whoMeet_0 : decode zm_D_whoMeet.2.1 0 = .ok (.iconst 0, 1) := by decide +kernel
theorem dz_D_whoMeet_1 : decode zm_D_whoMeet.2.1 1 = .ok (.istore_n 3, 1) := by decide +kernel
theorem dz_D_whoMeet_2 : decode zm_D_whoMeet.2.1 2 = .ok (.iconst 0, 1) := by decide +kernel
theorem dz_D_whoMeet_3 : decode zm_D_whoMeet.2.1 3 = .ok (.istore 4, 2) := by decide +kernel
theorem dz_D_whoMeet_5 : decode zm_D_whoMeet.2.1 5 = .ok (.iload 4, 2) := by decide +kernel
theorem dz_D_whoMeet_7 : decode zm_D_whoMeet.2.1 7 = .ok (.aload_n 0, 1) := by decide +kernel
theorem dz_D_whoMeet_8 : decode zm_D_whoMeet.2.1 8 = .ok (.getfield 45, 3) := by decide +kernel
theorem dz_D_whoMeet_11 : decode zm_D_whoMeet.2.1 11 = .ok (.if_icmp .ge 27, 3) := by decide +kernel
theorem dz_D_whoMeet_14 : decode zm_D_whoMeet.2.1 14 = .ok (.aload_n 0, 1) := by decide +kernel
theorem dz_D_whoMeet_15 : decode zm_D_whoMeet.2.1 15 = .ok (.iload 4, 2) := by decide +kernel
theorem dz_D_whoMeet_17 : decode zm_D_whoMeet.2.1 17 = .ok (.iload_n 1, 1) := by decide +kernel
theorem dz_D_whoMeet_18 : decode zm_D_whoMeet.2.1 18 = .ok (.iload_n 2, 1) := by decide +kernel
theorem dz_D_whoMeet_19 : decode zm_D_whoMeet.2.1 19 = .ok (.invokevirtual 69, 3) := by decide +kernel
theorem dz_D_whoMeet_22 : decode zm_D_whoMeet.2.1 22 = .ok (.ifCond .eq 10, 3) := by decide +kernel
theorem dz_D_whoMeet_25 : decode zm_D_whoMeet.2.1 25 = .ok (.iload_n 3, 1) := by decide +kernel
theorem dz_D_whoMeet_26 : decode zm_D_whoMeet.2.1 26 = .ok (.iconst 1, 1) := by decide +kernel
theorem dz_D_whoMeet_27 : decode zm_D_whoMeet.2.1 27 = .ok (.iload 4, 2) := by decide +kernel
theorem dz_D_whoMeet_29 : decode zm_D_whoMeet.2.1 29 = .ok (.ishl, 1) := by decide +kernel
theorem dz_D_whoMeet_30 : decode zm_D_whoMeet.2.1 30 = .ok (.ior, 1) := by decide +kernel
theorem dz_D_whoMeet_31 : decode zm_D_whoMeet.2.1 31 = .ok (.istore_n 3, 1) := by decide +kernel
theorem dz_D_whoMeet_32 : decode zm_D_whoMeet.2.1 32 = .ok (.iinc 4 1, 3) := by decide +kernel
theorem dz_D_whoMeet_35 : decode zm_D_whoMeet.2.1 35 = .ok (.goto (-30), 3) := by decide +kernel
theorem dz_D_whoMeet_38 : decode zm_D_whoMeet.2.1 38 = .ok (.iload_n 3, 1) := by decide +kernel
theorem dz_D_whoMeet_39 : decode zm_D_whoMeet.2.1 39 = .ok (.ireturn, 1) := by decide +kernel
theorem dz_D_receiver_0 : decode zm_D_receiver.2.1 0 = .ok (.aload_n 0, 1) := by decide +kernel
theorem dz_D_receiver_1 : decode zm_D_receiver.2.1 1 = .ok (.iload_n 1, 1) := by decide +kernel
theorem dz_D_receiver_2 : decode zm_D_receiver.2.1 2 = .ok (.invokevirtual 59, 3) := by decide +kernel
theorem dz_D_receiver_5 : decode zm_D_receiver.2.1 5 = .ok (.ifCond .ne 6, 3) := by decide +kernel
theorem dz_D_receiver_8 : decode zm_D_receiver.2.1 8 = .ok (.bipush (-4), 2) := by decide +kernel
theorem dz_D_receiver_10 : decode zm_D_receiver.2.1 10 = .ok (.ireturn, 1) := by decide +kernel
theorem dz_D_receiver_11 : decode zm_D_receiver.2.1 11 = .ok (.aload_n 0, 1) := by decide +kernel
theorem dz_D_receiver_12 : decode zm_D_receiver.2.1 12 = .ok (.getfield 39, 3) := by decide +kernel
theorem dz_D_receiver_15 : decode zm_D_receiver.2.1 15 = .ok (.iload_n 1, 1) := by decide +kernel
theorem dz_D_receiver_16 : decode zm_D_receiver.2.1 16 = .ok (.iaload, 1) := by decide +kernel
theorem dz_D_receiver_17 : decode zm_D_receiver.2.1 17 = .ok (.iconst 1, 1) := by decide +kernel
theorem dz_D_receiver_18 : decode zm_D_receiver.2.1 18 = .ok (.if_icmp .ne 7, 3) := by decide +kernel
theorem dz_D_receiver_21 : decode zm_D_receiver.2.1 21 = .ok (.iconst 3, 1) := by decide +kernel
theorem dz_D_receiver_22 : decode zm_D_receiver.2.1 22 = .ok (.goto 4, 3) := by decide +kernel
theorem dz_D_receiver_25 : decode zm_D_receiver.2.1 25 = .ok (.iconst 1, 1) := by decide +kernel
theorem dz_D_receiver_26 : decode zm_D_receiver.2.1 26 = .ok (.istore_n 3, 1) := by decide +kernel
theorem dz_D_receiver_27 : decode zm_D_receiver.2.1 27 = .ok (.iconst 0, 1) := by decide +kernel
theorem dz_D_receiver_28 : decode zm_D_receiver.2.1 28 = .ok (.istore 4, 2) := by decide +kernel
theorem dz_D_receiver_30 : decode zm_D_receiver.2.1 30 = .ok (.iload 4, 2) := by decide +kernel
theorem dz_D_receiver_32 : decode zm_D_receiver.2.1 32 = .ok (.aload_n 0, 1) := by decide +kernel
theorem dz_D_receiver_33 : decode zm_D_receiver.2.1 33 = .ok (.getfield 45, 3) := by decide +kernel
theorem dz_D_receiver_36 : decode zm_D_receiver.2.1 36 = .ok (.if_icmp .ge 56, 3) := by decide +kernel
theorem dz_D_receiver_39 : decode zm_D_receiver.2.1 39 = .ok (.aload_n 0, 1) := by decide +kernel
theorem dz_D_receiver_40 : decode zm_D_receiver.2.1 40 = .ok (.getfield 39, 3) := by decide +kernel
theorem dz_D_receiver_43 : decode zm_D_receiver.2.1 43 = .ok (.iload_n 1, 1) := by decide +kernel
theorem dz_D_receiver_44 : decode zm_D_receiver.2.1 44 = .ok (.iaload, 1) := by decide +kernel
theorem dz_D_receiver_45 : decode zm_D_receiver.2.1 45 = .ok (.iconst 2, 1) := by decide +kernel
theorem dz_D_receiver_46 : decode zm_D_receiver.2.1 46 = .ok (.if_icmp .ne 15, 3) := by decide +kernel
theorem dz_D_receiver_49 : decode zm_D_receiver.2.1 49 = .ok (.aload_n 0, 1) := by decide +kernel
theorem dz_D_receiver_50 : decode zm_D_receiver.2.1 50 = .ok (.getfield 45, 3) := by decide +kernel
theorem dz_D_receiver_53 : decode zm_D_receiver.2.1 53 = .ok (.iconst 1, 1) := by decide +kernel
theorem dz_D_receiver_54 : decode zm_D_receiver.2.1 54 = .ok (.isub, 1) := by decide +kernel
theorem dz_D_receiver_55 : decode zm_D_receiver.2.1 55 = .ok (.iload 4, 2) := by decide +kernel
theorem dz_D_receiver_57 : decode zm_D_receiver.2.1 57 = .ok (.isub, 1) := by decide +kernel
theorem dz_D_receiver_58 : decode zm_D_receiver.2.1 58 = .ok (.goto 5, 3) := by decide +kernel
theorem dz_D_receiver_61 : decode zm_D_receiver.2.1 61 = .ok (.iload 4, 2) := by decide +kernel
theorem dz_D_receiver_63 : decode zm_D_receiver.2.1 63 = .ok (.istore 5, 2) := by decide +kernel
theorem dz_D_receiver_65 : decode zm_D_receiver.2.1 65 = .ok (.aload_n 0, 1) := by decide +kernel
theorem dz_D_receiver_66 : decode zm_D_receiver.2.1 66 = .ok (.iload 5, 2) := by decide +kernel
theorem dz_D_receiver_68 : decode zm_D_receiver.2.1 68 = .ok (.iload_n 1, 1) := by decide +kernel
theorem dz_D_receiver_69 : decode zm_D_receiver.2.1 69 = .ok (.iload_n 2, 1) := by decide +kernel
theorem dz_D_receiver_70 : decode zm_D_receiver.2.1 70 = .ok (.invokevirtual 69, 3) := by decide +kernel
theorem dz_D_receiver_73 : decode zm_D_receiver.2.1 73 = .ok (.ifCond .eq 13, 3) := by decide +kernel
theorem dz_D_receiver_76 : decode zm_D_receiver.2.1 76 = .ok (.iinc 3 (-1), 3) := by decide +kernel
theorem dz_D_receiver_79 : decode zm_D_receiver.2.1 79 = .ok (.iload_n 3, 1) := by decide +kernel
theorem dz_D_receiver_80 : decode zm_D_receiver.2.1 80 = .ok (.ifCond .ne 6, 3) := by decide +kernel
theorem dz_D_receiver_83 : decode zm_D_receiver.2.1 83 = .ok (.iload 5, 2) := by decide +kernel
theorem dz_D_receiver_85 : decode zm_D_receiver.2.1 85 = .ok (.ireturn, 1) := by decide +kernel
theorem dz_D_receiver_86 : decode zm_D_receiver.2.1 86 = .ok (.iinc 4 1, 3) := by decide +kernel
theorem dz_D_receiver_89 : decode zm_D_receiver.2.1 89 = .ok (.goto (-59), 3) := by decide +kernel
theorem dz_D_receiver_92 : decode zm_D_receiver.2.1 92 = .ok (.bipush (-4), 2) := by decide +kernel
theorem dz_D_receiver_94 : decode zm_D_receiver.2.1 94 = .ok (.ireturn, 1) := by decide +kernel
theorem dz_D_rightOn_0 : decode zm_D_rightOn.2.1 0 = .ok (.bipush (-4), 2) := by decide +kernel
theorem dz_D_rightOn_2 : decode zm_D_rightOn.2.1 2 = .ok (.istore 4, 2) := by decide +kernel
theorem dz_D_rightOn_4 : decode zm_D_rightOn.2.1 4 = .ok (.iconst 0, 1) := by decide +kernel
theorem dz_D_rightOn_5 : decode zm_D_rightOn.2.1 5 = .ok (.istore 5, 2) := by decide +kernel
theorem dz_D_rightOn_7 : decode zm_D_rightOn.2.1 7 = .ok (.iload 5, 2) := by decide +kernel
theorem dz_D_rightOn_9 : decode zm_D_rightOn.2.1 9 = .ok (.aload_n 0, 1) := by decide +kernel
theorem dz_D_rightOn_10 : decode zm_D_rightOn.2.1 10 = .ok (.getfield 52, 3) := by decide +kernel
theorem dz_D_rightOn_13 : decode zm_D_rightOn.2.1 13 = .ok (.if_icmp .ge 84, 3) := by decide +kernel
theorem dz_D_rightOn_16 : decode zm_D_rightOn.2.1 16 = .ok (.iload_n 3, 1) := by decide +kernel
theorem dz_D_rightOn_17 : decode zm_D_rightOn.2.1 17 = .ok (.iload 5, 2) := by decide +kernel
theorem dz_D_rightOn_19 : decode zm_D_rightOn.2.1 19 = .ok (.ishr, 1) := by decide +kernel
theorem dz_D_rightOn_20 : decode zm_D_rightOn.2.1 20 = .ok (.iconst 1, 1) := by decide +kernel
theorem dz_D_rightOn_21 : decode zm_D_rightOn.2.1 21 = .ok (.iand, 1) := by decide +kernel
theorem dz_D_rightOn_22 : decode zm_D_rightOn.2.1 22 = .ok (.ifCond .eq 69, 3) := by decide +kernel
theorem dz_D_rightOn_25 : decode zm_D_rightOn.2.1 25 = .ok (.aload_n 0, 1) := by decide +kernel
theorem dz_D_rightOn_26 : decode zm_D_rightOn.2.1 26 = .ok (.getfield 30, 3) := by decide +kernel
theorem dz_D_rightOn_29 : decode zm_D_rightOn.2.1 29 = .ok (.iload 5, 2) := by decide +kernel
theorem dz_D_rightOn_31 : decode zm_D_rightOn.2.1 31 = .ok (.iaload, 1) := by decide +kernel
theorem dz_D_rightOn_32 : decode zm_D_rightOn.2.1 32 = .ok (.iload_n 1, 1) := by decide +kernel
theorem dz_D_rightOn_33 : decode zm_D_rightOn.2.1 33 = .ok (.if_icmp .eq 6, 3) := by decide +kernel
theorem dz_D_rightOn_36 : decode zm_D_rightOn.2.1 36 = .ok (.goto 55, 3) := by decide +kernel
theorem dz_D_rightOn_39 : decode zm_D_rightOn.2.1 39 = .ok (.iload 4, 2) := by decide +kernel
theorem dz_D_rightOn_41 : decode zm_D_rightOn.2.1 41 = .ok (.bipush (-4), 2) := by decide +kernel
theorem dz_D_rightOn_43 : decode zm_D_rightOn.2.1 43 = .ok (.if_icmp .eq 20, 3) := by decide +kernel
theorem dz_D_rightOn_46 : decode zm_D_rightOn.2.1 46 = .ok (.aload_n 0, 1) := by decide +kernel
theorem dz_D_rightOn_47 : decode zm_D_rightOn.2.1 47 = .ok (.getfield 27, 3) := by decide +kernel
theorem dz_D_rightOn_50 : decode zm_D_rightOn.2.1 50 = .ok (.iload 5, 2) := by decide +kernel
theorem dz_D_rightOn_52 : decode zm_D_rightOn.2.1 52 = .ok (.iaload, 1) := by decide +kernel
theorem dz_D_rightOn_53 : decode zm_D_rightOn.2.1 53 = .ok (.aload_n 0, 1) := by decide +kernel
theorem dz_D_rightOn_54 : decode zm_D_rightOn.2.1 54 = .ok (.getfield 27, 3) := by decide +kernel
theorem dz_D_rightOn_57 : decode zm_D_rightOn.2.1 57 = .ok (.iload 4, 2) := by decide +kernel
theorem dz_D_rightOn_59 : decode zm_D_rightOn.2.1 59 = .ok (.iaload, 1) := by decide +kernel
theorem dz_D_rightOn_60 : decode zm_D_rightOn.2.1 60 = .ok (.if_icmp .ge 7, 3) := by decide +kernel
theorem dz_D_rightOn_63 : decode zm_D_rightOn.2.1 63 = .ok (.iconst 1, 1) := by decide +kernel
theorem dz_D_rightOn_64 : decode zm_D_rightOn.2.1 64 = .ok (.goto 4, 3) := by decide +kernel
theorem dz_D_rightOn_67 : decode zm_D_rightOn.2.1 67 = .ok (.iconst 0, 1) := by decide +kernel
theorem dz_D_rightOn_68 : decode zm_D_rightOn.2.1 68 = .ok (.istore 6, 2) := by decide +kernel
theorem dz_D_rightOn_70 : decode zm_D_rightOn.2.1 70 = .ok (.iload 6, 2) := by decide +kernel
theorem dz_D_rightOn_72 : decode zm_D_rightOn.2.1 72 = .ok (.ifCond .eq 19, 3) := by decide +kernel
theorem dz_D_rightOn_75 : decode zm_D_rightOn.2.1 75 = .ok (.aload_n 0, 1) := by decide +kernel
theorem dz_D_rightOn_76 : decode zm_D_rightOn.2.1 76 = .ok (.iload 5, 2) := by decide +kernel
theorem dz_D_rightOn_78 : decode zm_D_rightOn.2.1 78 = .ok (.iload_n 2, 1) := by decide +kernel
theorem dz_D_rightOn_79 : decode zm_D_rightOn.2.1 79 = .ok (.invokevirtual 73, 3) := by decide +kernel
theorem dz_D_rightOn_82 : decode zm_D_rightOn.2.1 82 = .ok (.bipush (-4), 2) := by decide +kernel
theorem dz_D_rightOn_84 : decode zm_D_rightOn.2.1 84 = .ok (.if_icmp .eq 7, 3) := by decide +kernel
theorem dz_D_rightOn_87 : decode zm_D_rightOn.2.1 87 = .ok (.iload 5, 2) := by decide +kernel
theorem dz_D_rightOn_89 : decode zm_D_rightOn.2.1 89 = .ok (.istore 4, 2) := by decide +kernel
theorem dz_D_rightOn_91 : decode zm_D_rightOn.2.1 91 = .ok (.iinc 5 1, 3) := by decide +kernel
theorem dz_D_rightOn_94 : decode zm_D_rightOn.2.1 94 = .ok (.goto (-87), 3) := by decide +kernel
theorem dz_D_rightOn_97 : decode zm_D_rightOn.2.1 97 = .ok (.iload 4, 2) := by decide +kernel
theorem dz_D_rightOn_99 : decode zm_D_rightOn.2.1 99 = .ok (.ireturn, 1) := by decide +kernel
theorem dz_D_ownerIn_0 : decode zm_D_ownerIn.2.1 0 = .ok (.aload_n 0, 1) := by decide +kernel
theorem dz_D_ownerIn_1 : decode zm_D_ownerIn.2.1 1 = .ok (.aload_n 0, 1) := by decide +kernel
theorem dz_D_ownerIn_2 : decode zm_D_ownerIn.2.1 2 = .ok (.iload_n 1, 1) := by decide +kernel
theorem dz_D_ownerIn_3 : decode zm_D_ownerIn.2.1 3 = .ok (.iload_n 2, 1) := by decide +kernel
theorem dz_D_ownerIn_4 : decode zm_D_ownerIn.2.1 4 = .ok (.iload_n 3, 1) := by decide +kernel
theorem dz_D_ownerIn_5 : decode zm_D_ownerIn.2.1 5 = .ok (.invokevirtual 76, 3) := by decide +kernel
theorem dz_D_ownerIn_8 : decode zm_D_ownerIn.2.1 8 = .ok (.iload_n 2, 1) := by decide +kernel
theorem dz_D_ownerIn_9 : decode zm_D_ownerIn.2.1 9 = .ok (.invokevirtual 73, 3) := by decide +kernel
theorem dz_D_ownerIn_12 : decode zm_D_ownerIn.2.1 12 = .ok (.ireturn, 1) := by decide +kernel
theorem dz_D_ownerNow_0 : decode zm_D_ownerNow.2.1 0 = .ok (.aload_n 0, 1) := by decide +kernel
theorem dz_D_ownerNow_1 : decode zm_D_ownerNow.2.1 1 = .ok (.iload_n 1, 1) := by decide +kernel
theorem dz_D_ownerNow_2 : decode zm_D_ownerNow.2.1 2 = .ok (.aload_n 0, 1) := by decide +kernel
theorem dz_D_ownerNow_3 : decode zm_D_ownerNow.2.1 3 = .ok (.getfield 49, 3) := by decide +kernel
theorem dz_D_ownerNow_6 : decode zm_D_ownerNow.2.1 6 = .ok (.bipush 31, 2) := by decide +kernel
theorem dz_D_ownerNow_8 : decode zm_D_ownerNow.2.1 8 = .ok (.invokevirtual 80, 3) := by decide +kernel
theorem dz_D_ownerNow_11 : decode zm_D_ownerNow.2.1 11 = .ok (.ireturn, 1) := by decide +kernel
theorem dz_D_thingsOf_0 : decode zm_D_thingsOf.2.1 0 = .ok (.iconst 0, 1) := by decide +kernel
theorem dz_D_thingsOf_1 : decode zm_D_thingsOf.2.1 1 = .ok (.istore_n 2, 1) := by decide +kernel
theorem dz_D_thingsOf_2 : decode zm_D_thingsOf.2.1 2 = .ok (.iconst 0, 1) := by decide +kernel
theorem dz_D_thingsOf_3 : decode zm_D_thingsOf.2.1 3 = .ok (.istore_n 3, 1) := by decide +kernel
theorem dz_D_thingsOf_4 : decode zm_D_thingsOf.2.1 4 = .ok (.iload_n 3, 1) := by decide +kernel
theorem dz_D_thingsOf_5 : decode zm_D_thingsOf.2.1 5 = .ok (.iconst 4, 1) := by decide +kernel
theorem dz_D_thingsOf_6 : decode zm_D_thingsOf.2.1 6 = .ok (.if_icmp .ge 24, 3) := by decide +kernel
theorem dz_D_thingsOf_9 : decode zm_D_thingsOf.2.1 9 = .ok (.aload_n 0, 1) := by decide +kernel
theorem dz_D_thingsOf_10 : decode zm_D_thingsOf.2.1 10 = .ok (.iload_n 3, 1) := by decide +kernel
theorem dz_D_thingsOf_11 : decode zm_D_thingsOf.2.1 11 = .ok (.invokevirtual 83, 3) := by decide +kernel
theorem dz_D_thingsOf_14 : decode zm_D_thingsOf.2.1 14 = .ok (.iload_n 1, 1) := by decide +kernel
theorem dz_D_thingsOf_15 : decode zm_D_thingsOf.2.1 15 = .ok (.if_icmp .ne 9, 3) := by decide +kernel
theorem dz_D_thingsOf_18 : decode zm_D_thingsOf.2.1 18 = .ok (.iload_n 2, 1) := by decide +kernel
theorem dz_D_thingsOf_19 : decode zm_D_thingsOf.2.1 19 = .ok (.iconst 1, 1) := by decide +kernel
theorem dz_D_thingsOf_20 : decode zm_D_thingsOf.2.1 20 = .ok (.iload_n 3, 1) := by decide +kernel
theorem dz_D_thingsOf_21 : decode zm_D_thingsOf.2.1 21 = .ok (.ishl, 1) := by decide +kernel
theorem dz_D_thingsOf_22 : decode zm_D_thingsOf.2.1 22 = .ok (.ior, 1) := by decide +kernel
theorem dz_D_thingsOf_23 : decode zm_D_thingsOf.2.1 23 = .ok (.istore_n 2, 1) := by decide +kernel
theorem dz_D_thingsOf_24 : decode zm_D_thingsOf.2.1 24 = .ok (.iinc 3 1, 3) := by decide +kernel
theorem dz_D_thingsOf_27 : decode zm_D_thingsOf.2.1 27 = .ok (.goto (-23), 3) := by decide +kernel
theorem dz_D_thingsOf_30 : decode zm_D_thingsOf.2.1 30 = .ok (.iload_n 2, 1) := by decide +kernel
theorem dz_D_thingsOf_31 : decode zm_D_thingsOf.2.1 31 = .ok (.ireturn, 1) := by decide +kernel
theorem dz_D_givingRules_0 : decode zm_D_givingRules.2.1 0 = .ok (.iconst 0, 1) := by decide +kernel
theorem dz_D_givingRules_1 : decode zm_D_givingRules.2.1 1 = .ok (.istore_n 2, 1) := by decide +kernel
theorem dz_D_givingRules_2 : decode zm_D_givingRules.2.1 2 = .ok (.iconst 0, 1) := by decide +kernel
theorem dz_D_givingRules_3 : decode zm_D_givingRules.2.1 3 = .ok (.istore_n 3, 1) := by decide +kernel
theorem dz_D_givingRules_4 : decode zm_D_givingRules.2.1 4 = .ok (.iload_n 3, 1) := by decide +kernel
theorem dz_D_givingRules_5 : decode zm_D_givingRules.2.1 5 = .ok (.aload_n 0, 1) := by decide +kernel
theorem dz_D_givingRules_6 : decode zm_D_givingRules.2.1 6 = .ok (.getfield 52, 3) := by decide +kernel
theorem dz_D_givingRules_9 : decode zm_D_givingRules.2.1 9 = .ok (.if_icmp .ge 26, 3) := by decide +kernel
theorem dz_D_givingRules_12 : decode zm_D_givingRules.2.1 12 = .ok (.aload_n 0, 1) := by decide +kernel
theorem dz_D_givingRules_13 : decode zm_D_givingRules.2.1 13 = .ok (.iload_n 3, 1) := by decide +kernel
theorem dz_D_givingRules_14 : decode zm_D_givingRules.2.1 14 = .ok (.iload_n 1, 1) := by decide +kernel
theorem dz_D_givingRules_15 : decode zm_D_givingRules.2.1 15 = .ok (.invokevirtual 73, 3) := by decide +kernel
theorem dz_D_givingRules_18 : decode zm_D_givingRules.2.1 18 = .ok (.bipush (-4), 2) := by decide +kernel
theorem dz_D_givingRules_20 : decode zm_D_givingRules.2.1 20 = .ok (.if_icmp .eq 9, 3) := by decide +kernel
theorem dz_D_givingRules_23 : decode zm_D_givingRules.2.1 23 = .ok (.iload_n 2, 1) := by decide +kernel
theorem dz_D_givingRules_24 : decode zm_D_givingRules.2.1 24 = .ok (.iconst 1, 1) := by decide +kernel
theorem dz_D_givingRules_25 : decode zm_D_givingRules.2.1 25 = .ok (.iload_n 3, 1) := by decide +kernel
theorem dz_D_givingRules_26 : decode zm_D_givingRules.2.1 26 = .ok (.ishl, 1) := by decide +kernel
theorem dz_D_givingRules_27 : decode zm_D_givingRules.2.1 27 = .ok (.ior, 1) := by decide +kernel
theorem dz_D_givingRules_28 : decode zm_D_givingRules.2.1 28 = .ok (.istore_n 2, 1) := by decide +kernel
theorem dz_D_givingRules_29 : decode zm_D_givingRules.2.1 29 = .ok (.iinc 3 1, 3) := by decide +kernel
theorem dz_D_givingRules_32 : decode zm_D_givingRules.2.1 32 = .ok (.goto (-28), 3) := by decide +kernel
theorem dz_D_givingRules_35 : decode zm_D_givingRules.2.1 35 = .ok (.iload_n 2, 1) := by decide +kernel
theorem dz_D_givingRules_36 : decode zm_D_givingRules.2.1 36 = .ok (.ireturn, 1) := by decide +kernel
theorem dz_D_act_0 : decode zm_D_act.2.1 0 = .ok (.iload_n 1, 1) := by decide +kernel
theorem dz_D_act_1 : decode zm_D_act.2.1 1 = .ok (.bipush 10, 2) := by decide +kernel
theorem dz_D_act_3 : decode zm_D_act.2.1 3 = .ok (.idiv, 1) := by decide +kernel
theorem dz_D_act_4 : decode zm_D_act.2.1 4 = .ok (.istore_n 2, 1) := by decide +kernel
theorem dz_D_act_5 : decode zm_D_act.2.1 5 = .ok (.iload_n 1, 1) := by decide +kernel
theorem dz_D_act_6 : decode zm_D_act.2.1 6 = .ok (.bipush 10, 2) := by decide +kernel
theorem dz_D_act_8 : decode zm_D_act.2.1 8 = .ok (.irem, 1) := by decide +kernel
theorem dz_D_act_9 : decode zm_D_act.2.1 9 = .ok (.istore_n 3, 1) := by decide +kernel
theorem dz_D_act_10 : decode zm_D_act.2.1 10 = .ok (.iload_n 1, 1) := by decide +kernel
theorem dz_D_act_11 : decode zm_D_act.2.1 11 = .ok (.ifCond .lt 17, 3) := by decide +kernel
theorem dz_D_act_14 : decode zm_D_act.2.1 14 = .ok (.aload_n 0, 1) := by decide +kernel
theorem dz_D_act_15 : decode zm_D_act.2.1 15 = .ok (.iload_n 2, 1) := by decide +kernel
theorem dz_D_act_16 : decode zm_D_act.2.1 16 = .ok (.invokevirtual 55, 3) := by decide +kernel
theorem dz_D_act_19 : decode zm_D_act.2.1 19 = .ok (.ifCond .eq 9, 3) := by decide +kernel
theorem dz_D_act_22 : decode zm_D_act.2.1 22 = .ok (.iload_n 3, 1) := by decide +kernel
theorem dz_D_act_23 : decode zm_D_act.2.1 23 = .ok (.bipush 7, 2) := by decide +kernel
theorem dz_D_act_25 : decode zm_D_act.2.1 25 = .ok (.if_icmp .lt 5, 3) := by decide +kernel
theorem dz_D_act_28 : decode zm_D_act.2.1 28 = .ok (.iconst (-1), 1) := by decide +kernel
theorem dz_D_act_29 : decode zm_D_act.2.1 29 = .ok (.ireturn, 1) := by decide +kernel
theorem dz_D_act_30 : decode zm_D_act.2.1 30 = .ok (.aload_n 0, 1) := by decide +kernel
theorem dz_D_act_31 : decode zm_D_act.2.1 31 = .ok (.iload_n 2, 1) := by decide +kernel
theorem dz_D_act_32 : decode zm_D_act.2.1 32 = .ok (.invokevirtual 87, 3) := by decide +kernel
theorem dz_D_act_35 : decode zm_D_act.2.1 35 = .ok (.ifCond .eq 6, 3) := by decide +kernel
theorem dz_D_act_38 : decode zm_D_act.2.1 38 = .ok (.bipush (-2), 2) := by decide +kernel
theorem dz_D_act_40 : decode zm_D_act.2.1 40 = .ok (.ireturn, 1) := by decide +kernel
theorem dz_D_act_41 : decode zm_D_act.2.1 41 = .ok (.iload_n 3, 1) := by decide +kernel
theorem dz_D_act_42 : decode zm_D_act.2.1 42 = .ok (.bipush 6, 2) := by decide +kernel
theorem dz_D_act_44 : decode zm_D_act.2.1 44 = .ok (.if_icmp .ne 22, 3) := by decide +kernel
theorem dz_D_act_47 : decode zm_D_act.2.1 47 = .ok (.aload_n 0, 1) := by decide +kernel
theorem dz_D_act_48 : decode zm_D_act.2.1 48 = .ok (.dup, 1) := by decide +kernel
theorem dz_D_act_49 : decode zm_D_act.2.1 49 = .ok (.getfield 49, 3) := by decide +kernel
theorem dz_D_act_52 : decode zm_D_act.2.1 52 = .ok (.iconst 1, 1) := by decide +kernel
theorem dz_D_act_53 : decode zm_D_act.2.1 53 = .ok (.iload_n 2, 1) := by decide +kernel
theorem dz_D_act_54 : decode zm_D_act.2.1 54 = .ok (.ishl, 1) := by decide +kernel
theorem dz_D_act_55 : decode zm_D_act.2.1 55 = .ok (.ior, 1) := by decide +kernel
theorem dz_D_act_56 : decode zm_D_act.2.1 56 = .ok (.putfield 49, 3) := by decide +kernel
theorem dz_D_act_59 : decode zm_D_act.2.1 59 = .ok (.aload_n 0, 1) := by decide +kernel
theorem dz_D_act_60 : decode zm_D_act.2.1 60 = .ok (.getfield 21, 3) := by decide +kernel
theorem dz_D_act_63 : decode zm_D_act.2.1 63 = .ok (.iload_n 2, 1) := by decide +kernel
theorem dz_D_act_64 : decode zm_D_act.2.1 64 = .ok (.iaload, 1) := by decide +kernel
theorem dz_D_act_65 : decode zm_D_act.2.1 65 = .ok (.ireturn, 1) := by decide +kernel
theorem dz_D_act_66 : decode zm_D_act.2.1 66 = .ok (.aload_n 0, 1) := by decide +kernel
theorem dz_D_act_67 : decode zm_D_act.2.1 67 = .ok (.getfield 21, 3) := by decide +kernel
theorem dz_D_act_70 : decode zm_D_act.2.1 70 = .ok (.iload_n 2, 1) := by decide +kernel
theorem dz_D_act_71 : decode zm_D_act.2.1 71 = .ok (.iaload, 1) := by decide +kernel
theorem dz_D_act_72 : decode zm_D_act.2.1 72 = .ok (.iconst 3, 1) := by decide +kernel
theorem dz_D_act_73 : decode zm_D_act.2.1 73 = .ok (.if_icmp .ge 19, 3) := by decide +kernel
theorem dz_D_act_76 : decode zm_D_act.2.1 76 = .ok (.iload_n 3, 1) := by decide +kernel
theorem dz_D_act_77 : decode zm_D_act.2.1 77 = .ok (.invokestatic 90, 3) := by decide +kernel
theorem dz_D_act_80 : decode zm_D_act.2.1 80 = .ok (.ifCond .eq 15, 3) := by decide +kernel
theorem dz_D_act_83 : decode zm_D_act.2.1 83 = .ok (.aload_n 0, 1) := by decide +kernel
theorem dz_D_act_84 : decode zm_D_act.2.1 84 = .ok (.iload_n 2, 1) := by decide +kernel
theorem dz_D_act_85 : decode zm_D_act.2.1 85 = .ok (.iload_n 3, 1) := by decide +kernel
theorem dz_D_act_86 : decode zm_D_act.2.1 86 = .ok (.invokevirtual 93, 3) := by decide +kernel
theorem dz_D_act_89 : decode zm_D_act.2.1 89 = .ok (.ifCond .eq 6, 3) := by decide +kernel
theorem dz_D_act_92 : decode zm_D_act.2.1 92 = .ok (.bipush (-2), 2) := by decide +kernel
theorem dz_D_act_94 : decode zm_D_act.2.1 94 = .ok (.ireturn, 1) := by decide +kernel
theorem dz_D_act_95 : decode zm_D_act.2.1 95 = .ok (.iload_n 3, 1) := by decide +kernel
theorem dz_D_act_96 : decode zm_D_act.2.1 96 = .ok (.invokestatic 90, 3) := by decide +kernel
theorem dz_D_act_99 : decode zm_D_act.2.1 99 = .ok (.ifCond .eq 15, 3) := by decide +kernel
theorem dz_D_act_102 : decode zm_D_act.2.1 102 = .ok (.aload_n 0, 1) := by decide +kernel
theorem dz_D_act_103 : decode zm_D_act.2.1 103 = .ok (.getfield 18, 3) := by decide +kernel
theorem dz_D_act_106 : decode zm_D_act.2.1 106 = .ok (.iload_n 2, 1) := by decide +kernel
theorem dz_D_act_107 : decode zm_D_act.2.1 107 = .ok (.dup2, 1) := by decide +kernel
theorem dz_D_act_108 : decode zm_D_act.2.1 108 = .ok (.iaload, 1) := by decide +kernel
theorem dz_D_act_109 : decode zm_D_act.2.1 109 = .ok (.iconst 1, 1) := by decide +kernel
theorem dz_D_act_110 : decode zm_D_act.2.1 110 = .ok (.iload_n 3, 1) := by decide +kernel
theorem dz_D_act_111 : decode zm_D_act.2.1 111 = .ok (.ishl, 1) := by decide +kernel
theorem dz_D_act_112 : decode zm_D_act.2.1 112 = .ok (.ior, 1) := by decide +kernel
theorem dz_D_act_113 : decode zm_D_act.2.1 113 = .ok (.iastore, 1) := by decide +kernel
theorem dz_D_act_114 : decode zm_D_act.2.1 114 = .ok (.aload_n 0, 1) := by decide +kernel
theorem dz_D_act_115 : decode zm_D_act.2.1 115 = .ok (.getfield 21, 3) := by decide +kernel
theorem dz_D_act_118 : decode zm_D_act.2.1 118 = .ok (.iload_n 2, 1) := by decide +kernel
theorem dz_D_act_119 : decode zm_D_act.2.1 119 = .ok (.dup2, 1) := by decide +kernel
theorem dz_D_act_120 : decode zm_D_act.2.1 120 = .ok (.iaload, 1) := by decide +kernel
theorem dz_D_act_121 : decode zm_D_act.2.1 121 = .ok (.iconst 1, 1) := by decide +kernel
theorem dz_D_act_122 : decode zm_D_act.2.1 122 = .ok (.iadd, 1) := by decide +kernel
theorem dz_D_act_123 : decode zm_D_act.2.1 123 = .ok (.iastore, 1) := by decide +kernel
theorem dz_D_act_124 : decode zm_D_act.2.1 124 = .ok (.aload_n 0, 1) := by decide +kernel
theorem dz_D_act_125 : decode zm_D_act.2.1 125 = .ok (.getfield 21, 3) := by decide +kernel
theorem dz_D_act_128 : decode zm_D_act.2.1 128 = .ok (.iload_n 2, 1) := by decide +kernel
theorem dz_D_act_129 : decode zm_D_act.2.1 129 = .ok (.iaload, 1) := by decide +kernel
theorem dz_D_act_130 : decode zm_D_act.2.1 130 = .ok (.ireturn, 1) := by decide +kernel
theorem dz_D_takeBack_0 : decode zm_D_takeBack.2.1 0 = .ok (.iload_n 1, 1) := by decide +kernel
theorem dz_D_takeBack_1 : decode zm_D_takeBack.2.1 1 = .ok (.bipush 10, 2) := by decide +kernel
theorem dz_D_takeBack_3 : decode zm_D_takeBack.2.1 3 = .ok (.idiv, 1) := by decide +kernel
theorem dz_D_takeBack_4 : decode zm_D_takeBack.2.1 4 = .ok (.istore_n 2, 1) := by decide +kernel
theorem dz_D_takeBack_5 : decode zm_D_takeBack.2.1 5 = .ok (.iload_n 1, 1) := by decide +kernel
theorem dz_D_takeBack_6 : decode zm_D_takeBack.2.1 6 = .ok (.bipush 10, 2) := by decide +kernel
theorem dz_D_takeBack_8 : decode zm_D_takeBack.2.1 8 = .ok (.irem, 1) := by decide +kernel
theorem dz_D_takeBack_9 : decode zm_D_takeBack.2.1 9 = .ok (.istore_n 3, 1) := by decide +kernel
theorem dz_D_takeBack_10 : decode zm_D_takeBack.2.1 10 = .ok (.aload_n 0, 1) := by decide +kernel
theorem dz_D_takeBack_11 : decode zm_D_takeBack.2.1 11 = .ok (.iload_n 2, 1) := by decide +kernel
theorem dz_D_takeBack_12 : decode zm_D_takeBack.2.1 12 = .ok (.invokevirtual 55, 3) := by decide +kernel
theorem dz_D_takeBack_15 : decode zm_D_takeBack.2.1 15 = .ok (.ifCond .ne 4, 3) := by decide +kernel
theorem dz_D_takeBack_18 : decode zm_D_takeBack.2.1 18 = .ok (.return_, 1) := by decide +kernel
theorem dz_D_takeBack_19 : decode zm_D_takeBack.2.1 19 = .ok (.iload_n 3, 1) := by decide +kernel
theorem dz_D_takeBack_20 : decode zm_D_takeBack.2.1 20 = .ok (.bipush 6, 2) := by decide +kernel
theorem dz_D_takeBack_22 : decode zm_D_takeBack.2.1 22 = .ok (.if_icmp .ne 18, 3) := by decide +kernel
theorem dz_D_takeBack_25 : decode zm_D_takeBack.2.1 25 = .ok (.aload_n 0, 1) := by decide +kernel
theorem dz_D_takeBack_26 : decode zm_D_takeBack.2.1 26 = .ok (.dup, 1) := by decide +kernel
theorem dz_D_takeBack_27 : decode zm_D_takeBack.2.1 27 = .ok (.getfield 49, 3) := by decide +kernel
theorem dz_D_takeBack_30 : decode zm_D_takeBack.2.1 30 = .ok (.iconst 1, 1) := by decide +kernel
theorem dz_D_takeBack_31 : decode zm_D_takeBack.2.1 31 = .ok (.iload_n 2, 1) := by decide +kernel
theorem dz_D_takeBack_32 : decode zm_D_takeBack.2.1 32 = .ok (.ishl, 1) := by decide +kernel
theorem dz_D_takeBack_33 : decode zm_D_takeBack.2.1 33 = .ok (.iconst (-1), 1) := by decide +kernel
theorem dz_D_takeBack_34 : decode zm_D_takeBack.2.1 34 = .ok (.ixor, 1) := by decide +kernel
theorem dz_D_takeBack_35 : decode zm_D_takeBack.2.1 35 = .ok (.iand, 1) := by decide +kernel
theorem dz_D_takeBack_36 : decode zm_D_takeBack.2.1 36 = .ok (.putfield 49, 3) := by decide +kernel
theorem dz_D_takeBack_39 : decode zm_D_takeBack.2.1 39 = .ok (.return_, 1) := by decide +kernel
theorem dz_D_takeBack_40 : decode zm_D_takeBack.2.1 40 = .ok (.iload_n 3, 1) := by decide +kernel
theorem dz_D_takeBack_41 : decode zm_D_takeBack.2.1 41 = .ok (.invokestatic 90, 3) := by decide +kernel
theorem dz_D_takeBack_44 : decode zm_D_takeBack.2.1 44 = .ok (.ifCond .eq 17, 3) := by decide +kernel
theorem dz_D_takeBack_47 : decode zm_D_takeBack.2.1 47 = .ok (.aload_n 0, 1) := by decide +kernel
theorem dz_D_takeBack_48 : decode zm_D_takeBack.2.1 48 = .ok (.getfield 18, 3) := by decide +kernel
theorem dz_D_takeBack_51 : decode zm_D_takeBack.2.1 51 = .ok (.iload_n 2, 1) := by decide +kernel
theorem dz_D_takeBack_52 : decode zm_D_takeBack.2.1 52 = .ok (.dup2, 1) := by decide +kernel
theorem dz_D_takeBack_53 : decode zm_D_takeBack.2.1 53 = .ok (.iaload, 1) := by decide +kernel
theorem dz_D_takeBack_54 : decode zm_D_takeBack.2.1 54 = .ok (.iconst 1, 1) := by decide +kernel
theorem dz_D_takeBack_55 : decode zm_D_takeBack.2.1 55 = .ok (.iload_n 3, 1) := by decide +kernel
theorem dz_D_takeBack_56 : decode zm_D_takeBack.2.1 56 = .ok (.ishl, 1) := by decide +kernel
theorem dz_D_takeBack_57 : decode zm_D_takeBack.2.1 57 = .ok (.iconst (-1), 1) := by decide +kernel
theorem dz_D_takeBack_58 : decode zm_D_takeBack.2.1 58 = .ok (.ixor, 1) := by decide +kernel
theorem dz_D_takeBack_59 : decode zm_D_takeBack.2.1 59 = .ok (.iand, 1) := by decide +kernel
theorem dz_D_takeBack_60 : decode zm_D_takeBack.2.1 60 = .ok (.iastore, 1) := by decide +kernel
theorem dz_D_takeBack_61 : decode zm_D_takeBack.2.1 61 = .ok (.aload_n 0, 1) := by decide +kernel
theorem dz_D_takeBack_62 : decode zm_D_takeBack.2.1 62 = .ok (.getfield 21, 3) := by decide +kernel
theorem dz_D_takeBack_65 : decode zm_D_takeBack.2.1 65 = .ok (.iload_n 2, 1) := by decide +kernel
theorem dz_D_takeBack_66 : decode zm_D_takeBack.2.1 66 = .ok (.dup2, 1) := by decide +kernel
theorem dz_D_takeBack_67 : decode zm_D_takeBack.2.1 67 = .ok (.iaload, 1) := by decide +kernel
theorem dz_D_takeBack_68 : decode zm_D_takeBack.2.1 68 = .ok (.iconst 1, 1) := by decide +kernel
theorem dz_D_takeBack_69 : decode zm_D_takeBack.2.1 69 = .ok (.isub, 1) := by decide +kernel
theorem dz_D_takeBack_70 : decode zm_D_takeBack.2.1 70 = .ok (.iastore, 1) := by decide +kernel
theorem dz_D_takeBack_71 : decode zm_D_takeBack.2.1 71 = .ok (.return_, 1) := by decide +kernel
theorem dz_D_hasEqualRanks_0 : decode zm_D_hasEqualRanks.2.1 0 = .ok (.iconst 0, 1) := by decide +kernel
theorem dz_D_hasEqualRanks_1 : decode zm_D_hasEqualRanks.2.1 1 = .ok (.istore_n 1, 1) := by decide +kernel
theorem dz_D_hasEqualRanks_2 : decode zm_D_hasEqualRanks.2.1 2 = .ok (.iload_n 1, 1) := by decide +kernel
theorem dz_D_hasEqualRanks_3 : decode zm_D_hasEqualRanks.2.1 3 = .ok (.aload_n 0, 1) := by decide +kernel
theorem dz_D_hasEqualRanks_4 : decode zm_D_hasEqualRanks.2.1 4 = .ok (.getfield 52, 3) := by decide +kernel
theorem dz_D_hasEqualRanks_7 : decode zm_D_hasEqualRanks.2.1 7 = .ok (.if_icmp .ge 54, 3) := by decide +kernel
theorem dz_D_hasEqualRanks_10 : decode zm_D_hasEqualRanks.2.1 10 = .ok (.iconst 0, 1) := by decide +kernel
theorem dz_D_hasEqualRanks_11 : decode zm_D_hasEqualRanks.2.1 11 = .ok (.istore_n 2, 1) := by decide +kernel
theorem dz_D_hasEqualRanks_12 : decode zm_D_hasEqualRanks.2.1 12 = .ok (.iload_n 2, 1) := by decide +kernel
theorem dz_D_hasEqualRanks_13 : decode zm_D_hasEqualRanks.2.1 13 = .ok (.iload_n 1, 1) := by decide +kernel
theorem dz_D_hasEqualRanks_14 : decode zm_D_hasEqualRanks.2.1 14 = .ok (.if_icmp .ge 41, 3) := by decide +kernel
theorem dz_D_hasEqualRanks_17 : decode zm_D_hasEqualRanks.2.1 17 = .ok (.aload_n 0, 1) := by decide +kernel
theorem dz_D_hasEqualRanks_18 : decode zm_D_hasEqualRanks.2.1 18 = .ok (.getfield 30, 3) := by decide +kernel
theorem dz_D_hasEqualRanks_21 : decode zm_D_hasEqualRanks.2.1 21 = .ok (.iload_n 2, 1) := by decide +kernel
theorem dz_D_hasEqualRanks_22 : decode zm_D_hasEqualRanks.2.1 22 = .ok (.iaload, 1) := by decide +kernel
theorem dz_D_hasEqualRanks_23 : decode zm_D_hasEqualRanks.2.1 23 = .ok (.aload_n 0, 1) := by decide +kernel
theorem dz_D_hasEqualRanks_24 : decode zm_D_hasEqualRanks.2.1 24 = .ok (.getfield 30, 3) := by decide +kernel
theorem dz_D_hasEqualRanks_27 : decode zm_D_hasEqualRanks.2.1 27 = .ok (.iload_n 1, 1) := by decide +kernel
theorem dz_D_hasEqualRanks_28 : decode zm_D_hasEqualRanks.2.1 28 = .ok (.iaload, 1) := by decide +kernel
theorem dz_D_hasEqualRanks_29 : decode zm_D_hasEqualRanks.2.1 29 = .ok (.if_icmp .ne 20, 3) := by decide +kernel
theorem dz_D_hasEqualRanks_32 : decode zm_D_hasEqualRanks.2.1 32 = .ok (.aload_n 0, 1) := by decide +kernel
theorem dz_D_hasEqualRanks_33 : decode zm_D_hasEqualRanks.2.1 33 = .ok (.getfield 27, 3) := by decide +kernel
theorem dz_D_hasEqualRanks_36 : decode zm_D_hasEqualRanks.2.1 36 = .ok (.iload_n 2, 1) := by decide +kernel
theorem dz_D_hasEqualRanks_37 : decode zm_D_hasEqualRanks.2.1 37 = .ok (.iaload, 1) := by decide +kernel
theorem dz_D_hasEqualRanks_38 : decode zm_D_hasEqualRanks.2.1 38 = .ok (.aload_n 0, 1) := by decide +kernel
theorem dz_D_hasEqualRanks_39 : decode zm_D_hasEqualRanks.2.1 39 = .ok (.getfield 27, 3) := by decide +kernel
theorem dz_D_hasEqualRanks_42 : decode zm_D_hasEqualRanks.2.1 42 = .ok (.iload_n 1, 1) := by decide +kernel
theorem dz_D_hasEqualRanks_43 : decode zm_D_hasEqualRanks.2.1 43 = .ok (.iaload, 1) := by decide +kernel
theorem dz_D_hasEqualRanks_44 : decode zm_D_hasEqualRanks.2.1 44 = .ok (.if_icmp .ne 5, 3) := by decide +kernel
theorem dz_D_hasEqualRanks_47 : decode zm_D_hasEqualRanks.2.1 47 = .ok (.iconst 1, 1) := by decide +kernel
theorem dz_D_hasEqualRanks_48 : decode zm_D_hasEqualRanks.2.1 48 = .ok (.ireturn, 1) := by decide +kernel
theorem dz_D_hasEqualRanks_49 : decode zm_D_hasEqualRanks.2.1 49 = .ok (.iinc 2 1, 3) := by decide +kernel
theorem dz_D_hasEqualRanks_52 : decode zm_D_hasEqualRanks.2.1 52 = .ok (.goto (-40), 3) := by decide +kernel
theorem dz_D_hasEqualRanks_55 : decode zm_D_hasEqualRanks.2.1 55 = .ok (.iinc 1 1, 3) := by decide +kernel
theorem dz_D_hasEqualRanks_58 : decode zm_D_hasEqualRanks.2.1 58 = .ok (.goto (-56), 3) := by decide +kernel
theorem dz_D_hasEqualRanks_61 : decode zm_D_hasEqualRanks.2.1 61 = .ok (.iconst 0, 1) := by decide +kernel
theorem dz_D_hasEqualRanks_62 : decode zm_D_hasEqualRanks.2.1 62 = .ok (.ireturn, 1) := by decide +kernel
theorem dz_D_ownedThings_0 : decode zm_D_ownedThings.2.1 0 = .ok (.iconst 0, 1) := by decide +kernel
theorem dz_D_ownedThings_1 : decode zm_D_ownedThings.2.1 1 = .ok (.istore_n 1, 1) := by decide +kernel
theorem dz_D_ownedThings_2 : decode zm_D_ownedThings.2.1 2 = .ok (.iconst 0, 1) := by decide +kernel
theorem dz_D_ownedThings_3 : decode zm_D_ownedThings.2.1 3 = .ok (.istore_n 2, 1) := by decide +kernel
theorem dz_D_ownedThings_4 : decode zm_D_ownedThings.2.1 4 = .ok (.iload_n 2, 1) := by decide +kernel
theorem dz_D_ownedThings_5 : decode zm_D_ownedThings.2.1 5 = .ok (.iconst 4, 1) := by decide +kernel
theorem dz_D_ownedThings_6 : decode zm_D_ownedThings.2.1 6 = .ok (.if_icmp .ge 22, 3) := by decide +kernel
theorem dz_D_ownedThings_9 : decode zm_D_ownedThings.2.1 9 = .ok (.aload_n 0, 1) := by decide +kernel
theorem dz_D_ownedThings_10 : decode zm_D_ownedThings.2.1 10 = .ok (.iload_n 2, 1) := by decide +kernel
theorem dz_D_ownedThings_11 : decode zm_D_ownedThings.2.1 11 = .ok (.invokevirtual 83, 3) := by decide +kernel
theorem dz_D_ownedThings_14 : decode zm_D_ownedThings.2.1 14 = .ok (.bipush (-4), 2) := by decide +kernel
theorem dz_D_ownedThings_16 : decode zm_D_ownedThings.2.1 16 = .ok (.if_icmp .eq 6, 3) := by decide +kernel
theorem dz_D_ownedThings_19 : decode zm_D_ownedThings.2.1 19 = .ok (.iinc 1 1, 3) := by decide +kernel
theorem dz_D_ownedThings_22 : decode zm_D_ownedThings.2.1 22 = .ok (.iinc 2 1, 3) := by decide +kernel
theorem dz_D_ownedThings_25 : decode zm_D_ownedThings.2.1 25 = .ok (.goto (-21), 3) := by decide +kernel
theorem dz_D_ownedThings_28 : decode zm_D_ownedThings.2.1 28 = .ok (.iload_n 1, 1) := by decide +kernel
theorem dz_D_ownedThings_29 : decode zm_D_ownedThings.2.1 29 = .ok (.ireturn, 1) := by decide +kernel
theorem dz_D_knownFacts_0 : decode zm_D_knownFacts.2.1 0 = .ok (.iconst 0, 1) := by decide +kernel
theorem dz_D_knownFacts_1 : decode zm_D_knownFacts.2.1 1 = .ok (.istore_n 1, 1) := by decide +kernel
theorem dz_D_knownFacts_2 : decode zm_D_knownFacts.2.1 2 = .ok (.iconst 0, 1) := by decide +kernel
theorem dz_D_knownFacts_3 : decode zm_D_knownFacts.2.1 3 = .ok (.istore_n 2, 1) := by decide +kernel
theorem dz_D_knownFacts_4 : decode zm_D_knownFacts.2.1 4 = .ok (.iload_n 2, 1) := by decide +kernel
theorem dz_D_knownFacts_5 : decode zm_D_knownFacts.2.1 5 = .ok (.aload_n 0, 1) := by decide +kernel
theorem dz_D_knownFacts_6 : decode zm_D_knownFacts.2.1 6 = .ok (.getfield 45, 3) := by decide +kernel
theorem dz_D_knownFacts_9 : decode zm_D_knownFacts.2.1 9 = .ok (.if_icmp .ge 21, 3) := by decide +kernel
theorem dz_D_knownFacts_12 : decode zm_D_knownFacts.2.1 12 = .ok (.iload_n 1, 1) := by decide +kernel
theorem dz_D_knownFacts_13 : decode zm_D_knownFacts.2.1 13 = .ok (.aload_n 0, 1) := by decide +kernel
theorem dz_D_knownFacts_14 : decode zm_D_knownFacts.2.1 14 = .ok (.getfield 18, 3) := by decide +kernel
theorem dz_D_knownFacts_17 : decode zm_D_knownFacts.2.1 17 = .ok (.iload_n 2, 1) := by decide +kernel
theorem dz_D_knownFacts_18 : decode zm_D_knownFacts.2.1 18 = .ok (.iaload, 1) := by decide +kernel
theorem dz_D_knownFacts_19 : decode zm_D_knownFacts.2.1 19 = .ok (.invokestatic 97, 3) := by decide +kernel
theorem dz_D_knownFacts_22 : decode zm_D_knownFacts.2.1 22 = .ok (.iadd, 1) := by decide +kernel
theorem dz_D_knownFacts_23 : decode zm_D_knownFacts.2.1 23 = .ok (.istore_n 1, 1) := by decide +kernel
theorem dz_D_knownFacts_24 : decode zm_D_knownFacts.2.1 24 = .ok (.iinc 2 1, 3) := by decide +kernel
theorem dz_D_knownFacts_27 : decode zm_D_knownFacts.2.1 27 = .ok (.goto (-23), 3) := by decide +kernel
theorem dz_D_knownFacts_30 : decode zm_D_knownFacts.2.1 30 = .ok (.iload_n 1, 1) := by decide +kernel
theorem dz_D_knownFacts_31 : decode zm_D_knownFacts.2.1 31 = .ok (.ireturn, 1) := by decide +kernel
theorem dz_D_allTries_0 : decode zm_D_allTries.2.1 0 = .ok (.iconst 0, 1) := by decide +kernel
theorem dz_D_allTries_1 : decode zm_D_allTries.2.1 1 = .ok (.istore_n 1, 1) := by decide +kernel
theorem dz_D_allTries_2 : decode zm_D_allTries.2.1 2 = .ok (.iconst 0, 1) := by decide +kernel
theorem dz_D_allTries_3 : decode zm_D_allTries.2.1 3 = .ok (.istore_n 2, 1) := by decide +kernel
theorem dz_D_allTries_4 : decode zm_D_allTries.2.1 4 = .ok (.iload_n 2, 1) := by decide +kernel
theorem dz_D_allTries_5 : decode zm_D_allTries.2.1 5 = .ok (.aload_n 0, 1) := by decide +kernel
theorem dz_D_allTries_6 : decode zm_D_allTries.2.1 6 = .ok (.getfield 45, 3) := by decide +kernel
theorem dz_D_allTries_9 : decode zm_D_allTries.2.1 9 = .ok (.if_icmp .ge 18, 3) := by decide +kernel
theorem dz_D_allTries_12 : decode zm_D_allTries.2.1 12 = .ok (.iload_n 1, 1) := by decide +kernel
theorem dz_D_allTries_13 : decode zm_D_allTries.2.1 13 = .ok (.aload_n 0, 1) := by decide +kernel
theorem dz_D_allTries_14 : decode zm_D_allTries.2.1 14 = .ok (.getfield 21, 3) := by decide +kernel
theorem dz_D_allTries_17 : decode zm_D_allTries.2.1 17 = .ok (.iload_n 2, 1) := by decide +kernel
theorem dz_D_allTries_18 : decode zm_D_allTries.2.1 18 = .ok (.iaload, 1) := by decide +kernel
theorem dz_D_allTries_19 : decode zm_D_allTries.2.1 19 = .ok (.iadd, 1) := by decide +kernel
theorem dz_D_allTries_20 : decode zm_D_allTries.2.1 20 = .ok (.istore_n 1, 1) := by decide +kernel
theorem dz_D_allTries_21 : decode zm_D_allTries.2.1 21 = .ok (.iinc 2 1, 3) := by decide +kernel
theorem dz_D_allTries_24 : decode zm_D_allTries.2.1 24 = .ok (.goto (-20), 3) := by decide +kernel
theorem dz_D_allTries_27 : decode zm_D_allTries.2.1 27 = .ok (.iload_n 1, 1) := by decide +kernel
theorem dz_D_allTries_28 : decode zm_D_allTries.2.1 28 = .ok (.ireturn, 1) := by decide +kernel
theorem dz_H_isSheet_0 : decode zm_H_isSheet.2.1 0 = .ok (.iload_n 1, 1) := by decide +kernel
theorem dz_H_isSheet_1 : decode zm_H_isSheet.2.1 1 = .ok (.ifCond .lt 12, 3) := by decide +kernel
theorem dz_H_isSheet_4 : decode zm_H_isSheet.2.1 4 = .ok (.iload_n 1, 1) := by decide +kernel
theorem dz_H_isSheet_5 : decode zm_H_isSheet.2.1 5 = .ok (.iconst 4, 1) := by decide +kernel
theorem dz_H_isSheet_6 : decode zm_H_isSheet.2.1 6 = .ok (.if_icmp .ge 7, 3) := by decide +kernel
theorem dz_H_isSheet_9 : decode zm_H_isSheet.2.1 9 = .ok (.iconst 1, 1) := by decide +kernel
theorem dz_H_isSheet_10 : decode zm_H_isSheet.2.1 10 = .ok (.goto 4, 3) := by decide +kernel
theorem dz_H_isSheet_13 : decode zm_H_isSheet.2.1 13 = .ok (.iconst 0, 1) := by decide +kernel
theorem dz_H_isSheet_14 : decode zm_H_isSheet.2.1 14 = .ok (.ireturn, 1) := by decide +kernel
theorem dz_H_isLane_0 : decode zm_H_isLane.2.1 0 = .ok (.iload_n 1, 1) := by decide +kernel
theorem dz_H_isLane_1 : decode zm_H_isLane.2.1 1 = .ok (.ifCond .lt 12, 3) := by decide +kernel
theorem dz_H_isLane_4 : decode zm_H_isLane.2.1 4 = .ok (.iload_n 1, 1) := by decide +kernel
theorem dz_H_isLane_5 : decode zm_H_isLane.2.1 5 = .ok (.iconst 2, 1) := by decide +kernel
theorem dz_H_isLane_6 : decode zm_H_isLane.2.1 6 = .ok (.if_icmp .gt 7, 3) := by decide +kernel
theorem dz_H_isLane_9 : decode zm_H_isLane.2.1 9 = .ok (.iconst 1, 1) := by decide +kernel
theorem dz_H_isLane_10 : decode zm_H_isLane.2.1 10 = .ok (.goto 4, 3) := by decide +kernel
theorem dz_H_isLane_13 : decode zm_H_isLane.2.1 13 = .ok (.iconst 0, 1) := by decide +kernel
theorem dz_H_isLane_14 : decode zm_H_isLane.2.1 14 = .ok (.ireturn, 1) := by decide +kernel
theorem dz_H_laneOf_0 : decode zm_H_laneOf.2.1 0 = .ok (.aload_n 0, 1) := by decide +kernel
theorem dz_H_laneOf_1 : decode zm_H_laneOf.2.1 1 = .ok (.iload_n 1, 1) := by decide +kernel
theorem dz_H_laneOf_2 : decode zm_H_laneOf.2.1 2 = .ok (.invokevirtual 23, 3) := by decide +kernel
theorem dz_H_laneOf_5 : decode zm_H_laneOf.2.1 5 = .ok (.ifCond .eq 12, 3) := by decide +kernel
theorem dz_H_laneOf_8 : decode zm_H_laneOf.2.1 8 = .ok (.aload_n 0, 1) := by decide +kernel
theorem dz_H_laneOf_9 : decode zm_H_laneOf.2.1 9 = .ok (.getfield 16, 3) := by decide +kernel
theorem dz_H_laneOf_12 : decode zm_H_laneOf.2.1 12 = .ok (.iload_n 1, 1) := by decide +kernel
theorem dz_H_laneOf_13 : decode zm_H_laneOf.2.1 13 = .ok (.iaload, 1) := by decide +kernel
theorem dz_H_laneOf_14 : decode zm_H_laneOf.2.1 14 = .ok (.goto 5, 3) := by decide +kernel
theorem dz_H_laneOf_17 : decode zm_H_laneOf.2.1 17 = .ok (.bipush (-4), 2) := by decide +kernel
theorem dz_H_laneOf_19 : decode zm_H_laneOf.2.1 19 = .ok (.ireturn, 1) := by decide +kernel
theorem dz_H_sizeOf_0 : decode zm_H_sizeOf.2.1 0 = .ok (.aload_n 0, 1) := by decide +kernel
theorem dz_H_sizeOf_1 : decode zm_H_sizeOf.2.1 1 = .ok (.iload_n 1, 1) := by decide +kernel
theorem dz_H_sizeOf_2 : decode zm_H_sizeOf.2.1 2 = .ok (.invokevirtual 27, 3) := by decide +kernel
theorem dz_H_sizeOf_5 : decode zm_H_sizeOf.2.1 5 = .ok (.bipush (-4), 2) := by decide +kernel
theorem dz_H_sizeOf_7 : decode zm_H_sizeOf.2.1 7 = .ok (.if_icmp .ne 8, 3) := by decide +kernel
theorem dz_H_sizeOf_10 : decode zm_H_sizeOf.2.1 10 = .ok (.bipush (-4), 2) := by decide +kernel
theorem dz_H_sizeOf_12 : decode zm_H_sizeOf.2.1 12 = .ok (.goto 9, 3) := by decide +kernel
theorem dz_H_sizeOf_15 : decode zm_H_sizeOf.2.1 15 = .ok (.aload_n 0, 1) := by decide +kernel
theorem dz_H_sizeOf_16 : decode zm_H_sizeOf.2.1 16 = .ok (.getfield 20, 3) := by decide +kernel
theorem dz_H_sizeOf_19 : decode zm_H_sizeOf.2.1 19 = .ok (.iload_n 1, 1) := by decide +kernel
theorem dz_H_sizeOf_20 : decode zm_H_sizeOf.2.1 20 = .ok (.iaload, 1) := by decide +kernel
theorem dz_H_sizeOf_21 : decode zm_H_sizeOf.2.1 21 = .ok (.ireturn, 1) := by decide +kernel
theorem dz_H_renew_0 : decode zm_H_renew.2.1 0 = .ok (.aload_n 0, 1) := by decide +kernel
theorem dz_H_renew_1 : decode zm_H_renew.2.1 1 = .ok (.iload_n 1, 1) := by decide +kernel
theorem dz_H_renew_2 : decode zm_H_renew.2.1 2 = .ok (.invokevirtual 23, 3) := by decide +kernel
theorem dz_H_renew_5 : decode zm_H_renew.2.1 5 = .ok (.ifCond .ne 4, 3) := by decide +kernel
theorem dz_H_renew_8 : decode zm_H_renew.2.1 8 = .ok (.return_, 1) := by decide +kernel
theorem dz_H_renew_9 : decode zm_H_renew.2.1 9 = .ok (.aload_n 0, 1) := by decide +kernel
theorem dz_H_renew_10 : decode zm_H_renew.2.1 10 = .ok (.getfield 16, 3) := by decide +kernel
theorem dz_H_renew_13 : decode zm_H_renew.2.1 13 = .ok (.iload_n 1, 1) := by decide +kernel
theorem dz_H_renew_14 : decode zm_H_renew.2.1 14 = .ok (.iload_n 2, 1) := by decide +kernel
theorem dz_H_renew_15 : decode zm_H_renew.2.1 15 = .ok (.iastore, 1) := by decide +kernel
theorem dz_H_renew_16 : decode zm_H_renew.2.1 16 = .ok (.aload_n 0, 1) := by decide +kernel
theorem dz_H_renew_17 : decode zm_H_renew.2.1 17 = .ok (.getfield 20, 3) := by decide +kernel
theorem dz_H_renew_20 : decode zm_H_renew.2.1 20 = .ok (.iload_n 1, 1) := by decide +kernel
theorem dz_H_renew_21 : decode zm_H_renew.2.1 21 = .ok (.iload_n 3, 1) := by decide +kernel
theorem dz_H_renew_22 : decode zm_H_renew.2.1 22 = .ok (.iastore, 1) := by decide +kernel
theorem dz_H_renew_23 : decode zm_H_renew.2.1 23 = .ok (.iconst 0, 1) := by decide +kernel
theorem dz_H_renew_24 : decode zm_H_renew.2.1 24 = .ok (.istore 4, 2) := by decide +kernel
theorem dz_H_renew_26 : decode zm_H_renew.2.1 26 = .ok (.iload 4, 2) := by decide +kernel
theorem dz_H_renew_28 : decode zm_H_renew.2.1 28 = .ok (.bipush 40, 2) := by decide +kernel
theorem dz_H_renew_30 : decode zm_H_renew.2.1 30 = .ok (.if_icmp .ge 19, 3) := by decide +kernel
theorem dz_H_renew_33 : decode zm_H_renew.2.1 33 = .ok (.aload_n 0, 1) := by decide +kernel
theorem dz_H_renew_34 : decode zm_H_renew.2.1 34 = .ok (.getfield 13, 3) := by decide +kernel
theorem dz_H_renew_37 : decode zm_H_renew.2.1 37 = .ok (.iload_n 1, 1) := by decide +kernel
theorem dz_H_renew_38 : decode zm_H_renew.2.1 38 = .ok (.aaload, 1) := by decide +kernel
theorem dz_H_renew_39 : decode zm_H_renew.2.1 39 = .ok (.iload 4, 2) := by decide +kernel
theorem dz_H_renew_41 : decode zm_H_renew.2.1 41 = .ok (.iconst 0, 1) := by decide +kernel
theorem dz_H_renew_42 : decode zm_H_renew.2.1 42 = .ok (.iastore, 1) := by decide +kernel
theorem dz_H_renew_43 : decode zm_H_renew.2.1 43 = .ok (.iinc 4 1, 3) := by decide +kernel
theorem dz_H_renew_46 : decode zm_H_renew.2.1 46 = .ok (.goto (-20), 3) := by decide +kernel
theorem dz_H_renew_49 : decode zm_H_renew.2.1 49 = .ok (.return_, 1) := by decide +kernel
theorem dz_H_faultAt_0 : decode zm_H_faultAt.2.1 0 = .ok (.aload_n 0, 1) := by decide +kernel
theorem dz_H_faultAt_1 : decode zm_H_faultAt.2.1 1 = .ok (.iload_n 1, 1) := by decide +kernel
theorem dz_H_faultAt_2 : decode zm_H_faultAt.2.1 2 = .ok (.invokevirtual 27, 3) := by decide +kernel
theorem dz_H_faultAt_5 : decode zm_H_faultAt.2.1 5 = .ok (.bipush (-4), 2) := by decide +kernel
theorem dz_H_faultAt_7 : decode zm_H_faultAt.2.1 7 = .ok (.if_icmp .ne 5, 3) := by decide +kernel
theorem dz_H_faultAt_10 : decode zm_H_faultAt.2.1 10 = .ok (.iconst 1, 1) := by decide +kernel
theorem dz_H_faultAt_11 : decode zm_H_faultAt.2.1 11 = .ok (.ireturn, 1) := by decide +kernel
theorem dz_H_faultAt_12 : decode zm_H_faultAt.2.1 12 = .ok (.aload_n 0, 1) := by decide +kernel
theorem dz_H_faultAt_13 : decode zm_H_faultAt.2.1 13 = .ok (.iload_n 1, 1) := by decide +kernel
theorem dz_H_faultAt_14 : decode zm_H_faultAt.2.1 14 = .ok (.invokevirtual 27, 3) := by decide +kernel
theorem dz_H_faultAt_17 : decode zm_H_faultAt.2.1 17 = .ok (.iload_n 2, 1) := by decide +kernel
theorem dz_H_faultAt_18 : decode zm_H_faultAt.2.1 18 = .ok (.if_icmp .eq 5, 3) := by decide +kernel
theorem dz_H_faultAt_21 : decode zm_H_faultAt.2.1 21 = .ok (.iconst 3, 1) := by decide +kernel
theorem dz_H_faultAt_22 : decode zm_H_faultAt.2.1 22 = .ok (.ireturn, 1) := by decide +kernel
theorem dz_H_faultAt_23 : decode zm_H_faultAt.2.1 23 = .ok (.aload_n 0, 1) := by decide +kernel
theorem dz_H_faultAt_24 : decode zm_H_faultAt.2.1 24 = .ok (.iload_n 1, 1) := by decide +kernel
theorem dz_H_faultAt_25 : decode zm_H_faultAt.2.1 25 = .ok (.iload_n 3, 1) := by decide +kernel
theorem dz_H_faultAt_26 : decode zm_H_faultAt.2.1 26 = .ok (.invokevirtual 31, 3) := by decide +kernel
theorem dz_H_faultAt_29 : decode zm_H_faultAt.2.1 29 = .ok (.ifCond .eq 7, 3) := by decide +kernel
theorem dz_H_faultAt_32 : decode zm_H_faultAt.2.1 32 = .ok (.iconst 0, 1) := by decide +kernel
theorem dz_H_faultAt_33 : decode zm_H_faultAt.2.1 33 = .ok (.goto 4, 3) := by decide +kernel
theorem dz_H_faultAt_36 : decode zm_H_faultAt.2.1 36 = .ok (.iconst 2, 1) := by decide +kernel
theorem dz_H_faultAt_37 : decode zm_H_faultAt.2.1 37 = .ok (.ireturn, 1) := by decide +kernel
theorem dz_H_put_0 : decode zm_H_put.2.1 0 = .ok (.aload_n 0, 1) := by decide +kernel
theorem dz_H_put_1 : decode zm_H_put.2.1 1 = .ok (.iload_n 1, 1) := by decide +kernel
theorem dz_H_put_2 : decode zm_H_put.2.1 2 = .ok (.iload_n 2, 1) := by decide +kernel
theorem dz_H_put_3 : decode zm_H_put.2.1 3 = .ok (.invokevirtual 31, 3) := by decide +kernel
theorem dz_H_put_6 : decode zm_H_put.2.1 6 = .ok (.ifCond .ne 4, 3) := by decide +kernel
theorem dz_H_put_9 : decode zm_H_put.2.1 9 = .ok (.return_, 1) := by decide +kernel
theorem dz_H_put_10 : decode zm_H_put.2.1 10 = .ok (.aload_n 0, 1) := by decide +kernel
theorem dz_H_put_11 : decode zm_H_put.2.1 11 = .ok (.iload_n 1, 1) := by decide +kernel
theorem dz_H_put_12 : decode zm_H_put.2.1 12 = .ok (.invokevirtual 27, 3) := by decide +kernel
theorem dz_H_put_15 : decode zm_H_put.2.1 15 = .ok (.lookupswitch 51 #[(0, 25), (1, 38)], 25) := by decide +kernel
theorem dz_H_put_40 : decode zm_H_put.2.1 40 = .ok (.aload_n 0, 1) := by decide +kernel
theorem dz_H_put_41 : decode zm_H_put.2.1 41 = .ok (.getfield 13, 3) := by decide +kernel
theorem dz_H_put_44 : decode zm_H_put.2.1 44 = .ok (.iload_n 1, 1) := by decide +kernel
theorem dz_H_put_45 : decode zm_H_put.2.1 45 = .ok (.aaload, 1) := by decide +kernel
theorem dz_H_put_46 : decode zm_H_put.2.1 46 = .ok (.iload_n 2, 1) := by decide +kernel
theorem dz_H_put_47 : decode zm_H_put.2.1 47 = .ok (.iload_n 3, 1) := by decide +kernel
theorem dz_H_put_48 : decode zm_H_put.2.1 48 = .ok (.i2b, 1) := by decide +kernel
theorem dz_H_put_49 : decode zm_H_put.2.1 49 = .ok (.iastore, 1) := by decide +kernel
theorem dz_H_put_50 : decode zm_H_put.2.1 50 = .ok (.goto 25, 3) := by decide +kernel
theorem dz_H_put_53 : decode zm_H_put.2.1 53 = .ok (.aload_n 0, 1) := by decide +kernel
theorem dz_H_put_54 : decode zm_H_put.2.1 54 = .ok (.getfield 13, 3) := by decide +kernel
theorem dz_H_put_57 : decode zm_H_put.2.1 57 = .ok (.iload_n 1, 1) := by decide +kernel
theorem dz_H_put_58 : decode zm_H_put.2.1 58 = .ok (.aaload, 1) := by decide +kernel
theorem dz_H_put_59 : decode zm_H_put.2.1 59 = .ok (.iload_n 2, 1) := by decide +kernel
theorem dz_H_put_60 : decode zm_H_put.2.1 60 = .ok (.iload_n 3, 1) := by decide +kernel
theorem dz_H_put_61 : decode zm_H_put.2.1 61 = .ok (.i2s, 1) := by decide +kernel
theorem dz_H_put_62 : decode zm_H_put.2.1 62 = .ok (.iastore, 1) := by decide +kernel
theorem dz_H_put_63 : decode zm_H_put.2.1 63 = .ok (.goto 12, 3) := by decide +kernel
theorem dz_H_put_66 : decode zm_H_put.2.1 66 = .ok (.aload_n 0, 1) := by decide +kernel
theorem dz_H_put_67 : decode zm_H_put.2.1 67 = .ok (.getfield 13, 3) := by decide +kernel
theorem dz_H_put_70 : decode zm_H_put.2.1 70 = .ok (.iload_n 1, 1) := by decide +kernel
theorem dz_H_put_71 : decode zm_H_put.2.1 71 = .ok (.aaload, 1) := by decide +kernel
theorem dz_H_put_72 : decode zm_H_put.2.1 72 = .ok (.iload_n 2, 1) := by decide +kernel
theorem dz_H_put_73 : decode zm_H_put.2.1 73 = .ok (.iload_n 3, 1) := by decide +kernel
theorem dz_H_put_74 : decode zm_H_put.2.1 74 = .ok (.iastore, 1) := by decide +kernel
theorem dz_H_put_75 : decode zm_H_put.2.1 75 = .ok (.return_, 1) := by decide +kernel
theorem dz_H_cell_0 : decode zm_H_cell.2.1 0 = .ok (.aload_n 0, 1) := by decide +kernel
theorem dz_H_cell_1 : decode zm_H_cell.2.1 1 = .ok (.iload_n 1, 1) := by decide +kernel
theorem dz_H_cell_2 : decode zm_H_cell.2.1 2 = .ok (.iload_n 2, 1) := by decide +kernel
theorem dz_H_cell_3 : decode zm_H_cell.2.1 3 = .ok (.invokevirtual 31, 3) := by decide +kernel
theorem dz_H_cell_6 : decode zm_H_cell.2.1 6 = .ok (.ifCond .eq 14, 3) := by decide +kernel
theorem dz_H_cell_9 : decode zm_H_cell.2.1 9 = .ok (.aload_n 0, 1) := by decide +kernel
theorem dz_H_cell_10 : decode zm_H_cell.2.1 10 = .ok (.getfield 13, 3) := by decide +kernel
theorem dz_H_cell_13 : decode zm_H_cell.2.1 13 = .ok (.iload_n 1, 1) := by decide +kernel
theorem dz_H_cell_14 : decode zm_H_cell.2.1 14 = .ok (.aaload, 1) := by decide +kernel
theorem dz_H_cell_15 : decode zm_H_cell.2.1 15 = .ok (.iload_n 2, 1) := by decide +kernel
theorem dz_H_cell_16 : decode zm_H_cell.2.1 16 = .ok (.iaload, 1) := by decide +kernel
theorem dz_H_cell_17 : decode zm_H_cell.2.1 17 = .ok (.goto 4, 3) := by decide +kernel
theorem dz_H_cell_20 : decode zm_H_cell.2.1 20 = .ok (.iconst 0, 1) := by decide +kernel
theorem dz_H_cell_21 : decode zm_H_cell.2.1 21 = .ok (.ireturn, 1) := by decide +kernel
theorem dz_H_isCell_0 : decode zm_H_isCell.2.1 0 = .ok (.iload_n 2, 1) := by decide +kernel
theorem dz_H_isCell_1 : decode zm_H_isCell.2.1 1 = .ok (.ifCond .lt 22, 3) := by decide +kernel
theorem dz_H_isCell_4 : decode zm_H_isCell.2.1 4 = .ok (.iload_n 2, 1) := by decide +kernel
theorem dz_H_isCell_5 : decode zm_H_isCell.2.1 5 = .ok (.aload_n 0, 1) := by decide +kernel
theorem dz_H_isCell_6 : decode zm_H_isCell.2.1 6 = .ok (.iload_n 1, 1) := by decide +kernel
theorem dz_H_isCell_7 : decode zm_H_isCell.2.1 7 = .ok (.invokevirtual 35, 3) := by decide +kernel
theorem dz_H_isCell_10 : decode zm_H_isCell.2.1 10 = .ok (.if_icmp .ge 13, 3) := by decide +kernel
theorem dz_H_isCell_13 : decode zm_H_isCell.2.1 13 = .ok (.iload_n 2, 1) := by decide +kernel
theorem dz_H_isCell_14 : decode zm_H_isCell.2.1 14 = .ok (.bipush 40, 2) := by decide +kernel
theorem dz_H_isCell_16 : decode zm_H_isCell.2.1 16 = .ok (.if_icmp .ge 7, 3) := by decide +kernel
theorem dz_H_isCell_19 : decode zm_H_isCell.2.1 19 = .ok (.iconst 1, 1) := by decide +kernel
theorem dz_H_isCell_20 : decode zm_H_isCell.2.1 20 = .ok (.goto 4, 3) := by decide +kernel
theorem dz_H_isCell_23 : decode zm_H_isCell.2.1 23 = .ok (.iconst 0, 1) := by decide +kernel
theorem dz_H_isCell_24 : decode zm_H_isCell.2.1 24 = .ok (.ireturn, 1) := by decide +kernel
theorem dz_P_append_0 : decode zm_P_append.2.1 0 = .ok (.aload_n 0, 1) := by decide +kernel
theorem dz_P_append_1 : decode zm_P_append.2.1 1 = .ok (.getfield 13, 3) := by decide +kernel
theorem dz_P_append_4 : decode zm_P_append.2.1 4 = .ok (.ifCond .lt 13, 3) := by decide +kernel
theorem dz_P_append_7 : decode zm_P_append.2.1 7 = .ok (.aload_n 0, 1) := by decide +kernel
theorem dz_P_append_8 : decode zm_P_append.2.1 8 = .ok (.getfield 13, 3) := by decide +kernel
theorem dz_P_append_11 : decode zm_P_append.2.1 11 = .ok (.sipush 160, 3) := by decide +kernel
theorem dz_P_append_14 : decode zm_P_append.2.1 14 = .ok (.if_icmp .lt 5, 3) := by decide +kernel
theorem dz_P_append_17 : decode zm_P_append.2.1 17 = .ok (.iconst 0, 1) := by decide +kernel
theorem dz_P_append_18 : decode zm_P_append.2.1 18 = .ok (.ireturn, 1) := by decide +kernel
theorem dz_P_append_19 : decode zm_P_append.2.1 19 = .ok (.aload_n 0, 1) := by decide +kernel
theorem dz_P_append_20 : decode zm_P_append.2.1 20 = .ok (.getfield 9, 3) := by decide +kernel
theorem dz_P_append_23 : decode zm_P_append.2.1 23 = .ok (.aload_n 0, 1) := by decide +kernel
theorem dz_P_append_24 : decode zm_P_append.2.1 24 = .ok (.getfield 13, 3) := by decide +kernel
theorem dz_P_append_27 : decode zm_P_append.2.1 27 = .ok (.iload_n 1, 1) := by decide +kernel
theorem dz_P_append_28 : decode zm_P_append.2.1 28 = .ok (.i2b, 1) := by decide +kernel
theorem dz_P_append_29 : decode zm_P_append.2.1 29 = .ok (.bastore, 1) := by decide +kernel
theorem dz_P_append_30 : decode zm_P_append.2.1 30 = .ok (.aload_n 0, 1) := by decide +kernel
theorem dz_P_append_31 : decode zm_P_append.2.1 31 = .ok (.dup, 1) := by decide +kernel
theorem dz_P_append_32 : decode zm_P_append.2.1 32 = .ok (.getfield 13, 3) := by decide +kernel
theorem dz_P_append_35 : decode zm_P_append.2.1 35 = .ok (.iconst 1, 1) := by decide +kernel
theorem dz_P_append_36 : decode zm_P_append.2.1 36 = .ok (.iadd, 1) := by decide +kernel
theorem dz_P_append_37 : decode zm_P_append.2.1 37 = .ok (.putfield 13, 3) := by decide +kernel
theorem dz_P_append_40 : decode zm_P_append.2.1 40 = .ok (.iconst 1, 1) := by decide +kernel
theorem dz_P_append_41 : decode zm_P_append.2.1 41 = .ok (.ireturn, 1) := by decide +kernel
theorem dz_P_rewind_0 : decode zm_P_rewind.2.1 0 = .ok (.aload_n 0, 1) := by decide +kernel
theorem dz_P_rewind_1 : decode zm_P_rewind.2.1 1 = .ok (.iconst 0, 1) := by decide +kernel
theorem dz_P_rewind_2 : decode zm_P_rewind.2.1 2 = .ok (.putfield 17, 3) := by decide +kernel
theorem dz_P_rewind_5 : decode zm_P_rewind.2.1 5 = .ok (.return_, 1) := by decide +kernel
theorem dz_P_advance_0 : decode zm_P_advance.2.1 0 = .ok (.aload_n 0, 1) := by decide +kernel
theorem dz_P_advance_1 : decode zm_P_advance.2.1 1 = .ok (.getfield 17, 3) := by decide +kernel
theorem dz_P_advance_4 : decode zm_P_advance.2.1 4 = .ok (.aload_n 0, 1) := by decide +kernel
theorem dz_P_advance_5 : decode zm_P_advance.2.1 5 = .ok (.getfield 13, 3) := by decide +kernel
theorem dz_P_advance_8 : decode zm_P_advance.2.1 8 = .ok (.if_icmp .ge 29, 3) := by decide +kernel
theorem dz_P_advance_11 : decode zm_P_advance.2.1 11 = .ok (.aload_n 0, 1) := by decide +kernel
theorem dz_P_advance_12 : decode zm_P_advance.2.1 12 = .ok (.aload_n 0, 1) := by decide +kernel
theorem dz_P_advance_13 : decode zm_P_advance.2.1 13 = .ok (.getfield 17, 3) := by decide +kernel
theorem dz_P_advance_16 : decode zm_P_advance.2.1 16 = .ok (.invokevirtual 20, 3) := by decide +kernel
theorem dz_P_advance_19 : decode zm_P_advance.2.1 19 = .ok (.bipush 32, 2) := by decide +kernel
theorem dz_P_advance_21 : decode zm_P_advance.2.1 21 = .ok (.if_icmp .ne 16, 3) := by decide +kernel
theorem dz_P_advance_24 : decode zm_P_advance.2.1 24 = .ok (.aload_n 0, 1) := by decide +kernel
theorem dz_P_advance_25 : decode zm_P_advance.2.1 25 = .ok (.dup, 1) := by decide +kernel
theorem dz_P_advance_26 : decode zm_P_advance.2.1 26 = .ok (.getfield 17, 3) := by decide +kernel
theorem dz_P_advance_29 : decode zm_P_advance.2.1 29 = .ok (.iconst 1, 1) := by decide +kernel
theorem dz_P_advance_30 : decode zm_P_advance.2.1 30 = .ok (.iadd, 1) := by decide +kernel
theorem dz_P_advance_31 : decode zm_P_advance.2.1 31 = .ok (.putfield 17, 3) := by decide +kernel
theorem dz_P_advance_34 : decode zm_P_advance.2.1 34 = .ok (.goto (-34), 3) := by decide +kernel
theorem dz_P_advance_37 : decode zm_P_advance.2.1 37 = .ok (.aload_n 0, 1) := by decide +kernel
theorem dz_P_advance_38 : decode zm_P_advance.2.1 38 = .ok (.aload_n 0, 1) := by decide +kernel
theorem dz_P_advance_39 : decode zm_P_advance.2.1 39 = .ok (.getfield 17, 3) := by decide +kernel
theorem dz_P_advance_42 : decode zm_P_advance.2.1 42 = .ok (.putfield 24, 3) := by decide +kernel
theorem dz_P_advance_45 : decode zm_P_advance.2.1 45 = .ok (.aload_n 0, 1) := by decide +kernel
theorem dz_P_advance_46 : decode zm_P_advance.2.1 46 = .ok (.aload_n 0, 1) := by decide +kernel
theorem dz_P_advance_47 : decode zm_P_advance.2.1 47 = .ok (.getfield 17, 3) := by decide +kernel
theorem dz_P_advance_50 : decode zm_P_advance.2.1 50 = .ok (.invokevirtual 20, 3) := by decide +kernel
theorem dz_P_advance_53 : decode zm_P_advance.2.1 53 = .ok (.istore_n 1, 1) := by decide +kernel
theorem dz_P_advance_54 : decode zm_P_advance.2.1 54 = .ok (.iload_n 1, 1) := by decide +kernel
theorem dz_P_advance_55 : decode zm_P_advance.2.1 55 = .ok (.ifCond .ge 11, 3) := by decide +kernel
theorem dz_P_advance_58 : decode zm_P_advance.2.1 58 = .ok (.aload_n 0, 1) := by decide +kernel
theorem dz_P_advance_59 : decode zm_P_advance.2.1 59 = .ok (.iconst 0, 1) := by decide +kernel
theorem dz_P_advance_60 : decode zm_P_advance.2.1 60 = .ok (.putfield 27, 3) := by decide +kernel
theorem dz_P_advance_63 : decode zm_P_advance.2.1 63 = .ok (.goto 56, 3) := by decide +kernel
theorem dz_P_advance_66 : decode zm_P_advance.2.1 66 = .ok (.iload_n 1, 1) := by decide +kernel
theorem dz_P_advance_67 : decode zm_P_advance.2.1 67 = .ok (.invokestatic 30, 3) := by decide +kernel
theorem dz_P_advance_70 : decode zm_P_advance.2.1 70 = .ok (.ifCond .eq 10, 3) := by decide +kernel
theorem dz_P_advance_73 : decode zm_P_advance.2.1 73 = .ok (.aload_n 0, 1) := by decide +kernel
theorem dz_P_advance_74 : decode zm_P_advance.2.1 74 = .ok (.invokevirtual 34, 3) := by decide +kernel
theorem dz_P_advance_77 : decode zm_P_advance.2.1 77 = .ok (.goto 42, 3) := by decide +kernel
theorem dz_P_advance_80 : decode zm_P_advance.2.1 80 = .ok (.iload_n 1, 1) := by decide +kernel
theorem dz_P_advance_81 : decode zm_P_advance.2.1 81 = .ok (.invokestatic 37, 3) := by decide +kernel
theorem dz_P_advance_84 : decode zm_P_advance.2.1 84 = .ok (.ifCond .eq 10, 3) := by decide +kernel
theorem dz_P_advance_87 : decode zm_P_advance.2.1 87 = .ok (.aload_n 0, 1) := by decide +kernel
theorem dz_P_advance_88 : decode zm_P_advance.2.1 88 = .ok (.invokevirtual 40, 3) := by decide +kernel
theorem dz_P_advance_91 : decode zm_P_advance.2.1 91 = .ok (.goto 28, 3) := by decide +kernel
theorem dz_P_advance_94 : decode zm_P_advance.2.1 94 = .ok (.aload_n 0, 1) := by decide +kernel
theorem dz_P_advance_95 : decode zm_P_advance.2.1 95 = .ok (.iload_n 1, 1) := by decide +kernel
theorem dz_P_advance_96 : decode zm_P_advance.2.1 96 = .ok (.bipush 59, 2) := by decide +kernel
theorem dz_P_advance_98 : decode zm_P_advance.2.1 98 = .ok (.if_icmp .ne 7, 3) := by decide +kernel
theorem dz_P_advance_101 : decode zm_P_advance.2.1 101 = .ok (.iconst 3, 1) := by decide +kernel
theorem dz_P_advance_102 : decode zm_P_advance.2.1 102 = .ok (.goto 4, 3) := by decide +kernel
theorem dz_P_advance_105 : decode zm_P_advance.2.1 105 = .ok (.iconst 4, 1) := by decide +kernel
theorem dz_P_advance_106 : decode zm_P_advance.2.1 106 = .ok (.putfield 27, 3) := by decide +kernel
theorem dz_P_advance_109 : decode zm_P_advance.2.1 109 = .ok (.aload_n 0, 1) := by decide +kernel
theorem dz_P_advance_110 : decode zm_P_advance.2.1 110 = .ok (.dup, 1) := by decide +kernel
theorem dz_P_advance_111 : decode zm_P_advance.2.1 111 = .ok (.getfield 17, 3) := by decide +kernel
theorem dz_P_advance_114 : decode zm_P_advance.2.1 114 = .ok (.iconst 1, 1) := by decide +kernel
theorem dz_P_advance_115 : decode zm_P_advance.2.1 115 = .ok (.iadd, 1) := by decide +kernel
theorem dz_P_advance_116 : decode zm_P_advance.2.1 116 = .ok (.putfield 17, 3) := by decide +kernel
theorem dz_P_advance_119 : decode zm_P_advance.2.1 119 = .ok (.return_, 1) := by decide +kernel
theorem dz_P_isWord_0 : decode zm_P_isWord.2.1 0 = .ok (.aload_n 0, 1) := by decide +kernel
theorem dz_P_isWord_1 : decode zm_P_isWord.2.1 1 = .ok (.getfield 27, 3) := by decide +kernel
theorem dz_P_isWord_4 : decode zm_P_isWord.2.1 4 = .ok (.iconst 1, 1) := by decide +kernel
theorem dz_P_isWord_5 : decode zm_P_isWord.2.1 5 = .ok (.if_icmp .ne 23, 3) := by decide +kernel
theorem dz_P_isWord_8 : decode zm_P_isWord.2.1 8 = .ok (.aload_n 1, 1) := by decide +kernel
theorem dz_P_isWord_9 : decode zm_P_isWord.2.1 9 = .ok (.ifnull 19, 3) := by decide +kernel
theorem dz_P_isWord_12 : decode zm_P_isWord.2.1 12 = .ok (.aload_n 0, 1) := by decide +kernel
theorem dz_P_isWord_13 : decode zm_P_isWord.2.1 13 = .ok (.getfield 17, 3) := by decide +kernel
theorem dz_P_isWord_16 : decode zm_P_isWord.2.1 16 = .ok (.aload_n 0, 1) := by decide +kernel
theorem dz_P_isWord_17 : decode zm_P_isWord.2.1 17 = .ok (.getfield 24, 3) := by decide +kernel
theorem dz_P_isWord_20 : decode zm_P_isWord.2.1 20 = .ok (.isub, 1) := by decide +kernel
theorem dz_P_isWord_21 : decode zm_P_isWord.2.1 21 = .ok (.aload_n 1, 1) := by decide +kernel
theorem dz_P_isWord_22 : decode zm_P_isWord.2.1 22 = .ok (.invokevirtual 43, 3) := by decide +kernel
theorem dz_P_isWord_25 : decode zm_P_isWord.2.1 25 = .ok (.if_icmp .eq 5, 3) := by decide +kernel
theorem dz_P_isWord_28 : decode zm_P_isWord.2.1 28 = .ok (.iconst 0, 1) := by decide +kernel
theorem dz_P_isWord_29 : decode zm_P_isWord.2.1 29 = .ok (.ireturn, 1) := by decide +kernel
theorem dz_P_isWord_30 : decode zm_P_isWord.2.1 30 = .ok (.iconst 0, 1) := by decide +kernel
theorem dz_P_isWord_31 : decode zm_P_isWord.2.1 31 = .ok (.istore_n 2, 1) := by decide +kernel
theorem dz_P_isWord_32 : decode zm_P_isWord.2.1 32 = .ok (.iload_n 2, 1) := by decide +kernel
theorem dz_P_isWord_33 : decode zm_P_isWord.2.1 33 = .ok (.aload_n 1, 1) := by decide +kernel
theorem dz_P_isWord_34 : decode zm_P_isWord.2.1 34 = .ok (.invokevirtual 43, 3) := by decide +kernel
theorem dz_P_isWord_37 : decode zm_P_isWord.2.1 37 = .ok (.if_icmp .ge 29, 3) := by decide +kernel
theorem dz_P_isWord_40 : decode zm_P_isWord.2.1 40 = .ok (.aload_n 0, 1) := by decide +kernel
theorem dz_P_isWord_41 : decode zm_P_isWord.2.1 41 = .ok (.aload_n 0, 1) := by decide +kernel
theorem dz_P_isWord_42 : decode zm_P_isWord.2.1 42 = .ok (.getfield 24, 3) := by decide +kernel
theorem dz_P_isWord_45 : decode zm_P_isWord.2.1 45 = .ok (.iload_n 2, 1) := by decide +kernel
theorem dz_P_isWord_46 : decode zm_P_isWord.2.1 46 = .ok (.iadd, 1) := by decide +kernel
theorem dz_P_isWord_47 : decode zm_P_isWord.2.1 47 = .ok (.invokevirtual 20, 3) := by decide +kernel
theorem dz_P_isWord_50 : decode zm_P_isWord.2.1 50 = .ok (.aload_n 1, 1) := by decide +kernel
theorem dz_P_isWord_51 : decode zm_P_isWord.2.1 51 = .ok (.iload_n 2, 1) := by decide +kernel
theorem dz_P_isWord_52 : decode zm_P_isWord.2.1 52 = .ok (.invokevirtual 48, 3) := by decide +kernel
theorem dz_P_isWord_55 : decode zm_P_isWord.2.1 55 = .ok (.if_icmp .eq 5, 3) := by decide +kernel
theorem dz_P_isWord_58 : decode zm_P_isWord.2.1 58 = .ok (.iconst 0, 1) := by decide +kernel
theorem dz_P_isWord_59 : decode zm_P_isWord.2.1 59 = .ok (.ireturn, 1) := by decide +kernel
theorem dz_P_isWord_60 : decode zm_P_isWord.2.1 60 = .ok (.iinc 2 1, 3) := by decide +kernel
theorem dz_P_isWord_63 : decode zm_P_isWord.2.1 63 = .ok (.goto (-31), 3) := by decide +kernel
theorem dz_P_isWord_66 : decode zm_P_isWord.2.1 66 = .ok (.iconst 1, 1) := by decide +kernel
theorem dz_P_isWord_67 : decode zm_P_isWord.2.1 67 = .ok (.ireturn, 1) := by decide +kernel
theorem dz_P_readName_0 : decode zm_P_readName.2.1 0 = .ok (.aload_n 0, 1) := by decide +kernel
theorem dz_P_readName_1 : decode zm_P_readName.2.1 1 = .ok (.iconst 1, 1) := by decide +kernel
theorem dz_P_readName_2 : decode zm_P_readName.2.1 2 = .ok (.putfield 27, 3) := by decide +kernel
theorem dz_P_readName_5 : decode zm_P_readName.2.1 5 = .ok (.aload_n 0, 1) := by decide +kernel
theorem dz_P_readName_6 : decode zm_P_readName.2.1 6 = .ok (.getfield 17, 3) := by decide +kernel
theorem dz_P_readName_9 : decode zm_P_readName.2.1 9 = .ok (.aload_n 0, 1) := by decide +kernel
theorem dz_P_readName_10 : decode zm_P_readName.2.1 10 = .ok (.getfield 13, 3) := by decide +kernel
theorem dz_P_readName_13 : decode zm_P_readName.2.1 13 = .ok (.if_icmp .ge 30, 3) := by decide +kernel
theorem dz_P_readName_16 : decode zm_P_readName.2.1 16 = .ok (.aload_n 0, 1) := by decide +kernel
theorem dz_P_readName_17 : decode zm_P_readName.2.1 17 = .ok (.aload_n 0, 1) := by decide +kernel
theorem dz_P_readName_18 : decode zm_P_readName.2.1 18 = .ok (.getfield 17, 3) := by decide +kernel
theorem dz_P_readName_21 : decode zm_P_readName.2.1 21 = .ok (.invokevirtual 20, 3) := by decide +kernel
theorem dz_P_readName_24 : decode zm_P_readName.2.1 24 = .ok (.invokestatic 30, 3) := by decide +kernel
theorem dz_P_readName_27 : decode zm_P_readName.2.1 27 = .ok (.ifCond .eq 16, 3) := by decide +kernel
theorem dz_P_readName_30 : decode zm_P_readName.2.1 30 = .ok (.aload_n 0, 1) := by decide +kernel
theorem dz_P_readName_31 : decode zm_P_readName.2.1 31 = .ok (.dup, 1) := by decide +kernel
theorem dz_P_readName_32 : decode zm_P_readName.2.1 32 = .ok (.getfield 17, 3) := by decide +kernel
theorem dz_P_readName_35 : decode zm_P_readName.2.1 35 = .ok (.iconst 1, 1) := by decide +kernel
theorem dz_P_readName_36 : decode zm_P_readName.2.1 36 = .ok (.iadd, 1) := by decide +kernel
theorem dz_P_readName_37 : decode zm_P_readName.2.1 37 = .ok (.putfield 17, 3) := by decide +kernel
theorem dz_P_readName_40 : decode zm_P_readName.2.1 40 = .ok (.goto (-35), 3) := by decide +kernel
theorem dz_P_readName_43 : decode zm_P_readName.2.1 43 = .ok (.return_, 1) := by decide +kernel
theorem dz_P_readNumber_0 : decode zm_P_readNumber.2.1 0 = .ok (.aload_n 0, 1) := by decide +kernel
theorem dz_P_readNumber_1 : decode zm_P_readNumber.2.1 1 = .ok (.iconst 0, 1) := by decide +kernel
theorem dz_P_readNumber_2 : decode zm_P_readNumber.2.1 2 = .ok (.putfield 52, 3) := by decide +kernel
theorem dz_P_readNumber_5 : decode zm_P_readNumber.2.1 5 = .ok (.aload_n 0, 1) := by decide +kernel
theorem dz_P_readNumber_6 : decode zm_P_readNumber.2.1 6 = .ok (.getfield 17, 3) := by decide +kernel
theorem dz_P_readNumber_9 : decode zm_P_readNumber.2.1 9 = .ok (.aload_n 0, 1) := by decide +kernel
theorem dz_P_readNumber_10 : decode zm_P_readNumber.2.1 10 = .ok (.getfield 13, 3) := by decide +kernel
theorem dz_P_readNumber_13 : decode zm_P_readNumber.2.1 13 = .ok (.if_icmp .ge 53, 3) := by decide +kernel
theorem dz_P_readNumber_16 : decode zm_P_readNumber.2.1 16 = .ok (.aload_n 0, 1) := by decide +kernel
theorem dz_P_readNumber_17 : decode zm_P_readNumber.2.1 17 = .ok (.aload_n 0, 1) := by decide +kernel
theorem dz_P_readNumber_18 : decode zm_P_readNumber.2.1 18 = .ok (.getfield 17, 3) := by decide +kernel
theorem dz_P_readNumber_21 : decode zm_P_readNumber.2.1 21 = .ok (.invokevirtual 20, 3) := by decide +kernel
theorem dz_P_readNumber_24 : decode zm_P_readNumber.2.1 24 = .ok (.invokestatic 37, 3) := by decide +kernel
theorem dz_P_readNumber_27 : decode zm_P_readNumber.2.1 27 = .ok (.ifCond .eq 39, 3) := by decide +kernel
theorem dz_P_readNumber_30 : decode zm_P_readNumber.2.1 30 = .ok (.aload_n 0, 1) := by decide +kernel
theorem dz_P_readNumber_31 : decode zm_P_readNumber.2.1 31 = .ok (.bipush 10, 2) := by decide +kernel
theorem dz_P_readNumber_33 : decode zm_P_readNumber.2.1 33 = .ok (.aload_n 0, 1) := by decide +kernel
theorem dz_P_readNumber_34 : decode zm_P_readNumber.2.1 34 = .ok (.getfield 52, 3) := by decide +kernel
theorem dz_P_readNumber_37 : decode zm_P_readNumber.2.1 37 = .ok (.imul, 1) := by decide +kernel
theorem dz_P_readNumber_38 : decode zm_P_readNumber.2.1 38 = .ok (.aload_n 0, 1) := by decide +kernel
theorem dz_P_readNumber_39 : decode zm_P_readNumber.2.1 39 = .ok (.aload_n 0, 1) := by decide +kernel
theorem dz_P_readNumber_40 : decode zm_P_readNumber.2.1 40 = .ok (.getfield 17, 3) := by decide +kernel
theorem dz_P_readNumber_43 : decode zm_P_readNumber.2.1 43 = .ok (.invokevirtual 20, 3) := by decide +kernel
theorem dz_P_readNumber_46 : decode zm_P_readNumber.2.1 46 = .ok (.iadd, 1) := by decide +kernel
theorem dz_P_readNumber_47 : decode zm_P_readNumber.2.1 47 = .ok (.bipush 48, 2) := by decide +kernel
theorem dz_P_readNumber_49 : decode zm_P_readNumber.2.1 49 = .ok (.isub, 1) := by decide +kernel
theorem dz_P_readNumber_50 : decode zm_P_readNumber.2.1 50 = .ok (.putfield 52, 3) := by decide +kernel
theorem dz_P_readNumber_53 : decode zm_P_readNumber.2.1 53 = .ok (.aload_n 0, 1) := by decide +kernel
theorem dz_P_readNumber_54 : decode zm_P_readNumber.2.1 54 = .ok (.dup, 1) := by decide +kernel
theorem dz_P_readNumber_55 : decode zm_P_readNumber.2.1 55 = .ok (.getfield 17, 3) := by decide +kernel
theorem dz_P_readNumber_58 : decode zm_P_readNumber.2.1 58 = .ok (.iconst 1, 1) := by decide +kernel
theorem dz_P_readNumber_59 : decode zm_P_readNumber.2.1 59 = .ok (.iadd, 1) := by decide +kernel
theorem dz_P_readNumber_60 : decode zm_P_readNumber.2.1 60 = .ok (.putfield 17, 3) := by decide +kernel
theorem dz_P_readNumber_63 : decode zm_P_readNumber.2.1 63 = .ok (.goto (-58), 3) := by decide +kernel
theorem dz_P_readNumber_66 : decode zm_P_readNumber.2.1 66 = .ok (.aload_n 0, 1) := by decide +kernel
theorem dz_P_readNumber_67 : decode zm_P_readNumber.2.1 67 = .ok (.aload_n 0, 1) := by decide +kernel
theorem dz_P_readNumber_68 : decode zm_P_readNumber.2.1 68 = .ok (.getfield 17, 3) := by decide +kernel
theorem dz_P_readNumber_71 : decode zm_P_readNumber.2.1 71 = .ok (.aload_n 0, 1) := by decide +kernel
theorem dz_P_readNumber_72 : decode zm_P_readNumber.2.1 72 = .ok (.getfield 24, 3) := by decide +kernel
theorem dz_P_readNumber_75 : decode zm_P_readNumber.2.1 75 = .ok (.isub, 1) := by decide +kernel
theorem dz_P_readNumber_76 : decode zm_P_readNumber.2.1 76 = .ok (.iconst 2, 1) := by decide +kernel
theorem dz_P_readNumber_77 : decode zm_P_readNumber.2.1 77 = .ok (.if_icmp .gt 7, 3) := by decide +kernel
theorem dz_P_readNumber_80 : decode zm_P_readNumber.2.1 80 = .ok (.iconst 2, 1) := by decide +kernel
theorem dz_P_readNumber_81 : decode zm_P_readNumber.2.1 81 = .ok (.goto 4, 3) := by decide +kernel
theorem dz_P_readNumber_84 : decode zm_P_readNumber.2.1 84 = .ok (.iconst 4, 1) := by decide +kernel
theorem dz_P_readNumber_85 : decode zm_P_readNumber.2.1 85 = .ok (.putfield 27, 3) := by decide +kernel
theorem dz_P_readNumber_88 : decode zm_P_readNumber.2.1 88 = .ok (.return_, 1) := by decide +kernel
theorem dz_P_byteAt_0 : decode zm_P_byteAt.2.1 0 = .ok (.iload_n 1, 1) := by decide +kernel
theorem dz_P_byteAt_1 : decode zm_P_byteAt.2.1 1 = .ok (.ifCond .lt 27, 3) := by decide +kernel
theorem dz_P_byteAt_4 : decode zm_P_byteAt.2.1 4 = .ok (.iload_n 1, 1) := by decide +kernel
theorem dz_P_byteAt_5 : decode zm_P_byteAt.2.1 5 = .ok (.aload_n 0, 1) := by decide +kernel
theorem dz_P_byteAt_6 : decode zm_P_byteAt.2.1 6 = .ok (.getfield 13, 3) := by decide +kernel
theorem dz_P_byteAt_9 : decode zm_P_byteAt.2.1 9 = .ok (.if_icmp .ge 19, 3) := by decide +kernel
theorem dz_P_byteAt_12 : decode zm_P_byteAt.2.1 12 = .ok (.iload_n 1, 1) := by decide +kernel
theorem dz_P_byteAt_13 : decode zm_P_byteAt.2.1 13 = .ok (.sipush 160, 3) := by decide +kernel
theorem dz_P_byteAt_16 : decode zm_P_byteAt.2.1 16 = .ok (.if_icmp .ge 12, 3) := by decide +kernel
theorem dz_P_byteAt_19 : decode zm_P_byteAt.2.1 19 = .ok (.aload_n 0, 1) := by decide +kernel
theorem dz_P_byteAt_20 : decode zm_P_byteAt.2.1 20 = .ok (.getfield 9, 3) := by decide +kernel
theorem dz_P_byteAt_23 : decode zm_P_byteAt.2.1 23 = .ok (.iload_n 1, 1) := by decide +kernel
theorem dz_P_byteAt_24 : decode zm_P_byteAt.2.1 24 = .ok (.baload, 1) := by decide +kernel
theorem dz_P_byteAt_25 : decode zm_P_byteAt.2.1 25 = .ok (.goto 4, 3) := by decide +kernel
theorem dz_P_byteAt_28 : decode zm_P_byteAt.2.1 28 = .ok (.iconst (-1), 1) := by decide +kernel
theorem dz_P_byteAt_29 : decode zm_P_byteAt.2.1 29 = .ok (.ireturn, 1) := by decide +kernel
theorem dz_P_isLetter_0 : decode zm_P_isLetter.2.1 0 = .ok (.iload_n 0, 1) := by decide +kernel
theorem dz_P_isLetter_1 : decode zm_P_isLetter.2.1 1 = .ok (.bipush 97, 2) := by decide +kernel
theorem dz_P_isLetter_3 : decode zm_P_isLetter.2.1 3 = .ok (.if_icmp .lt 13, 3) := by decide +kernel
theorem dz_P_isLetter_6 : decode zm_P_isLetter.2.1 6 = .ok (.iload_n 0, 1) := by decide +kernel
theorem dz_P_isLetter_7 : decode zm_P_isLetter.2.1 7 = .ok (.bipush 122, 2) := by decide +kernel
theorem dz_P_isLetter_9 : decode zm_P_isLetter.2.1 9 = .ok (.if_icmp .gt 7, 3) := by decide +kernel
theorem dz_P_isLetter_12 : decode zm_P_isLetter.2.1 12 = .ok (.iconst 1, 1) := by decide +kernel
theorem dz_P_isLetter_13 : decode zm_P_isLetter.2.1 13 = .ok (.goto 4, 3) := by decide +kernel
theorem dz_P_isLetter_16 : decode zm_P_isLetter.2.1 16 = .ok (.iconst 0, 1) := by decide +kernel
theorem dz_P_isLetter_17 : decode zm_P_isLetter.2.1 17 = .ok (.ireturn, 1) := by decide +kernel
theorem dz_P_isFigure_0 : decode zm_P_isFigure.2.1 0 = .ok (.iload_n 0, 1) := by decide +kernel
theorem dz_P_isFigure_1 : decode zm_P_isFigure.2.1 1 = .ok (.bipush 48, 2) := by decide +kernel
theorem dz_P_isFigure_3 : decode zm_P_isFigure.2.1 3 = .ok (.if_icmp .lt 13, 3) := by decide +kernel
theorem dz_P_isFigure_6 : decode zm_P_isFigure.2.1 6 = .ok (.iload_n 0, 1) := by decide +kernel
theorem dz_P_isFigure_7 : decode zm_P_isFigure.2.1 7 = .ok (.bipush 57, 2) := by decide +kernel
theorem dz_P_isFigure_9 : decode zm_P_isFigure.2.1 9 = .ok (.if_icmp .gt 7, 3) := by decide +kernel
theorem dz_P_isFigure_12 : decode zm_P_isFigure.2.1 12 = .ok (.iconst 1, 1) := by decide +kernel
theorem dz_P_isFigure_13 : decode zm_P_isFigure.2.1 13 = .ok (.goto 4, 3) := by decide +kernel
theorem dz_P_isFigure_16 : decode zm_P_isFigure.2.1 16 = .ok (.iconst 0, 1) := by decide +kernel
theorem dz_P_isFigure_17 : decode zm_P_isFigure.2.1 17 = .ok (.ireturn, 1) := by decide +kernel
theorem dz_E_tell_0 : decode zm_E_tell.2.1 0 = .ok (.aload_n 0, 1) := by decide +kernel
theorem dz_E_tell_1 : decode zm_E_tell.2.1 1 = .ok (.iconst 0, 1) := by decide +kernel
theorem dz_E_tell_2 : decode zm_E_tell.2.1 2 = .ok (.putfield 9, 3) := by decide +kernel
theorem dz_E_tell_5 : decode zm_E_tell.2.1 5 = .ok (.aload_n 0, 1) := by decide +kernel
theorem dz_E_tell_6 : decode zm_E_tell.2.1 6 = .ok (.iconst 0, 1) := by decide +kernel
theorem dz_E_tell_7 : decode zm_E_tell.2.1 7 = .ok (.putfield 15, 3) := by decide +kernel
theorem dz_E_tell_10 : decode zm_E_tell.2.1 10 = .ok (.aload_n 0, 1) := by decide +kernel
theorem dz_E_tell_11 : decode zm_E_tell.2.1 11 = .ok (.iconst 0, 1) := by decide +kernel
theorem dz_E_tell_12 : decode zm_E_tell.2.1 12 = .ok (.putfield 18, 3) := by decide +kernel
theorem dz_E_tell_15 : decode zm_E_tell.2.1 15 = .ok (.aload_n 0, 1) := by decide +kernel
theorem dz_E_tell_16 : decode zm_E_tell.2.1 16 = .ok (.iconst 0, 1) := by decide +kernel
theorem dz_E_tell_17 : decode zm_E_tell.2.1 17 = .ok (.putfield 21, 3) := by decide +kernel
theorem dz_E_tell_20 : decode zm_E_tell.2.1 20 = .ok (.aload_n 1, 1) := by decide +kernel
theorem dz_E_tell_21 : decode zm_E_tell.2.1 21 = .ok (.ifnull 7, 3) := by decide +kernel
theorem dz_E_tell_24 : decode zm_E_tell.2.1 24 = .ok (.aload_n 2, 1) := by decide +kernel
theorem dz_E_tell_25 : decode zm_E_tell.2.1 25 = .ok (.ifnonnull 5, 3) := by decide +kernel
theorem dz_E_tell_28 : decode zm_E_tell.2.1 28 = .ok (.iconst 0, 1) := by decide +kernel
theorem dz_E_tell_29 : decode zm_E_tell.2.1 29 = .ok (.ireturn, 1) := by decide +kernel
theorem dz_E_tell_30 : decode zm_E_tell.2.1 30 = .ok (.aload_n 2, 1) := by decide +kernel
theorem dz_E_tell_31 : decode zm_E_tell.2.1 31 = .ok (.invokevirtual 24, 3) := by decide +kernel
theorem dz_E_tell_34 : decode zm_E_tell.2.1 34 = .ok (.aload_n 1, 1) := by decide +kernel
theorem dz_E_tell_35 : decode zm_E_tell.2.1 35 = .ok (.invokevirtual 29, 3) := by decide +kernel
theorem dz_E_tell_38 : decode zm_E_tell.2.1 38 = .ok (.aload_n 1, 1) := by decide +kernel
theorem dz_E_tell_39 : decode zm_E_tell.2.1 39 = .ok (.invokevirtual 34, 3) := by decide +kernel
theorem dz_E_tell_42 : decode zm_E_tell.2.1 42 = .ok (.iconst 0, 1) := by decide +kernel
theorem dz_E_tell_43 : decode zm_E_tell.2.1 43 = .ok (.istore_n 3, 1) := by decide +kernel
theorem dz_E_tell_44 : decode zm_E_tell.2.1 44 = .ok (.iload_n 3, 1) := by decide +kernel
theorem dz_E_tell_45 : decode zm_E_tell.2.1 45 = .ok (.sipush 160, 3) := by decide +kernel
theorem dz_E_tell_48 : decode zm_E_tell.2.1 48 = .ok (.if_icmp .ge 31, 3) := by decide +kernel
theorem dz_E_tell_51 : decode zm_E_tell.2.1 51 = .ok (.aload_n 1, 1) := by decide +kernel
theorem dz_E_tell_52 : decode zm_E_tell.2.1 52 = .ok (.getfield 37, 3) := by decide +kernel
theorem dz_E_tell_55 : decode zm_E_tell.2.1 55 = .ok (.ifCond .eq 24, 3) := by decide +kernel
theorem dz_E_tell_58 : decode zm_E_tell.2.1 58 = .ok (.aload_n 0, 1) := by decide +kernel
theorem dz_E_tell_59 : decode zm_E_tell.2.1 59 = .ok (.aload_n 1, 1) := by decide +kernel
theorem dz_E_tell_60 : decode zm_E_tell.2.1 60 = .ok (.aload_n 2, 1) := by decide +kernel
theorem dz_E_tell_61 : decode zm_E_tell.2.1 61 = .ok (.invokevirtual 40, 3) := by decide +kernel
theorem dz_E_tell_64 : decode zm_E_tell.2.1 64 = .ok (.ifCond .ne 5, 3) := by decide +kernel
theorem dz_E_tell_67 : decode zm_E_tell.2.1 67 = .ok (.iload_n 3, 1) := by decide +kernel
theorem dz_E_tell_68 : decode zm_E_tell.2.1 68 = .ok (.ireturn, 1) := by decide +kernel
theorem dz_E_tell_69 : decode zm_E_tell.2.1 69 = .ok (.iinc 3 1, 3) := by decide +kernel
theorem dz_E_tell_72 : decode zm_E_tell.2.1 72 = .ok (.aload_n 1, 1) := by decide +kernel
theorem dz_E_tell_73 : decode zm_E_tell.2.1 73 = .ok (.invokevirtual 34, 3) := by decide +kernel
theorem dz_E_tell_76 : decode zm_E_tell.2.1 76 = .ok (.goto (-32), 3) := by decide +kernel
theorem dz_E_tell_79 : decode zm_E_tell.2.1 79 = .ok (.aload_n 0, 1) := by decide +kernel
theorem dz_E_tell_80 : decode zm_E_tell.2.1 80 = .ok (.aload_n 1, 1) := by decide +kernel
theorem dz_E_tell_81 : decode zm_E_tell.2.1 81 = .ok (.aload_n 2, 1) := by decide +kernel
theorem dz_E_tell_82 : decode zm_E_tell.2.1 82 = .ok (.invokevirtual 44, 3) := by decide +kernel
theorem dz_E_tell_85 : decode zm_E_tell.2.1 85 = .ok (.iload_n 3, 1) := by decide +kernel
theorem dz_E_tell_86 : decode zm_E_tell.2.1 86 = .ok (.ireturn, 1) := by decide +kernel
theorem dz_E_checkWhole_0 : decode zm_E_checkWhole.2.1 0 = .ok (.aload_n 0, 1) := by decide +kernel
theorem dz_E_checkWhole_1 : decode zm_E_checkWhole.2.1 1 = .ok (.getfield 18, 3) := by decide +kernel
theorem dz_E_checkWhole_4 : decode zm_E_checkWhole.2.1 4 = .ok (.aload_n 2, 1) := by decide +kernel
theorem dz_E_checkWhole_5 : decode zm_E_checkWhole.2.1 5 = .ok (.invokevirtual 48, 3) := by decide +kernel
theorem dz_E_checkWhole_8 : decode zm_E_checkWhole.2.1 8 = .ok (.iconst (-1), 1) := by decide +kernel
theorem dz_E_checkWhole_9 : decode zm_E_checkWhole.2.1 9 = .ok (.ixor, 1) := by decide +kernel
theorem dz_E_checkWhole_10 : decode zm_E_checkWhole.2.1 10 = .ok (.iand, 1) := by decide +kernel
theorem dz_E_checkWhole_11 : decode zm_E_checkWhole.2.1 11 = .ok (.ifCond .eq 17, 3) := by decide +kernel
theorem dz_E_checkWhole_14 : decode zm_E_checkWhole.2.1 14 = .ok (.aload_n 0, 1) := by decide +kernel
theorem dz_E_checkWhole_15 : decode zm_E_checkWhole.2.1 15 = .ok (.bipush 6, 2) := by decide +kernel
theorem dz_E_checkWhole_17 : decode zm_E_checkWhole.2.1 17 = .ok (.aload_n 1, 1) := by decide +kernel
theorem dz_E_checkWhole_18 : decode zm_E_checkWhole.2.1 18 = .ok (.getfield 52, 3) := by decide +kernel
theorem dz_E_checkWhole_21 : decode zm_E_checkWhole.2.1 21 = .ok (.invokevirtual 55, 3) := by decide +kernel
theorem dz_E_checkWhole_24 : decode zm_E_checkWhole.2.1 24 = .ok (.pop, 1) := by decide +kernel
theorem dz_E_checkWhole_25 : decode zm_E_checkWhole.2.1 25 = .ok (.goto 21, 3) := by decide +kernel
theorem dz_E_checkWhole_28 : decode zm_E_checkWhole.2.1 28 = .ok (.aload_n 2, 1) := by decide +kernel
theorem dz_E_checkWhole_29 : decode zm_E_checkWhole.2.1 29 = .ok (.invokevirtual 59, 3) := by decide +kernel
theorem dz_E_checkWhole_32 : decode zm_E_checkWhole.2.1 32 = .ok (.ifCond .eq 14, 3) := by decide +kernel
theorem dz_E_checkWhole_35 : decode zm_E_checkWhole.2.1 35 = .ok (.aload_n 0, 1) := by decide +kernel
theorem dz_E_checkWhole_36 : decode zm_E_checkWhole.2.1 36 = .ok (.bipush 7, 2) := by decide +kernel
theorem dz_E_checkWhole_38 : decode zm_E_checkWhole.2.1 38 = .ok (.aload_n 1, 1) := by decide +kernel
theorem dz_E_checkWhole_39 : decode zm_E_checkWhole.2.1 39 = .ok (.getfield 52, 3) := by decide +kernel
theorem dz_E_checkWhole_42 : decode zm_E_checkWhole.2.1 42 = .ok (.invokevirtual 55, 3) := by decide +kernel
theorem dz_E_checkWhole_45 : decode zm_E_checkWhole.2.1 45 = .ok (.pop, 1) := by decide +kernel
theorem dz_E_checkWhole_46 : decode zm_E_checkWhole.2.1 46 = .ok (.return_, 1) := by decide +kernel
theorem dz_E_tellLine_0 : decode zm_E_tellLine.2.1 0 = .ok (.aload_n 1, 1) := by decide +kernel
theorem dz_E_tellLine_1 : decode zm_E_tellLine.2.1 1 = .ok (.ldc 63, 2) := by decide +kernel
theorem dz_E_tellLine_3 : decode zm_E_tellLine.2.1 3 = .ok (.invokevirtual 65, 3) := by decide +kernel
theorem dz_E_tellLine_6 : decode zm_E_tellLine.2.1 6 = .ok (.ifCond .eq 10, 3) := by decide +kernel
theorem dz_E_tellLine_9 : decode zm_E_tellLine.2.1 9 = .ok (.aload_n 0, 1) := by decide +kernel
theorem dz_E_tellLine_10 : decode zm_E_tellLine.2.1 10 = .ok (.aload_n 1, 1) := by decide +kernel
theorem dz_E_tellLine_11 : decode zm_E_tellLine.2.1 11 = .ok (.aload_n 2, 1) := by decide +kernel
theorem dz_E_tellLine_12 : decode zm_E_tellLine.2.1 12 = .ok (.invokevirtual 69, 3) := by decide +kernel
theorem dz_E_tellLine_15 : decode zm_E_tellLine.2.1 15 = .ok (.ireturn, 1) := by decide +kernel
theorem dz_E_tellLine_16 : decode zm_E_tellLine.2.1 16 = .ok (.aload_n 1, 1) := by decide +kernel
theorem dz_E_tellLine_17 : decode zm_E_tellLine.2.1 17 = .ok (.ldc 72, 2) := by decide +kernel
theorem dz_E_tellLine_19 : decode zm_E_tellLine.2.1 19 = .ok (.invokevirtual 65, 3) := by decide +kernel
theorem dz_E_tellLine_22 : decode zm_E_tellLine.2.1 22 = .ok (.ifCond .eq 10, 3) := by decide +kernel
theorem dz_E_tellLine_25 : decode zm_E_tellLine.2.1 25 = .ok (.aload_n 0, 1) := by decide +kernel
theorem dz_E_tellLine_26 : decode zm_E_tellLine.2.1 26 = .ok (.aload_n 1, 1) := by decide +kernel
theorem dz_E_tellLine_27 : decode zm_E_tellLine.2.1 27 = .ok (.aload_n 2, 1) := by decide +kernel
theorem dz_E_tellLine_28 : decode zm_E_tellLine.2.1 28 = .ok (.invokevirtual 74, 3) := by decide +kernel
theorem dz_E_tellLine_31 : decode zm_E_tellLine.2.1 31 = .ok (.ireturn, 1) := by decide +kernel
theorem dz_E_tellLine_32 : decode zm_E_tellLine.2.1 32 = .ok (.aload_n 1, 1) := by decide +kernel
theorem dz_E_tellLine_33 : decode zm_E_tellLine.2.1 33 = .ok (.ldc 77, 2) := by decide +kernel
theorem dz_E_tellLine_35 : decode zm_E_tellLine.2.1 35 = .ok (.invokevirtual 65, 3) := by decide +kernel
theorem dz_E_tellLine_38 : decode zm_E_tellLine.2.1 38 = .ok (.ifCond .eq 10, 3) := by decide +kernel
theorem dz_E_tellLine_41 : decode zm_E_tellLine.2.1 41 = .ok (.aload_n 0, 1) := by decide +kernel
theorem dz_E_tellLine_42 : decode zm_E_tellLine.2.1 42 = .ok (.aload_n 1, 1) := by decide +kernel
theorem dz_E_tellLine_43 : decode zm_E_tellLine.2.1 43 = .ok (.aload_n 2, 1) := by decide +kernel
theorem dz_E_tellLine_44 : decode zm_E_tellLine.2.1 44 = .ok (.invokevirtual 79, 3) := by decide +kernel
theorem dz_E_tellLine_47 : decode zm_E_tellLine.2.1 47 = .ok (.ireturn, 1) := by decide +kernel
theorem dz_E_tellLine_48 : decode zm_E_tellLine.2.1 48 = .ok (.aload_n 1, 1) := by decide +kernel
theorem dz_E_tellLine_49 : decode zm_E_tellLine.2.1 49 = .ok (.ldc 82, 2) := by decide +kernel
theorem dz_E_tellLine_51 : decode zm_E_tellLine.2.1 51 = .ok (.invokevirtual 65, 3) := by decide +kernel
theorem dz_E_tellLine_54 : decode zm_E_tellLine.2.1 54 = .ok (.ifCond .eq 10, 3) := by decide +kernel
theorem dz_E_tellLine_57 : decode zm_E_tellLine.2.1 57 = .ok (.aload_n 0, 1) := by decide +kernel
theorem dz_E_tellLine_58 : decode zm_E_tellLine.2.1 58 = .ok (.aload_n 1, 1) := by decide +kernel
theorem dz_E_tellLine_59 : decode zm_E_tellLine.2.1 59 = .ok (.aload_n 2, 1) := by decide +kernel
theorem dz_E_tellLine_60 : decode zm_E_tellLine.2.1 60 = .ok (.invokevirtual 84, 3) := by decide +kernel
theorem dz_E_tellLine_63 : decode zm_E_tellLine.2.1 63 = .ok (.ireturn, 1) := by decide +kernel
theorem dz_E_tellLine_64 : decode zm_E_tellLine.2.1 64 = .ok (.aload_n 1, 1) := by decide +kernel
theorem dz_E_tellLine_65 : decode zm_E_tellLine.2.1 65 = .ok (.ldc 87, 2) := by decide +kernel
theorem dz_E_tellLine_67 : decode zm_E_tellLine.2.1 67 = .ok (.invokevirtual 65, 3) := by decide +kernel
theorem dz_E_tellLine_70 : decode zm_E_tellLine.2.1 70 = .ok (.ifCond .eq 10, 3) := by decide +kernel
theorem dz_E_tellLine_73 : decode zm_E_tellLine.2.1 73 = .ok (.aload_n 0, 1) := by decide +kernel
theorem dz_E_tellLine_74 : decode zm_E_tellLine.2.1 74 = .ok (.aload_n 1, 1) := by decide +kernel
theorem dz_E_tellLine_75 : decode zm_E_tellLine.2.1 75 = .ok (.aload_n 2, 1) := by decide +kernel
theorem dz_E_tellLine_76 : decode zm_E_tellLine.2.1 76 = .ok (.invokevirtual 89, 3) := by decide +kernel
theorem dz_E_tellLine_79 : decode zm_E_tellLine.2.1 79 = .ok (.ireturn, 1) := by decide +kernel
theorem dz_E_tellLine_80 : decode zm_E_tellLine.2.1 80 = .ok (.aload_n 0, 1) := by decide +kernel
theorem dz_E_tellLine_81 : decode zm_E_tellLine.2.1 81 = .ok (.aload_n 1, 1) := by decide +kernel
theorem dz_E_tellLine_82 : decode zm_E_tellLine.2.1 82 = .ok (.invokevirtual 92, 3) := by decide +kernel
theorem dz_E_tellLine_85 : decode zm_E_tellLine.2.1 85 = .ok (.ireturn, 1) := by decide +kernel
theorem dz_E_tellOne_0 : decode zm_E_tellOne.2.1 0 = .ok (.aload_n 2, 1) := by decide +kernel
theorem dz_E_tellOne_1 : decode zm_E_tellOne.2.1 1 = .ok (.getfield 96, 3) := by decide +kernel
theorem dz_E_tellOne_4 : decode zm_E_tellOne.2.1 4 = .ok (.bipush 6, 2) := by decide +kernel
theorem dz_E_tellOne_6 : decode zm_E_tellOne.2.1 6 = .ok (.if_icmp .lt 13, 3) := by decide +kernel
theorem dz_E_tellOne_9 : decode zm_E_tellOne.2.1 9 = .ok (.aload_n 0, 1) := by decide +kernel
theorem dz_E_tellOne_10 : decode zm_E_tellOne.2.1 10 = .ok (.iconst 5, 1) := by decide +kernel
theorem dz_E_tellOne_11 : decode zm_E_tellOne.2.1 11 = .ok (.aload_n 1, 1) := by decide +kernel
theorem dz_E_tellOne_12 : decode zm_E_tellOne.2.1 12 = .ok (.getfield 99, 3) := by decide +kernel
theorem dz_E_tellOne_15 : decode zm_E_tellOne.2.1 15 = .ok (.invokevirtual 55, 3) := by decide +kernel
theorem dz_E_tellOne_18 : decode zm_E_tellOne.2.1 18 = .ok (.ireturn, 1) := by decide +kernel
theorem dz_E_tellOne_19 : decode zm_E_tellOne.2.1 19 = .ok (.bipush (-4), 2) := by decide +kernel
theorem dz_E_tellOne_21 : decode zm_E_tellOne.2.1 21 = .ok (.istore_n 3, 1) := by decide +kernel
theorem dz_E_tellOne_22 : decode zm_E_tellOne.2.1 22 = .ok (.aload_n 1, 1) := by decide +kernel
theorem dz_E_tellOne_23 : decode zm_E_tellOne.2.1 23 = .ok (.invokevirtual 34, 3) := by decide +kernel
theorem dz_E_tellOne_26 : decode zm_E_tellOne.2.1 26 = .ok (.aload_n 1, 1) := by decide +kernel
theorem dz_E_tellOne_27 : decode zm_E_tellOne.2.1 27 = .ok (.getfield 37, 3) := by decide +kernel
theorem dz_E_tellOne_30 : decode zm_E_tellOne.2.1 30 = .ok (.iconst 2, 1) := by decide +kernel
theorem dz_E_tellOne_31 : decode zm_E_tellOne.2.1 31 = .ok (.if_icmp .ne 33, 3) := by decide +kernel
theorem dz_E_tellOne_34 : decode zm_E_tellOne.2.1 34 = .ok (.aload_n 2, 1) := by decide +kernel
theorem dz_E_tellOne_35 : decode zm_E_tellOne.2.1 35 = .ok (.aload_n 1, 1) := by decide +kernel
theorem dz_E_tellOne_36 : decode zm_E_tellOne.2.1 36 = .ok (.getfield 102, 3) := by decide +kernel
theorem dz_E_tellOne_39 : decode zm_E_tellOne.2.1 39 = .ok (.invokevirtual 105, 3) := by decide +kernel
theorem dz_E_tellOne_42 : decode zm_E_tellOne.2.1 42 = .ok (.ifCond .ne 13, 3) := by decide +kernel
theorem dz_E_tellOne_45 : decode zm_E_tellOne.2.1 45 = .ok (.aload_n 0, 1) := by decide +kernel
theorem dz_E_tellOne_46 : decode zm_E_tellOne.2.1 46 = .ok (.iconst 3, 1) := by decide +kernel
theorem dz_E_tellOne_47 : decode zm_E_tellOne.2.1 47 = .ok (.aload_n 1, 1) := by decide +kernel
theorem dz_E_tellOne_48 : decode zm_E_tellOne.2.1 48 = .ok (.getfield 99, 3) := by decide +kernel
theorem dz_E_tellOne_51 : decode zm_E_tellOne.2.1 51 = .ok (.invokevirtual 55, 3) := by decide +kernel
theorem dz_E_tellOne_54 : decode zm_E_tellOne.2.1 54 = .ok (.ireturn, 1) := by decide +kernel
theorem dz_E_tellOne_55 : decode zm_E_tellOne.2.1 55 = .ok (.aload_n 1, 1) := by decide +kernel
theorem dz_E_tellOne_56 : decode zm_E_tellOne.2.1 56 = .ok (.getfield 102, 3) := by decide +kernel
theorem dz_E_tellOne_59 : decode zm_E_tellOne.2.1 59 = .ok (.istore_n 3, 1) := by decide +kernel
theorem dz_E_tellOne_60 : decode zm_E_tellOne.2.1 60 = .ok (.aload_n 1, 1) := by decide +kernel
theorem dz_E_tellOne_61 : decode zm_E_tellOne.2.1 61 = .ok (.invokevirtual 34, 3) := by decide +kernel
theorem dz_E_tellOne_64 : decode zm_E_tellOne.2.1 64 = .ok (.aload_n 2, 1) := by decide +kernel
theorem dz_E_tellOne_65 : decode zm_E_tellOne.2.1 65 = .ok (.iload_n 3, 1) := by decide +kernel
theorem dz_E_tellOne_66 : decode zm_E_tellOne.2.1 66 = .ok (.invokevirtual 109, 3) := by decide +kernel
theorem dz_E_tellOne_69 : decode zm_E_tellOne.2.1 69 = .ok (.aload_n 1, 1) := by decide +kernel
theorem dz_E_tellOne_70 : decode zm_E_tellOne.2.1 70 = .ok (.getfield 37, 3) := by decide +kernel
theorem dz_E_tellOne_73 : decode zm_E_tellOne.2.1 73 = .ok (.iconst 3, 1) := by decide +kernel
theorem dz_E_tellOne_74 : decode zm_E_tellOne.2.1 74 = .ok (.if_icmp .eq 11, 3) := by decide +kernel
theorem dz_E_tellOne_77 : decode zm_E_tellOne.2.1 77 = .ok (.aload_n 0, 1) := by decide +kernel
theorem dz_E_tellOne_78 : decode zm_E_tellOne.2.1 78 = .ok (.aload_n 1, 1) := by decide +kernel
theorem dz_E_tellOne_79 : decode zm_E_tellOne.2.1 79 = .ok (.invokevirtual 92, 3) := by decide +kernel
theorem dz_E_tellOne_82 : decode zm_E_tellOne.2.1 82 = .ok (.ifCond .eq 7, 3) := by decide +kernel
theorem dz_E_tellOne_85 : decode zm_E_tellOne.2.1 85 = .ok (.iconst 1, 1) := by decide +kernel
theorem dz_E_tellOne_86 : decode zm_E_tellOne.2.1 86 = .ok (.goto 4, 3) := by decide +kernel
theorem dz_E_tellOne_89 : decode zm_E_tellOne.2.1 89 = .ok (.iconst 0, 1) := by decide +kernel
theorem dz_E_tellOne_90 : decode zm_E_tellOne.2.1 90 = .ok (.ireturn, 1) := by decide +kernel
theorem dz_E_tellFact_0 : decode zm_E_tellFact.2.1 0 = .ok (.aload_n 0, 1) := by decide +kernel
theorem dz_E_tellFact_1 : decode zm_E_tellFact.2.1 1 = .ok (.aload_n 1, 1) := by decide +kernel
theorem dz_E_tellFact_2 : decode zm_E_tellFact.2.1 2 = .ok (.iconst 0, 1) := by decide +kernel
theorem dz_E_tellFact_3 : decode zm_E_tellFact.2.1 3 = .ok (.iconst 5, 1) := by decide +kernel
theorem dz_E_tellFact_4 : decode zm_E_tellFact.2.1 4 = .ok (.invokevirtual 113, 3) := by decide +kernel
theorem dz_E_tellFact_7 : decode zm_E_tellFact.2.1 7 = .ok (.ifCond .ne 5, 3) := by decide +kernel
theorem dz_E_tellFact_10 : decode zm_E_tellFact.2.1 10 = .ok (.iconst 0, 1) := by decide +kernel
theorem dz_E_tellFact_11 : decode zm_E_tellFact.2.1 11 = .ok (.ireturn, 1) := by decide +kernel
theorem dz_E_tellFact_12 : decode zm_E_tellFact.2.1 12 = .ok (.aload_n 1, 1) := by decide +kernel
theorem dz_E_tellFact_13 : decode zm_E_tellFact.2.1 13 = .ok (.getfield 102, 3) := by decide +kernel
theorem dz_E_tellFact_16 : decode zm_E_tellFact.2.1 16 = .ok (.istore_n 3, 1) := by decide +kernel
theorem dz_E_tellFact_17 : decode zm_E_tellFact.2.1 17 = .ok (.aload_n 0, 1) := by decide +kernel
theorem dz_E_tellFact_18 : decode zm_E_tellFact.2.1 18 = .ok (.aload_n 1, 1) := by decide +kernel
theorem dz_E_tellFact_19 : decode zm_E_tellFact.2.1 19 = .ok (.iconst 0, 1) := by decide +kernel
theorem dz_E_tellFact_20 : decode zm_E_tellFact.2.1 20 = .ok (.iconst 4, 1) := by decide +kernel
theorem dz_E_tellFact_21 : decode zm_E_tellFact.2.1 21 = .ok (.invokevirtual 113, 3) := by decide +kernel
theorem dz_E_tellFact_24 : decode zm_E_tellFact.2.1 24 = .ok (.ifCond .ne 5, 3) := by decide +kernel
theorem dz_E_tellFact_27 : decode zm_E_tellFact.2.1 27 = .ok (.iconst 0, 1) := by decide +kernel
theorem dz_E_tellFact_28 : decode zm_E_tellFact.2.1 28 = .ok (.ireturn, 1) := by decide +kernel
theorem dz_E_tellFact_29 : decode zm_E_tellFact.2.1 29 = .ok (.iload_n 3, 1) := by decide +kernel
theorem dz_E_tellFact_30 : decode zm_E_tellFact.2.1 30 = .ok (.ifCond .lt 25, 3) := by decide +kernel
theorem dz_E_tellFact_33 : decode zm_E_tellFact.2.1 33 = .ok (.iload_n 3, 1) := by decide +kernel
theorem dz_E_tellFact_34 : decode zm_E_tellFact.2.1 34 = .ok (.bipush 6, 2) := by decide +kernel
theorem dz_E_tellFact_36 : decode zm_E_tellFact.2.1 36 = .ok (.if_icmp .ge 19, 3) := by decide +kernel
theorem dz_E_tellFact_39 : decode zm_E_tellFact.2.1 39 = .ok (.aload_n 2, 1) := by decide +kernel
theorem dz_E_tellFact_40 : decode zm_E_tellFact.2.1 40 = .ok (.getfield 117, 3) := by decide +kernel
theorem dz_E_tellFact_43 : decode zm_E_tellFact.2.1 43 = .ok (.iload_n 3, 1) := by decide +kernel
theorem dz_E_tellFact_44 : decode zm_E_tellFact.2.1 44 = .ok (.iaload, 1) := by decide +kernel
theorem dz_E_tellFact_45 : decode zm_E_tellFact.2.1 45 = .ok (.aload_n 1, 1) := by decide +kernel
theorem dz_E_tellFact_46 : decode zm_E_tellFact.2.1 46 = .ok (.getfield 102, 3) := by decide +kernel
theorem dz_E_tellFact_49 : decode zm_E_tellFact.2.1 49 = .ok (.ishr, 1) := by decide +kernel
theorem dz_E_tellFact_50 : decode zm_E_tellFact.2.1 50 = .ok (.iconst 1, 1) := by decide +kernel
theorem dz_E_tellFact_51 : decode zm_E_tellFact.2.1 51 = .ok (.iand, 1) := by decide +kernel
theorem dz_E_tellFact_52 : decode zm_E_tellFact.2.1 52 = .ok (.ifCond .eq 13, 3) := by decide +kernel
theorem dz_E_tellFact_55 : decode zm_E_tellFact.2.1 55 = .ok (.aload_n 0, 1) := by decide +kernel
theorem dz_E_tellFact_56 : decode zm_E_tellFact.2.1 56 = .ok (.iconst 4, 1) := by decide +kernel
theorem dz_E_tellFact_57 : decode zm_E_tellFact.2.1 57 = .ok (.aload_n 1, 1) := by decide +kernel
theorem dz_E_tellFact_58 : decode zm_E_tellFact.2.1 58 = .ok (.getfield 99, 3) := by decide +kernel
theorem dz_E_tellFact_61 : decode zm_E_tellFact.2.1 61 = .ok (.invokevirtual 55, 3) := by decide +kernel
theorem dz_E_tellFact_64 : decode zm_E_tellFact.2.1 64 = .ok (.ireturn, 1) := by decide +kernel
theorem dz_E_tellFact_65 : decode zm_E_tellFact.2.1 65 = .ok (.aload_n 2, 1) := by decide +kernel
theorem dz_E_tellFact_66 : decode zm_E_tellFact.2.1 66 = .ok (.getfield 117, 3) := by decide +kernel
theorem dz_E_tellFact_69 : decode zm_E_tellFact.2.1 69 = .ok (.iload_n 3, 1) := by decide +kernel
theorem dz_E_tellFact_70 : decode zm_E_tellFact.2.1 70 = .ok (.dup2, 1) := by decide +kernel
theorem dz_E_tellFact_71 : decode zm_E_tellFact.2.1 71 = .ok (.iaload, 1) := by decide +kernel
theorem dz_E_tellFact_72 : decode zm_E_tellFact.2.1 72 = .ok (.iconst 1, 1) := by decide +kernel
theorem dz_E_tellFact_73 : decode zm_E_tellFact.2.1 73 = .ok (.aload_n 1, 1) := by decide +kernel
theorem dz_E_tellFact_74 : decode zm_E_tellFact.2.1 74 = .ok (.getfield 102, 3) := by decide +kernel
theorem dz_E_tellFact_77 : decode zm_E_tellFact.2.1 77 = .ok (.ishl, 1) := by decide +kernel
theorem dz_E_tellFact_78 : decode zm_E_tellFact.2.1 78 = .ok (.ior, 1) := by decide +kernel
theorem dz_E_tellFact_79 : decode zm_E_tellFact.2.1 79 = .ok (.iastore, 1) := by decide +kernel
theorem dz_E_tellFact_80 : decode zm_E_tellFact.2.1 80 = .ok (.aload_n 0, 1) := by decide +kernel
theorem dz_E_tellFact_81 : decode zm_E_tellFact.2.1 81 = .ok (.dup, 1) := by decide +kernel
theorem dz_E_tellFact_82 : decode zm_E_tellFact.2.1 82 = .ok (.getfield 18, 3) := by decide +kernel
theorem dz_E_tellFact_85 : decode zm_E_tellFact.2.1 85 = .ok (.iconst 1, 1) := by decide +kernel
theorem dz_E_tellFact_86 : decode zm_E_tellFact.2.1 86 = .ok (.iload_n 3, 1) := by decide +kernel
theorem dz_E_tellFact_87 : decode zm_E_tellFact.2.1 87 = .ok (.ishl, 1) := by decide +kernel
theorem dz_E_tellFact_88 : decode zm_E_tellFact.2.1 88 = .ok (.ior, 1) := by decide +kernel
theorem dz_E_tellFact_89 : decode zm_E_tellFact.2.1 89 = .ok (.putfield 18, 3) := by decide +kernel
theorem dz_E_tellFact_92 : decode zm_E_tellFact.2.1 92 = .ok (.aload_n 0, 1) := by decide +kernel
theorem dz_E_tellFact_93 : decode zm_E_tellFact.2.1 93 = .ok (.aload_n 1, 1) := by decide +kernel
theorem dz_E_tellFact_94 : decode zm_E_tellFact.2.1 94 = .ok (.invokevirtual 121, 3) := by decide +kernel
theorem dz_E_tellFact_97 : decode zm_E_tellFact.2.1 97 = .ok (.ireturn, 1) := by decide +kernel
theorem dz_E_tellGone_0 : decode zm_E_tellGone.2.1 0 = .ok (.aload_n 0, 1) := by decide +kernel
theorem dz_E_tellGone_1 : decode zm_E_tellGone.2.1 1 = .ok (.aload_n 1, 1) := by decide +kernel
theorem dz_E_tellGone_2 : decode zm_E_tellGone.2.1 2 = .ok (.iconst 0, 1) := by decide +kernel
theorem dz_E_tellGone_3 : decode zm_E_tellGone.2.1 3 = .ok (.iconst 5, 1) := by decide +kernel
theorem dz_E_tellGone_4 : decode zm_E_tellGone.2.1 4 = .ok (.invokevirtual 113, 3) := by decide +kernel
theorem dz_E_tellGone_7 : decode zm_E_tellGone.2.1 7 = .ok (.ifCond .ne 5, 3) := by decide +kernel
theorem dz_E_tellGone_10 : decode zm_E_tellGone.2.1 10 = .ok (.iconst 0, 1) := by decide +kernel
theorem dz_E_tellGone_11 : decode zm_E_tellGone.2.1 11 = .ok (.ireturn, 1) := by decide +kernel
theorem dz_E_tellGone_12 : decode zm_E_tellGone.2.1 12 = .ok (.aload_n 2, 1) := by decide +kernel
theorem dz_E_tellGone_13 : decode zm_E_tellGone.2.1 13 = .ok (.aload_n 1, 1) := by decide +kernel
theorem dz_E_tellGone_14 : decode zm_E_tellGone.2.1 14 = .ok (.getfield 102, 3) := by decide +kernel
theorem dz_E_tellGone_17 : decode zm_E_tellGone.2.1 17 = .ok (.invokevirtual 124, 3) := by decide +kernel
theorem dz_E_tellGone_20 : decode zm_E_tellGone.2.1 20 = .ok (.ifCond .eq 13, 3) := by decide +kernel
theorem dz_E_tellGone_23 : decode zm_E_tellGone.2.1 23 = .ok (.aload_n 0, 1) := by decide +kernel
theorem dz_E_tellGone_24 : decode zm_E_tellGone.2.1 24 = .ok (.iconst 4, 1) := by decide +kernel
theorem dz_E_tellGone_25 : decode zm_E_tellGone.2.1 25 = .ok (.aload_n 1, 1) := by decide +kernel
theorem dz_E_tellGone_26 : decode zm_E_tellGone.2.1 26 = .ok (.getfield 99, 3) := by decide +kernel
theorem dz_E_tellGone_29 : decode zm_E_tellGone.2.1 29 = .ok (.invokevirtual 55, 3) := by decide +kernel
theorem dz_E_tellGone_32 : decode zm_E_tellGone.2.1 32 = .ok (.ireturn, 1) := by decide +kernel
theorem dz_E_tellGone_33 : decode zm_E_tellGone.2.1 33 = .ok (.aload_n 2, 1) := by decide +kernel
theorem dz_E_tellGone_34 : decode zm_E_tellGone.2.1 34 = .ok (.dup, 1) := by decide +kernel
theorem dz_E_tellGone_35 : decode zm_E_tellGone.2.1 35 = .ok (.getfield 127, 3) := by decide +kernel
theorem dz_E_tellGone_38 : decode zm_E_tellGone.2.1 38 = .ok (.iconst 1, 1) := by decide +kernel
theorem dz_E_tellGone_39 : decode zm_E_tellGone.2.1 39 = .ok (.aload_n 1, 1) := by decide +kernel
theorem dz_E_tellGone_40 : decode zm_E_tellGone.2.1 40 = .ok (.getfield 102, 3) := by decide +kernel
theorem dz_E_tellGone_43 : decode zm_E_tellGone.2.1 43 = .ok (.ishl, 1) := by decide +kernel
theorem dz_E_tellGone_44 : decode zm_E_tellGone.2.1 44 = .ok (.ior, 1) := by decide +kernel
theorem dz_E_tellGone_45 : decode zm_E_tellGone.2.1 45 = .ok (.putfield 127, 3) := by decide +kernel
theorem dz_E_tellGone_48 : decode zm_E_tellGone.2.1 48 = .ok (.aload_n 0, 1) := by decide +kernel
theorem dz_E_tellGone_49 : decode zm_E_tellGone.2.1 49 = .ok (.dup, 1) := by decide +kernel
theorem dz_E_tellGone_50 : decode zm_E_tellGone.2.1 50 = .ok (.getfield 18, 3) := by decide +kernel
theorem dz_E_tellGone_53 : decode zm_E_tellGone.2.1 53 = .ok (.iconst 1, 1) := by decide +kernel
theorem dz_E_tellGone_54 : decode zm_E_tellGone.2.1 54 = .ok (.aload_n 1, 1) := by decide +kernel
theorem dz_E_tellGone_55 : decode zm_E_tellGone.2.1 55 = .ok (.getfield 102, 3) := by decide +kernel
theorem dz_E_tellGone_58 : decode zm_E_tellGone.2.1 58 = .ok (.ishl, 1) := by decide +kernel
theorem dz_E_tellGone_59 : decode zm_E_tellGone.2.1 59 = .ok (.ior, 1) := by decide +kernel
theorem dz_E_tellGone_60 : decode zm_E_tellGone.2.1 60 = .ok (.putfield 18, 3) := by decide +kernel
theorem dz_E_tellGone_63 : decode zm_E_tellGone.2.1 63 = .ok (.aload_n 0, 1) := by decide +kernel
theorem dz_E_tellGone_64 : decode zm_E_tellGone.2.1 64 = .ok (.aload_n 1, 1) := by decide +kernel
theorem dz_E_tellGone_65 : decode zm_E_tellGone.2.1 65 = .ok (.invokevirtual 121, 3) := by decide +kernel
theorem dz_E_tellGone_68 : decode zm_E_tellGone.2.1 68 = .ok (.ireturn, 1) := by decide +kernel
theorem dz_E_tellOdds_0 : decode zm_E_tellOdds.2.1 0 = .ok (.aload_n 0, 1) := by decide +kernel
theorem dz_E_tellOdds_1 : decode zm_E_tellOdds.2.1 1 = .ok (.aload_n 1, 1) := by decide +kernel
theorem dz_E_tellOdds_2 : decode zm_E_tellOdds.2.1 2 = .ok (.iconst 0, 1) := by decide +kernel
theorem dz_E_tellOdds_3 : decode zm_E_tellOdds.2.1 3 = .ok (.iconst 4, 1) := by decide +kernel
theorem dz_E_tellOdds_4 : decode zm_E_tellOdds.2.1 4 = .ok (.invokevirtual 113, 3) := by decide +kernel
theorem dz_E_tellOdds_7 : decode zm_E_tellOdds.2.1 7 = .ok (.ifCond .ne 5, 3) := by decide +kernel
theorem dz_E_tellOdds_10 : decode zm_E_tellOdds.2.1 10 = .ok (.iconst 0, 1) := by decide +kernel
theorem dz_E_tellOdds_11 : decode zm_E_tellOdds.2.1 11 = .ok (.ireturn, 1) := by decide +kernel
theorem dz_E_tellOdds_12 : decode zm_E_tellOdds.2.1 12 = .ok (.aload_n 1, 1) := by decide +kernel
theorem dz_E_tellOdds_13 : decode zm_E_tellOdds.2.1 13 = .ok (.getfield 102, 3) := by decide +kernel
theorem dz_E_tellOdds_16 : decode zm_E_tellOdds.2.1 16 = .ok (.istore_n 3, 1) := by decide +kernel
theorem dz_E_tellOdds_17 : decode zm_E_tellOdds.2.1 17 = .ok (.aload_n 0, 1) := by decide +kernel
theorem dz_E_tellOdds_18 : decode zm_E_tellOdds.2.1 18 = .ok (.getfield 21, 3) := by decide +kernel
theorem dz_E_tellOdds_21 : decode zm_E_tellOdds.2.1 21 = .ok (.iload_n 3, 1) := by decide +kernel
theorem dz_E_tellOdds_22 : decode zm_E_tellOdds.2.1 22 = .ok (.ishr, 1) := by decide +kernel
theorem dz_E_tellOdds_23 : decode zm_E_tellOdds.2.1 23 = .ok (.iconst 1, 1) := by decide +kernel
theorem dz_E_tellOdds_24 : decode zm_E_tellOdds.2.1 24 = .ok (.iand, 1) := by decide +kernel
theorem dz_E_tellOdds_25 : decode zm_E_tellOdds.2.1 25 = .ok (.ifCond .eq 13, 3) := by decide +kernel
theorem dz_E_tellOdds_28 : decode zm_E_tellOdds.2.1 28 = .ok (.aload_n 0, 1) := by decide +kernel
theorem dz_E_tellOdds_29 : decode zm_E_tellOdds.2.1 29 = .ok (.iconst 4, 1) := by decide +kernel
theorem dz_E_tellOdds_30 : decode zm_E_tellOdds.2.1 30 = .ok (.aload_n 1, 1) := by decide +kernel
theorem dz_E_tellOdds_31 : decode zm_E_tellOdds.2.1 31 = .ok (.getfield 99, 3) := by decide +kernel
theorem dz_E_tellOdds_34 : decode zm_E_tellOdds.2.1 34 = .ok (.invokevirtual 55, 3) := by decide +kernel
theorem dz_E_tellOdds_37 : decode zm_E_tellOdds.2.1 37 = .ok (.ireturn, 1) := by decide +kernel
theorem dz_E_tellOdds_38 : decode zm_E_tellOdds.2.1 38 = .ok (.aload_n 0, 1) := by decide +kernel
theorem dz_E_tellOdds_39 : decode zm_E_tellOdds.2.1 39 = .ok (.aload_n 1, 1) := by decide +kernel
theorem dz_E_tellOdds_40 : decode zm_E_tellOdds.2.1 40 = .ok (.iconst 0, 1) := by decide +kernel
theorem dz_E_tellOdds_41 : decode zm_E_tellOdds.2.1 41 = .ok (.bipush 10, 2) := by decide +kernel
theorem dz_E_tellOdds_43 : decode zm_E_tellOdds.2.1 43 = .ok (.invokevirtual 113, 3) := by decide +kernel
theorem dz_E_tellOdds_46 : decode zm_E_tellOdds.2.1 46 = .ok (.ifCond .ne 5, 3) := by decide +kernel
theorem dz_E_tellOdds_49 : decode zm_E_tellOdds.2.1 49 = .ok (.iconst 0, 1) := by decide +kernel
theorem dz_E_tellOdds_50 : decode zm_E_tellOdds.2.1 50 = .ok (.ireturn, 1) := by decide +kernel
theorem dz_E_tellOdds_51 : decode zm_E_tellOdds.2.1 51 = .ok (.iload_n 3, 1) := by decide +kernel
theorem dz_E_tellOdds_52 : decode zm_E_tellOdds.2.1 52 = .ok (.invokestatic 129, 3) := by decide +kernel
theorem dz_E_tellOdds_55 : decode zm_E_tellOdds.2.1 55 = .ok (.ifCond .eq 13, 3) := by decide +kernel
theorem dz_E_tellOdds_58 : decode zm_E_tellOdds.2.1 58 = .ok (.aload_n 2, 1) := by decide +kernel
theorem dz_E_tellOdds_59 : decode zm_E_tellOdds.2.1 59 = .ok (.getfield 132, 3) := by decide +kernel
theorem dz_E_tellOdds_62 : decode zm_E_tellOdds.2.1 62 = .ok (.iload_n 3, 1) := by decide +kernel
theorem dz_E_tellOdds_63 : decode zm_E_tellOdds.2.1 63 = .ok (.aload_n 1, 1) := by decide +kernel
theorem dz_E_tellOdds_64 : decode zm_E_tellOdds.2.1 64 = .ok (.getfield 102, 3) := by decide +kernel
theorem dz_E_tellOdds_67 : decode zm_E_tellOdds.2.1 67 = .ok (.iastore, 1) := by decide +kernel
theorem dz_E_tellOdds_68 : decode zm_E_tellOdds.2.1 68 = .ok (.aload_n 0, 1) := by decide +kernel
theorem dz_E_tellOdds_69 : decode zm_E_tellOdds.2.1 69 = .ok (.dup, 1) := by decide +kernel
theorem dz_E_tellOdds_70 : decode zm_E_tellOdds.2.1 70 = .ok (.getfield 21, 3) := by decide +kernel
theorem dz_E_tellOdds_73 : decode zm_E_tellOdds.2.1 73 = .ok (.iconst 1, 1) := by decide +kernel
theorem dz_E_tellOdds_74 : decode zm_E_tellOdds.2.1 74 = .ok (.iload_n 3, 1) := by decide +kernel
theorem dz_E_tellOdds_75 : decode zm_E_tellOdds.2.1 75 = .ok (.ishl, 1) := by decide +kernel
theorem dz_E_tellOdds_76 : decode zm_E_tellOdds.2.1 76 = .ok (.ior, 1) := by decide +kernel
theorem dz_E_tellOdds_77 : decode zm_E_tellOdds.2.1 77 = .ok (.putfield 21, 3) := by decide +kernel
theorem dz_E_tellOdds_80 : decode zm_E_tellOdds.2.1 80 = .ok (.aload_n 0, 1) := by decide +kernel
theorem dz_E_tellOdds_81 : decode zm_E_tellOdds.2.1 81 = .ok (.aload_n 1, 1) := by decide +kernel
theorem dz_E_tellOdds_82 : decode zm_E_tellOdds.2.1 82 = .ok (.invokevirtual 121, 3) := by decide +kernel
theorem dz_E_tellOdds_85 : decode zm_E_tellOdds.2.1 85 = .ok (.ireturn, 1) := by decide +kernel
theorem dz_E_tellRule_0 : decode zm_E_tellRule.2.1 0 = .ok (.aload_n 2, 1) := by decide +kernel
theorem dz_E_tellRule_1 : decode zm_E_tellRule.2.1 1 = .ok (.getfield 134, 3) := by decide +kernel
theorem dz_E_tellRule_4 : decode zm_E_tellRule.2.1 4 = .ok (.iconst 5, 1) := by decide +kernel
theorem dz_E_tellRule_5 : decode zm_E_tellRule.2.1 5 = .ok (.if_icmp .lt 13, 3) := by decide +kernel
theorem dz_E_tellRule_8 : decode zm_E_tellRule.2.1 8 = .ok (.aload_n 0, 1) := by decide +kernel
theorem dz_E_tellRule_9 : decode zm_E_tellRule.2.1 9 = .ok (.iconst 5, 1) := by decide +kernel
theorem dz_E_tellRule_10 : decode zm_E_tellRule.2.1 10 = .ok (.aload_n 1, 1) := by decide +kernel
theorem dz_E_tellRule_11 : decode zm_E_tellRule.2.1 11 = .ok (.getfield 99, 3) := by decide +kernel
theorem dz_E_tellRule_14 : decode zm_E_tellRule.2.1 14 = .ok (.invokevirtual 55, 3) := by decide +kernel
theorem dz_E_tellRule_17 : decode zm_E_tellRule.2.1 17 = .ok (.ireturn, 1) := by decide +kernel
theorem dz_E_tellRule_18 : decode zm_E_tellRule.2.1 18 = .ok (.aload_n 0, 1) := by decide +kernel
theorem dz_E_tellRule_19 : decode zm_E_tellRule.2.1 19 = .ok (.aload_n 1, 1) := by decide +kernel
theorem dz_E_tellRule_20 : decode zm_E_tellRule.2.1 20 = .ok (.iconst 1, 1) := by decide +kernel
theorem dz_E_tellRule_21 : decode zm_E_tellRule.2.1 21 = .ok (.bipush 9, 2) := by decide +kernel
theorem dz_E_tellRule_23 : decode zm_E_tellRule.2.1 23 = .ok (.invokevirtual 113, 3) := by decide +kernel
theorem dz_E_tellRule_26 : decode zm_E_tellRule.2.1 26 = .ok (.ifCond .ne 5, 3) := by decide +kernel
theorem dz_E_tellRule_29 : decode zm_E_tellRule.2.1 29 = .ok (.iconst 0, 1) := by decide +kernel
theorem dz_E_tellRule_30 : decode zm_E_tellRule.2.1 30 = .ok (.ireturn, 1) := by decide +kernel
theorem dz_E_tellRule_31 : decode zm_E_tellRule.2.1 31 = .ok (.aload_n 1, 1) := by decide +kernel
theorem dz_E_tellRule_32 : decode zm_E_tellRule.2.1 32 = .ok (.getfield 102, 3) := by decide +kernel
theorem dz_E_tellRule_35 : decode zm_E_tellRule.2.1 35 = .ok (.istore_n 3, 1) := by decide +kernel
theorem dz_E_tellRule_36 : decode zm_E_tellRule.2.1 36 = .ok (.aload_n 0, 1) := by decide +kernel
theorem dz_E_tellRule_37 : decode zm_E_tellRule.2.1 37 = .ok (.aload_n 1, 1) := by decide +kernel
theorem dz_E_tellRule_38 : decode zm_E_tellRule.2.1 38 = .ok (.iconst 0, 1) := by decide +kernel
theorem dz_E_tellRule_39 : decode zm_E_tellRule.2.1 39 = .ok (.iconst 3, 1) := by decide +kernel
theorem dz_E_tellRule_40 : decode zm_E_tellRule.2.1 40 = .ok (.invokevirtual 113, 3) := by decide +kernel
theorem dz_E_tellRule_43 : decode zm_E_tellRule.2.1 43 = .ok (.ifCond .ne 5, 3) := by decide +kernel
theorem dz_E_tellRule_46 : decode zm_E_tellRule.2.1 46 = .ok (.iconst 0, 1) := by decide +kernel
theorem dz_E_tellRule_47 : decode zm_E_tellRule.2.1 47 = .ok (.ireturn, 1) := by decide +kernel
theorem dz_E_tellRule_48 : decode zm_E_tellRule.2.1 48 = .ok (.aload_n 1, 1) := by decide +kernel
theorem dz_E_tellRule_49 : decode zm_E_tellRule.2.1 49 = .ok (.getfield 102, 3) := by decide +kernel
theorem dz_E_tellRule_52 : decode zm_E_tellRule.2.1 52 = .ok (.istore 4, 2) := by decide +kernel
theorem dz_E_tellRule_54 : decode zm_E_tellRule.2.1 54 = .ok (.aload_n 1, 1) := by decide +kernel
theorem dz_E_tellRule_55 : decode zm_E_tellRule.2.1 55 = .ok (.invokevirtual 34, 3) := by decide +kernel
theorem dz_E_tellRule_58 : decode zm_E_tellRule.2.1 58 = .ok (.aload_n 1, 1) := by decide +kernel
theorem dz_E_tellRule_59 : decode zm_E_tellRule.2.1 59 = .ok (.invokestatic 137, 3) := by decide +kernel
theorem dz_E_tellRule_62 : decode zm_E_tellRule.2.1 62 = .ok (.istore 5, 2) := by decide +kernel
theorem dz_E_tellRule_64 : decode zm_E_tellRule.2.1 64 = .ok (.iload 5, 2) := by decide +kernel
theorem dz_E_tellRule_66 : decode zm_E_tellRule.2.1 66 = .ok (.bipush (-4), 2) := by decide +kernel
theorem dz_E_tellRule_68 : decode zm_E_tellRule.2.1 68 = .ok (.if_icmp .ne 9, 3) := by decide +kernel
theorem dz_E_tellRule_71 : decode zm_E_tellRule.2.1 71 = .ok (.aload_n 0, 1) := by decide +kernel
theorem dz_E_tellRule_72 : decode zm_E_tellRule.2.1 72 = .ok (.aload_n 1, 1) := by decide +kernel
theorem dz_E_tellRule_73 : decode zm_E_tellRule.2.1 73 = .ok (.invokevirtual 92, 3) := by decide +kernel
theorem dz_E_tellRule_76 : decode zm_E_tellRule.2.1 76 = .ok (.ireturn, 1) := by decide +kernel
theorem dz_E_tellRule_77 : decode zm_E_tellRule.2.1 77 = .ok (.aload_n 0, 1) := by decide +kernel
theorem dz_E_tellRule_78 : decode zm_E_tellRule.2.1 78 = .ok (.aload_n 1, 1) := by decide +kernel
theorem dz_E_tellRule_79 : decode zm_E_tellRule.2.1 79 = .ok (.iload 5, 2) := by decide +kernel
theorem dz_E_tellRule_81 : decode zm_E_tellRule.2.1 81 = .ok (.iconst 1, 1) := by decide +kernel
theorem dz_E_tellRule_82 : decode zm_E_tellRule.2.1 82 = .ok (.if_icmp .ne 7, 3) := by decide +kernel
theorem dz_E_tellRule_85 : decode zm_E_tellRule.2.1 85 = .ok (.iconst 1, 1) := by decide +kernel
theorem dz_E_tellRule_86 : decode zm_E_tellRule.2.1 86 = .ok (.goto 4, 3) := by decide +kernel
theorem dz_E_tellRule_89 : decode zm_E_tellRule.2.1 89 = .ok (.iconst 0, 1) := by decide +kernel
theorem dz_E_tellRule_90 : decode zm_E_tellRule.2.1 90 = .ok (.iload 5, 2) := by decide +kernel
theorem dz_E_tellRule_92 : decode zm_E_tellRule.2.1 92 = .ok (.invokestatic 141, 3) := by decide +kernel
theorem dz_E_tellRule_95 : decode zm_E_tellRule.2.1 95 = .ok (.invokevirtual 113, 3) := by decide +kernel
theorem dz_E_tellRule_98 : decode zm_E_tellRule.2.1 98 = .ok (.ifCond .ne 5, 3) := by decide +kernel
theorem dz_E_tellRule_101 : decode zm_E_tellRule.2.1 101 = .ok (.iconst 0, 1) := by decide +kernel
theorem dz_E_tellRule_102 : decode zm_E_tellRule.2.1 102 = .ok (.ireturn, 1) := by decide +kernel
theorem dz_E_tellRule_103 : decode zm_E_tellRule.2.1 103 = .ok (.aload_n 1, 1) := by decide +kernel
theorem dz_E_tellRule_104 : decode zm_E_tellRule.2.1 104 = .ok (.getfield 102, 3) := by decide +kernel
theorem dz_E_tellRule_107 : decode zm_E_tellRule.2.1 107 = .ok (.istore 6, 2) := by decide +kernel
theorem dz_E_tellRule_109 : decode zm_E_tellRule.2.1 109 = .ok (.aload_n 1, 1) := by decide +kernel
theorem dz_E_tellRule_110 : decode zm_E_tellRule.2.1 110 = .ok (.invokevirtual 34, 3) := by decide +kernel
theorem dz_E_tellRule_113 : decode zm_E_tellRule.2.1 113 = .ok (.aload_n 1, 1) := by decide +kernel
theorem dz_E_tellRule_114 : decode zm_E_tellRule.2.1 114 = .ok (.invokestatic 145, 3) := by decide +kernel
theorem dz_E_tellRule_117 : decode zm_E_tellRule.2.1 117 = .ok (.istore 7, 2) := by decide +kernel
theorem dz_E_tellRule_119 : decode zm_E_tellRule.2.1 119 = .ok (.iload 7, 2) := by decide +kernel
theorem dz_E_tellRule_121 : decode zm_E_tellRule.2.1 121 = .ok (.bipush (-4), 2) := by decide +kernel
theorem dz_E_tellRule_123 : decode zm_E_tellRule.2.1 123 = .ok (.if_icmp .ne 9, 3) := by decide +kernel
theorem dz_E_tellRule_126 : decode zm_E_tellRule.2.1 126 = .ok (.aload_n 0, 1) := by decide +kernel
theorem dz_E_tellRule_127 : decode zm_E_tellRule.2.1 127 = .ok (.aload_n 1, 1) := by decide +kernel
theorem dz_E_tellRule_128 : decode zm_E_tellRule.2.1 128 = .ok (.invokevirtual 92, 3) := by decide +kernel
theorem dz_E_tellRule_131 : decode zm_E_tellRule.2.1 131 = .ok (.ireturn, 1) := by decide +kernel
theorem dz_E_tellRule_132 : decode zm_E_tellRule.2.1 132 = .ok (.aload_n 2, 1) := by decide +kernel
theorem dz_E_tellRule_133 : decode zm_E_tellRule.2.1 133 = .ok (.iload_n 3, 1) := by decide +kernel
theorem dz_E_tellRule_134 : decode zm_E_tellRule.2.1 134 = .ok (.iload 4, 2) := by decide +kernel
theorem dz_E_tellRule_136 : decode zm_E_tellRule.2.1 136 = .ok (.iload 5, 2) := by decide +kernel
theorem dz_E_tellRule_138 : decode zm_E_tellRule.2.1 138 = .ok (.iload 6, 2) := by decide +kernel
theorem dz_E_tellRule_140 : decode zm_E_tellRule.2.1 140 = .ok (.iload 7, 2) := by decide +kernel
theorem dz_E_tellRule_142 : decode zm_E_tellRule.2.1 142 = .ok (.invokevirtual 148, 3) := by decide +kernel
theorem dz_E_tellRule_145 : decode zm_E_tellRule.2.1 145 = .ok (.iload 5, 2) := by decide +kernel
theorem dz_E_tellRule_147 : decode zm_E_tellRule.2.1 147 = .ok (.iconst 4, 1) := by decide +kernel
theorem dz_E_tellRule_148 : decode zm_E_tellRule.2.1 148 = .ok (.if_icmp .ne 16, 3) := by decide +kernel
theorem dz_E_tellRule_151 : decode zm_E_tellRule.2.1 151 = .ok (.aload_n 0, 1) := by decide +kernel
theorem dz_E_tellRule_152 : decode zm_E_tellRule.2.1 152 = .ok (.dup, 1) := by decide +kernel
theorem dz_E_tellRule_153 : decode zm_E_tellRule.2.1 153 = .ok (.getfield 18, 3) := by decide +kernel
theorem dz_E_tellRule_156 : decode zm_E_tellRule.2.1 156 = .ok (.iconst 1, 1) := by decide +kernel
theorem dz_E_tellRule_157 : decode zm_E_tellRule.2.1 157 = .ok (.iload 6, 2) := by decide +kernel
theorem dz_E_tellRule_159 : decode zm_E_tellRule.2.1 159 = .ok (.ishl, 1) := by decide +kernel
theorem dz_E_tellRule_160 : decode zm_E_tellRule.2.1 160 = .ok (.ior, 1) := by decide +kernel
theorem dz_E_tellRule_161 : decode zm_E_tellRule.2.1 161 = .ok (.putfield 18, 3) := by decide +kernel
theorem dz_E_tellRule_164 : decode zm_E_tellRule.2.1 164 = .ok (.aload_n 0, 1) := by decide +kernel
theorem dz_E_tellRule_165 : decode zm_E_tellRule.2.1 165 = .ok (.aload_n 1, 1) := by decide +kernel
theorem dz_E_tellRule_166 : decode zm_E_tellRule.2.1 166 = .ok (.invokevirtual 121, 3) := by decide +kernel
theorem dz_E_tellRule_169 : decode zm_E_tellRule.2.1 169 = .ok (.ireturn, 1) := by decide +kernel
theorem dz_E_claimNamed_0 : decode zm_E_claimNamed.2.1 0 = .ok (.aload_n 0, 1) := by decide +kernel
theorem dz_E_claimNamed_1 : decode zm_E_claimNamed.2.1 1 = .ok (.ldc 152, 2) := by decide +kernel
theorem dz_E_claimNamed_3 : decode zm_E_claimNamed.2.1 3 = .ok (.invokevirtual 65, 3) := by decide +kernel
theorem dz_E_claimNamed_6 : decode zm_E_claimNamed.2.1 6 = .ok (.ifCond .eq 5, 3) := by decide +kernel
theorem dz_E_claimNamed_9 : decode zm_E_claimNamed.2.1 9 = .ok (.iconst 0, 1) := by decide +kernel
theorem dz_E_claimNamed_10 : decode zm_E_claimNamed.2.1 10 = .ok (.ireturn, 1) := by decide +kernel
theorem dz_E_claimNamed_11 : decode zm_E_claimNamed.2.1 11 = .ok (.aload_n 0, 1) := by decide +kernel
theorem dz_E_claimNamed_12 : decode zm_E_claimNamed.2.1 12 = .ok (.ldc 154, 2) := by decide +kernel
theorem dz_E_claimNamed_14 : decode zm_E_claimNamed.2.1 14 = .ok (.invokevirtual 65, 3) := by decide +kernel
theorem dz_E_claimNamed_17 : decode zm_E_claimNamed.2.1 17 = .ok (.ifCond .eq 5, 3) := by decide +kernel
theorem dz_E_claimNamed_20 : decode zm_E_claimNamed.2.1 20 = .ok (.iconst 1, 1) := by decide +kernel
theorem dz_E_claimNamed_21 : decode zm_E_claimNamed.2.1 21 = .ok (.ireturn, 1) := by decide +kernel
theorem dz_E_claimNamed_22 : decode zm_E_claimNamed.2.1 22 = .ok (.aload_n 0, 1) := by decide +kernel
theorem dz_E_claimNamed_23 : decode zm_E_claimNamed.2.1 23 = .ok (.ldc 72, 2) := by decide +kernel
theorem dz_E_claimNamed_25 : decode zm_E_claimNamed.2.1 25 = .ok (.invokevirtual 65, 3) := by decide +kernel
theorem dz_E_claimNamed_28 : decode zm_E_claimNamed.2.1 28 = .ok (.ifCond .eq 5, 3) := by decide +kernel
theorem dz_E_claimNamed_31 : decode zm_E_claimNamed.2.1 31 = .ok (.iconst 2, 1) := by decide +kernel
theorem dz_E_claimNamed_32 : decode zm_E_claimNamed.2.1 32 = .ok (.ireturn, 1) := by decide +kernel
theorem dz_E_claimNamed_33 : decode zm_E_claimNamed.2.1 33 = .ok (.aload_n 0, 1) := by decide +kernel
theorem dz_E_claimNamed_34 : decode zm_E_claimNamed.2.1 34 = .ok (.ldc 156, 2) := by decide +kernel
theorem dz_E_claimNamed_36 : decode zm_E_claimNamed.2.1 36 = .ok (.invokevirtual 65, 3) := by decide +kernel
theorem dz_E_claimNamed_39 : decode zm_E_claimNamed.2.1 39 = .ok (.ifCond .eq 5, 3) := by decide +kernel
theorem dz_E_claimNamed_42 : decode zm_E_claimNamed.2.1 42 = .ok (.iconst 3, 1) := by decide +kernel
theorem dz_E_claimNamed_43 : decode zm_E_claimNamed.2.1 43 = .ok (.ireturn, 1) := by decide +kernel
theorem dz_E_claimNamed_44 : decode zm_E_claimNamed.2.1 44 = .ok (.aload_n 0, 1) := by decide +kernel
theorem dz_E_claimNamed_45 : decode zm_E_claimNamed.2.1 45 = .ok (.ldc 158, 2) := by decide +kernel
theorem dz_E_claimNamed_47 : decode zm_E_claimNamed.2.1 47 = .ok (.invokevirtual 65, 3) := by decide +kernel
theorem dz_E_claimNamed_50 : decode zm_E_claimNamed.2.1 50 = .ok (.ifCond .eq 5, 3) := by decide +kernel
theorem dz_E_claimNamed_53 : decode zm_E_claimNamed.2.1 53 = .ok (.iconst 4, 1) := by decide +kernel
theorem dz_E_claimNamed_54 : decode zm_E_claimNamed.2.1 54 = .ok (.ireturn, 1) := by decide +kernel
theorem dz_E_claimNamed_55 : decode zm_E_claimNamed.2.1 55 = .ok (.aload_n 0, 1) := by decide +kernel
theorem dz_E_claimNamed_56 : decode zm_E_claimNamed.2.1 56 = .ok (.ldc 160, 2) := by decide +kernel
theorem dz_E_claimNamed_58 : decode zm_E_claimNamed.2.1 58 = .ok (.invokevirtual 65, 3) := by decide +kernel
theorem dz_E_claimNamed_61 : decode zm_E_claimNamed.2.1 61 = .ok (.ifCond .eq 7, 3) := by decide +kernel
theorem dz_E_claimNamed_64 : decode zm_E_claimNamed.2.1 64 = .ok (.iconst 5, 1) := by decide +kernel
theorem dz_E_claimNamed_65 : decode zm_E_claimNamed.2.1 65 = .ok (.goto 5, 3) := by decide +kernel
theorem dz_E_claimNamed_68 : decode zm_E_claimNamed.2.1 68 = .ok (.bipush (-4), 2) := by decide +kernel
theorem dz_E_claimNamed_70 : decode zm_E_claimNamed.2.1 70 = .ok (.ireturn, 1) := by decide +kernel
theorem dz_E_mostOf_0 : decode zm_E_mostOf.2.1 0 = .ok (.iload_n 0, 1) := by decide +kernel
theorem dz_E_mostOf_1 : decode zm_E_mostOf.2.1 1 = .ok (.tableswitch 41 0 3 #[31, 34, 37, 39], 31) := by decide +kernel
theorem dz_E_mostOf_32 : decode zm_E_mostOf.2.1 32 = .ok (.bipush 9, 2) := by decide +kernel
theorem dz_E_mostOf_34 : decode zm_E_mostOf.2.1 34 = .ok (.ireturn, 1) := by decide +kernel
theorem dz_E_mostOf_35 : decode zm_E_mostOf.2.1 35 = .ok (.bipush 6, 2) := by decide +kernel
theorem dz_E_mostOf_37 : decode zm_E_mostOf.2.1 37 = .ok (.ireturn, 1) := by decide +kernel
theorem dz_E_mostOf_38 : decode zm_E_mostOf.2.1 38 = .ok (.iconst 4, 1) := by decide +kernel
theorem dz_E_mostOf_39 : decode zm_E_mostOf.2.1 39 = .ok (.ireturn, 1) := by decide +kernel
theorem dz_E_mostOf_40 : decode zm_E_mostOf.2.1 40 = .ok (.iconst 3, 1) := by decide +kernel
theorem dz_E_mostOf_41 : decode zm_E_mostOf.2.1 41 = .ok (.ireturn, 1) := by decide +kernel
theorem dz_E_mostOf_42 : decode zm_E_mostOf.2.1 42 = .ok (.iconst 5, 1) := by decide +kernel
theorem dz_E_mostOf_43 : decode zm_E_mostOf.2.1 43 = .ok (.ireturn, 1) := by decide +kernel
theorem dz_E_pickNamed_0 : decode zm_E_pickNamed.2.1 0 = .ok (.aload_n 0, 1) := by decide +kernel
theorem dz_E_pickNamed_1 : decode zm_E_pickNamed.2.1 1 = .ok (.ldc 162, 2) := by decide +kernel
theorem dz_E_pickNamed_3 : decode zm_E_pickNamed.2.1 3 = .ok (.invokevirtual 65, 3) := by decide +kernel
theorem dz_E_pickNamed_6 : decode zm_E_pickNamed.2.1 6 = .ok (.ifCond .eq 5, 3) := by decide +kernel
theorem dz_E_pickNamed_9 : decode zm_E_pickNamed.2.1 9 = .ok (.iconst 0, 1) := by decide +kernel
theorem dz_E_pickNamed_10 : decode zm_E_pickNamed.2.1 10 = .ok (.ireturn, 1) := by decide +kernel
theorem dz_E_pickNamed_11 : decode zm_E_pickNamed.2.1 11 = .ok (.aload_n 0, 1) := by decide +kernel
theorem dz_E_pickNamed_12 : decode zm_E_pickNamed.2.1 12 = .ok (.ldc 164, 2) := by decide +kernel
theorem dz_E_pickNamed_14 : decode zm_E_pickNamed.2.1 14 = .ok (.invokevirtual 65, 3) := by decide +kernel
theorem dz_E_pickNamed_17 : decode zm_E_pickNamed.2.1 17 = .ok (.ifCond .eq 5, 3) := by decide +kernel
theorem dz_E_pickNamed_20 : decode zm_E_pickNamed.2.1 20 = .ok (.iconst 1, 1) := by decide +kernel
theorem dz_E_pickNamed_21 : decode zm_E_pickNamed.2.1 21 = .ok (.ireturn, 1) := by decide +kernel
theorem dz_E_pickNamed_22 : decode zm_E_pickNamed.2.1 22 = .ok (.aload_n 0, 1) := by decide +kernel
theorem dz_E_pickNamed_23 : decode zm_E_pickNamed.2.1 23 = .ok (.ldc 166, 2) := by decide +kernel
theorem dz_E_pickNamed_25 : decode zm_E_pickNamed.2.1 25 = .ok (.invokevirtual 65, 3) := by decide +kernel
theorem dz_E_pickNamed_28 : decode zm_E_pickNamed.2.1 28 = .ok (.ifCond .eq 7, 3) := by decide +kernel
theorem dz_E_pickNamed_31 : decode zm_E_pickNamed.2.1 31 = .ok (.iconst 2, 1) := by decide +kernel
theorem dz_E_pickNamed_32 : decode zm_E_pickNamed.2.1 32 = .ok (.goto 5, 3) := by decide +kernel
theorem dz_E_pickNamed_35 : decode zm_E_pickNamed.2.1 35 = .ok (.bipush (-4), 2) := by decide +kernel
theorem dz_E_pickNamed_37 : decode zm_E_pickNamed.2.1 37 = .ok (.ireturn, 1) := by decide +kernel
theorem dz_E_number_0 : decode zm_E_number.2.1 0 = .ok (.aload_n 1, 1) := by decide +kernel
theorem dz_E_number_1 : decode zm_E_number.2.1 1 = .ok (.invokevirtual 34, 3) := by decide +kernel
theorem dz_E_number_4 : decode zm_E_number.2.1 4 = .ok (.aload_n 1, 1) := by decide +kernel
theorem dz_E_number_5 : decode zm_E_number.2.1 5 = .ok (.getfield 37, 3) := by decide +kernel
theorem dz_E_number_8 : decode zm_E_number.2.1 8 = .ok (.iconst 2, 1) := by decide +kernel
theorem dz_E_number_9 : decode zm_E_number.2.1 9 = .ok (.if_icmp .eq 9, 3) := by decide +kernel
theorem dz_E_number_12 : decode zm_E_number.2.1 12 = .ok (.aload_n 0, 1) := by decide +kernel
theorem dz_E_number_13 : decode zm_E_number.2.1 13 = .ok (.aload_n 1, 1) := by decide +kernel
theorem dz_E_number_14 : decode zm_E_number.2.1 14 = .ok (.invokevirtual 92, 3) := by decide +kernel
theorem dz_E_number_17 : decode zm_E_number.2.1 17 = .ok (.ireturn, 1) := by decide +kernel
theorem dz_E_number_18 : decode zm_E_number.2.1 18 = .ok (.aload_n 1, 1) := by decide +kernel
theorem dz_E_number_19 : decode zm_E_number.2.1 19 = .ok (.getfield 102, 3) := by decide +kernel
theorem dz_E_number_22 : decode zm_E_number.2.1 22 = .ok (.iload_n 2, 1) := by decide +kernel
theorem dz_E_number_23 : decode zm_E_number.2.1 23 = .ok (.if_icmp .lt 11, 3) := by decide +kernel
theorem dz_E_number_26 : decode zm_E_number.2.1 26 = .ok (.aload_n 1, 1) := by decide +kernel
theorem dz_E_number_27 : decode zm_E_number.2.1 27 = .ok (.getfield 102, 3) := by decide +kernel
theorem dz_E_number_30 : decode zm_E_number.2.1 30 = .ok (.iload_n 3, 1) := by decide +kernel
theorem dz_E_number_31 : decode zm_E_number.2.1 31 = .ok (.if_icmp .le 15, 3) := by decide +kernel
theorem dz_E_number_34 : decode zm_E_number.2.1 34 = .ok (.aload_n 0, 1) := by decide +kernel
theorem dz_E_number_35 : decode zm_E_number.2.1 35 = .ok (.iconst 3, 1) := by decide +kernel
theorem dz_E_number_36 : decode zm_E_number.2.1 36 = .ok (.aload_n 1, 1) := by decide +kernel
theorem dz_E_number_37 : decode zm_E_number.2.1 37 = .ok (.getfield 99, 3) := by decide +kernel
theorem dz_E_number_40 : decode zm_E_number.2.1 40 = .ok (.invokevirtual 55, 3) := by decide +kernel
theorem dz_E_number_43 : decode zm_E_number.2.1 43 = .ok (.ifCond .eq 7, 3) := by decide +kernel
theorem dz_E_number_46 : decode zm_E_number.2.1 46 = .ok (.iconst 1, 1) := by decide +kernel
theorem dz_E_number_47 : decode zm_E_number.2.1 47 = .ok (.goto 4, 3) := by decide +kernel
theorem dz_E_number_50 : decode zm_E_number.2.1 50 = .ok (.iconst 0, 1) := by decide +kernel
theorem dz_E_number_51 : decode zm_E_number.2.1 51 = .ok (.ireturn, 1) := by decide +kernel
theorem dz_E_stop_0 : decode zm_E_stop.2.1 0 = .ok (.aload_n 1, 1) := by decide +kernel
theorem dz_E_stop_1 : decode zm_E_stop.2.1 1 = .ok (.invokevirtual 34, 3) := by decide +kernel
theorem dz_E_stop_4 : decode zm_E_stop.2.1 4 = .ok (.aload_n 1, 1) := by decide +kernel
theorem dz_E_stop_5 : decode zm_E_stop.2.1 5 = .ok (.getfield 37, 3) := by decide +kernel
theorem dz_E_stop_8 : decode zm_E_stop.2.1 8 = .ok (.iconst 3, 1) := by decide +kernel
theorem dz_E_stop_9 : decode zm_E_stop.2.1 9 = .ok (.if_icmp .eq 11, 3) := by decide +kernel
theorem dz_E_stop_12 : decode zm_E_stop.2.1 12 = .ok (.aload_n 0, 1) := by decide +kernel
theorem dz_E_stop_13 : decode zm_E_stop.2.1 13 = .ok (.aload_n 1, 1) := by decide +kernel
theorem dz_E_stop_14 : decode zm_E_stop.2.1 14 = .ok (.invokevirtual 92, 3) := by decide +kernel
theorem dz_E_stop_17 : decode zm_E_stop.2.1 17 = .ok (.ifCond .eq 7, 3) := by decide +kernel
theorem dz_E_stop_20 : decode zm_E_stop.2.1 20 = .ok (.iconst 1, 1) := by decide +kernel
theorem dz_E_stop_21 : decode zm_E_stop.2.1 21 = .ok (.goto 4, 3) := by decide +kernel
theorem dz_E_stop_24 : decode zm_E_stop.2.1 24 = .ok (.iconst 0, 1) := by decide +kernel
theorem dz_E_stop_25 : decode zm_E_stop.2.1 25 = .ok (.ireturn, 1) := by decide +kernel
theorem dz_E_misplaced_0 : decode zm_E_misplaced.2.1 0 = .ok (.aload_n 0, 1) := by decide +kernel
theorem dz_E_misplaced_1 : decode zm_E_misplaced.2.1 1 = .ok (.aload_n 1, 1) := by decide +kernel
theorem dz_E_misplaced_2 : decode zm_E_misplaced.2.1 2 = .ok (.getfield 37, 3) := by decide +kernel
theorem dz_E_misplaced_5 : decode zm_E_misplaced.2.1 5 = .ok (.iconst 4, 1) := by decide +kernel
theorem dz_E_misplaced_6 : decode zm_E_misplaced.2.1 6 = .ok (.if_icmp .ne 7, 3) := by decide +kernel
theorem dz_E_misplaced_9 : decode zm_E_misplaced.2.1 9 = .ok (.iconst 1, 1) := by decide +kernel
theorem dz_E_misplaced_10 : decode zm_E_misplaced.2.1 10 = .ok (.goto 4, 3) := by decide +kernel
theorem dz_E_misplaced_13 : decode zm_E_misplaced.2.1 13 = .ok (.iconst 2, 1) := by decide +kernel
theorem dz_E_misplaced_14 : decode zm_E_misplaced.2.1 14 = .ok (.aload_n 1, 1) := by decide +kernel
theorem dz_E_misplaced_15 : decode zm_E_misplaced.2.1 15 = .ok (.getfield 99, 3) := by decide +kernel
theorem dz_E_misplaced_18 : decode zm_E_misplaced.2.1 18 = .ok (.invokevirtual 55, 3) := by decide +kernel
theorem dz_E_misplaced_21 : decode zm_E_misplaced.2.1 21 = .ok (.ireturn, 1) := by decide +kernel
theorem dz_E_fail_0 : decode zm_E_fail.2.1 0 = .ok (.aload_n 0, 1) := by decide +kernel
theorem dz_E_fail_1 : decode zm_E_fail.2.1 1 = .ok (.iload_n 1, 1) := by decide +kernel
theorem dz_E_fail_2 : decode zm_E_fail.2.1 2 = .ok (.putfield 9, 3) := by decide +kernel
theorem dz_E_fail_5 : decode zm_E_fail.2.1 5 = .ok (.aload_n 0, 1) := by decide +kernel
theorem dz_E_fail_6 : decode zm_E_fail.2.1 6 = .ok (.iload_n 2, 1) := by decide +kernel
theorem dz_E_fail_7 : decode zm_E_fail.2.1 7 = .ok (.putfield 15, 3) := by decide +kernel
theorem dz_E_fail_10 : decode zm_E_fail.2.1 10 = .ok (.iconst 0, 1) := by decide +kernel
theorem dz_E_fail_11 : decode zm_E_fail.2.1 11 = .ok (.ireturn, 1) := by decide +kernel
end
section
theorem dz_S_feed_0 : decode zm_S_feed.2.1 0 = .ok (.iload_n 1, 1) := by decide +kernel
theorem dz_S_feed_1 : decode zm_S_feed.2.1 1 = .ok (.ifCond .lt 9, 3) := by decide +kernel
theorem dz_S_feed_4 : decode zm_S_feed.2.1 4 = .ok (.iload_n 1, 1) := by decide +kernel
theorem dz_S_feed_5 : decode zm_S_feed.2.1 5 = .ok (.bipush 127, 2) := by decide +kernel
theorem dz_S_feed_7 : decode zm_S_feed.2.1 7 = .ok (.if_icmp .le 5, 3) := by decide +kernel
theorem dz_S_feed_10 : decode zm_S_feed.2.1 10 = .ok (.iconst (-1), 1) := by decide +kernel
theorem dz_S_feed_11 : decode zm_S_feed.2.1 11 = .ok (.ireturn, 1) := by decide +kernel
theorem dz_S_feed_12 : decode zm_S_feed.2.1 12 = .ok (.aload_n 0, 1) := by decide +kernel
theorem dz_S_feed_13 : decode zm_S_feed.2.1 13 = .ok (.getfield 12, 3) := by decide +kernel
theorem dz_S_feed_16 : decode zm_S_feed.2.1 16 = .ok (.iload_n 1, 1) := by decide +kernel
theorem dz_S_feed_17 : decode zm_S_feed.2.1 17 = .ok (.invokevirtual 59, 3) := by decide +kernel
theorem dz_S_feed_20 : decode zm_S_feed.2.1 20 = .ok (.ifCond .eq 13, 3) := by decide +kernel
theorem dz_S_feed_23 : decode zm_S_feed.2.1 23 = .ok (.aload_n 0, 1) := by decide +kernel
theorem dz_S_feed_24 : decode zm_S_feed.2.1 24 = .ok (.getfield 12, 3) := by decide +kernel
theorem dz_S_feed_27 : decode zm_S_feed.2.1 27 = .ok (.getfield 63, 3) := by decide +kernel
theorem dz_S_feed_30 : decode zm_S_feed.2.1 30 = .ok (.goto 5, 3) := by decide +kernel
theorem dz_S_feed_33 : decode zm_S_feed.2.1 33 = .ok (.bipush (-3), 2) := by decide +kernel
theorem dz_S_feed_35 : decode zm_S_feed.2.1 35 = .ok (.ireturn, 1) := by decide +kernel
theorem dz_S_end_0 : decode zm_S_end.2.1 0 = .ok (.aload_n 0, 1) := by decide +kernel
theorem dz_S_end_1 : decode zm_S_end.2.1 1 = .ok (.getfield 12, 3) := by decide +kernel
theorem dz_S_end_4 : decode zm_S_end.2.1 4 = .ok (.getfield 63, 3) := by decide +kernel
theorem dz_S_end_7 : decode zm_S_end.2.1 7 = .ok (.istore_n 2, 1) := by decide +kernel
theorem dz_S_end_8 : decode zm_S_end.2.1 8 = .ok (.iload_n 1, 1) := by decide +kernel
theorem dz_S_end_9 : decode zm_S_end.2.1 9 = .ok (.ifCond .lt 8, 3) := by decide +kernel
theorem dz_S_end_12 : decode zm_S_end.2.1 12 = .ok (.iload_n 1, 1) := by decide +kernel
theorem dz_S_end_13 : decode zm_S_end.2.1 13 = .ok (.iload_n 2, 1) := by decide +kernel
theorem dz_S_end_14 : decode zm_S_end.2.1 14 = .ok (.if_icmp .le 5, 3) := by decide +kernel
theorem dz_S_end_17 : decode zm_S_end.2.1 17 = .ok (.iconst (-1), 1) := by decide +kernel
theorem dz_S_end_18 : decode zm_S_end.2.1 18 = .ok (.ireturn, 1) := by decide +kernel
theorem dz_S_end_19 : decode zm_S_end.2.1 19 = .ok (.aload_n 0, 1) := by decide +kernel
theorem dz_S_end_20 : decode zm_S_end.2.1 20 = .ok (.getfield 12, 3) := by decide +kernel
theorem dz_S_end_23 : decode zm_S_end.2.1 23 = .ok (.iload_n 1, 1) := by decide +kernel
theorem dz_S_end_24 : decode zm_S_end.2.1 24 = .ok (.putfield 63, 3) := by decide +kernel
theorem dz_S_end_27 : decode zm_S_end.2.1 27 = .ok (.iload_n 2, 1) := by decide +kernel
theorem dz_S_end_28 : decode zm_S_end.2.1 28 = .ok (.ireturn, 1) := by decide +kernel
theorem dz_S_text_0 : decode zm_S_text.2.1 0 = .ok (.aload_n 0, 1) := by decide +kernel
theorem dz_S_text_1 : decode zm_S_text.2.1 1 = .ok (.getfield 19, 3) := by decide +kernel
theorem dz_S_text_4 : decode zm_S_text.2.1 4 = .ok (.aload_n 0, 1) := by decide +kernel
theorem dz_S_text_5 : decode zm_S_text.2.1 5 = .ok (.getfield 12, 3) := by decide +kernel
theorem dz_S_text_8 : decode zm_S_text.2.1 8 = .ok (.aload_n 0, 1) := by decide +kernel
theorem dz_S_text_9 : decode zm_S_text.2.1 9 = .ok (.getfield 56, 3) := by decide +kernel
theorem dz_S_text_12 : decode zm_S_text.2.1 12 = .ok (.invokevirtual 67, 3) := by decide +kernel
theorem dz_S_text_15 : decode zm_S_text.2.1 15 = .ok (.istore_n 1, 1) := by decide +kernel
theorem dz_S_text_16 : decode zm_S_text.2.1 16 = .ok (.aload_n 0, 1) := by decide +kernel
theorem dz_S_text_17 : decode zm_S_text.2.1 17 = .ok (.aload_n 0, 1) := by decide +kernel
theorem dz_S_text_18 : decode zm_S_text.2.1 18 = .ok (.getfield 19, 3) := by decide +kernel
theorem dz_S_text_21 : decode zm_S_text.2.1 21 = .ok (.getfield 71, 3) := by decide +kernel
theorem dz_S_text_24 : decode zm_S_text.2.1 24 = .ok (.putfield 74, 3) := by decide +kernel
theorem dz_S_text_27 : decode zm_S_text.2.1 27 = .ok (.aload_n 0, 1) := by decide +kernel
theorem dz_S_text_28 : decode zm_S_text.2.1 28 = .ok (.getfield 12, 3) := by decide +kernel
theorem dz_S_text_31 : decode zm_S_text.2.1 31 = .ok (.iconst 0, 1) := by decide +kernel
theorem dz_S_text_32 : decode zm_S_text.2.1 32 = .ok (.putfield 63, 3) := by decide +kernel
theorem dz_S_text_35 : decode zm_S_text.2.1 35 = .ok (.aload_n 0, 1) := by decide +kernel
theorem dz_S_text_36 : decode zm_S_text.2.1 36 = .ok (.getfield 74, 3) := by decide +kernel
theorem dz_S_text_39 : decode zm_S_text.2.1 39 = .ok (.ifCond .eq 14, 3) := by decide +kernel
theorem dz_S_text_42 : decode zm_S_text.2.1 42 = .ok (.bipush (-10), 2) := by decide +kernel
theorem dz_S_text_44 : decode zm_S_text.2.1 44 = .ok (.aload_n 0, 1) := by decide +kernel
theorem dz_S_text_45 : decode zm_S_text.2.1 45 = .ok (.getfield 19, 3) := by decide +kernel
theorem dz_S_text_48 : decode zm_S_text.2.1 48 = .ok (.getfield 77, 3) := by decide +kernel
theorem dz_S_text_51 : decode zm_S_text.2.1 51 = .ok (.isub, 1) := by decide +kernel
theorem dz_S_text_52 : decode zm_S_text.2.1 52 = .ok (.ireturn, 1) := by decide +kernel
theorem dz_S_text_53 : decode zm_S_text.2.1 53 = .ok (.aload_n 0, 1) := by decide +kernel
theorem dz_S_text_54 : decode zm_S_text.2.1 54 = .ok (.getfield 56, 3) := by decide +kernel
theorem dz_S_text_57 : decode zm_S_text.2.1 57 = .ok (.astore_n 2, 1) := by decide +kernel
theorem dz_S_text_58 : decode zm_S_text.2.1 58 = .ok (.aload_n 0, 1) := by decide +kernel
theorem dz_S_text_59 : decode zm_S_text.2.1 59 = .ok (.aload_n 0, 1) := by decide +kernel
theorem dz_S_text_60 : decode zm_S_text.2.1 60 = .ok (.getfield 53, 3) := by decide +kernel
theorem dz_S_text_63 : decode zm_S_text.2.1 63 = .ok (.putfield 56, 3) := by decide +kernel
theorem dz_S_text_66 : decode zm_S_text.2.1 66 = .ok (.aload_n 0, 1) := by decide +kernel
theorem dz_S_text_67 : decode zm_S_text.2.1 67 = .ok (.aload_n 2, 1) := by decide +kernel
theorem dz_S_text_68 : decode zm_S_text.2.1 68 = .ok (.putfield 53, 3) := by decide +kernel
theorem dz_S_text_71 : decode zm_S_text.2.1 71 = .ok (.aload_n 0, 1) := by decide +kernel
theorem dz_S_text_72 : decode zm_S_text.2.1 72 = .ok (.iconst 0, 1) := by decide +kernel
theorem dz_S_text_73 : decode zm_S_text.2.1 73 = .ok (.putfield 80, 3) := by decide +kernel
theorem dz_S_text_76 : decode zm_S_text.2.1 76 = .ok (.aload_n 0, 1) := by decide +kernel
theorem dz_S_text_77 : decode zm_S_text.2.1 77 = .ok (.iconst 0, 1) := by decide +kernel
theorem dz_S_text_78 : decode zm_S_text.2.1 78 = .ok (.putfield 83, 3) := by decide +kernel
theorem dz_S_text_81 : decode zm_S_text.2.1 81 = .ok (.iload_n 1, 1) := by decide +kernel
theorem dz_S_text_82 : decode zm_S_text.2.1 82 = .ok (.ireturn, 1) := by decide +kernel
theorem dz_S_fault_0 : decode zm_S_fault.2.1 0 = .ok (.aload_n 0, 1) := by decide +kernel
theorem dz_S_fault_1 : decode zm_S_fault.2.1 1 = .ok (.getfield 74, 3) := by decide +kernel
theorem dz_S_fault_4 : decode zm_S_fault.2.1 4 = .ok (.ireturn, 1) := by decide +kernel
theorem dz_S_rule_0 : decode zm_S_rule.2.1 0 = .ok (.iload_n 1, 1) := by decide +kernel
theorem dz_S_rule_1 : decode zm_S_rule.2.1 1 = .ok (.tableswitch 51 0 2 #[27, 35, 43], 27) := by decide +kernel
theorem dz_S_rule_28 : decode zm_S_rule.2.1 28 = .ok (.aload_n 0, 1) := by decide +kernel
theorem dz_S_rule_29 : decode zm_S_rule.2.1 29 = .ok (.getfield 53, 3) := by decide +kernel
theorem dz_S_rule_32 : decode zm_S_rule.2.1 32 = .ok (.getfield 86, 3) := by decide +kernel
theorem dz_S_rule_35 : decode zm_S_rule.2.1 35 = .ok (.ireturn, 1) := by decide +kernel
theorem dz_S_rule_36 : decode zm_S_rule.2.1 36 = .ok (.aload_n 0, 1) := by decide +kernel
theorem dz_S_rule_37 : decode zm_S_rule.2.1 37 = .ok (.getfield 53, 3) := by decide +kernel
theorem dz_S_rule_40 : decode zm_S_rule.2.1 40 = .ok (.getfield 89, 3) := by decide +kernel
theorem dz_S_rule_43 : decode zm_S_rule.2.1 43 = .ok (.ireturn, 1) := by decide +kernel
theorem dz_S_rule_44 : decode zm_S_rule.2.1 44 = .ok (.aload_n 0, 1) := by decide +kernel
theorem dz_S_rule_45 : decode zm_S_rule.2.1 45 = .ok (.getfield 53, 3) := by decide +kernel
theorem dz_S_rule_48 : decode zm_S_rule.2.1 48 = .ok (.getfield 92, 3) := by decide +kernel
theorem dz_S_rule_51 : decode zm_S_rule.2.1 51 = .ok (.ireturn, 1) := by decide +kernel
theorem dz_S_rule_52 : decode zm_S_rule.2.1 52 = .ok (.iconst (-1), 1) := by decide +kernel
theorem dz_S_rule_53 : decode zm_S_rule.2.1 53 = .ok (.ireturn, 1) := by decide +kernel
theorem dz_S_one_0 : decode zm_S_one.2.1 0 = .ok (.aload_n 0, 1) := by decide +kernel
theorem dz_S_one_1 : decode zm_S_one.2.1 1 = .ok (.getfield 53, 3) := by decide +kernel
theorem dz_S_one_4 : decode zm_S_one.2.1 4 = .ok (.iload_n 1, 1) := by decide +kernel
theorem dz_S_one_5 : decode zm_S_one.2.1 5 = .ok (.invokevirtual 95, 3) := by decide +kernel
theorem dz_S_one_8 : decode zm_S_one.2.1 8 = .ok (.ifCond .ne 5, 3) := by decide +kernel
theorem dz_S_one_11 : decode zm_S_one.2.1 11 = .ok (.iconst (-1), 1) := by decide +kernel
theorem dz_S_one_12 : decode zm_S_one.2.1 12 = .ok (.ireturn, 1) := by decide +kernel
theorem dz_S_one_13 : decode zm_S_one.2.1 13 = .ok (.iload_n 2, 1) := by decide +kernel
theorem dz_S_one_14 : decode zm_S_one.2.1 14 = .ok (.tableswitch 117 0 5 #[38, 48, 58, 68, 85, 101], 38) := by decide +kernel
theorem dz_S_one_52 : decode zm_S_one.2.1 52 = .ok (.aload_n 0, 1) := by decide +kernel
theorem dz_S_one_53 : decode zm_S_one.2.1 53 = .ok (.getfield 53, 3) := by decide +kernel
theorem dz_S_one_56 : decode zm_S_one.2.1 56 = .ok (.getfield 98, 3) := by decide +kernel
theorem dz_S_one_59 : decode zm_S_one.2.1 59 = .ok (.iload_n 1, 1) := by decide +kernel
theorem dz_S_one_60 : decode zm_S_one.2.1 60 = .ok (.iaload, 1) := by decide +kernel
theorem dz_S_one_61 : decode zm_S_one.2.1 61 = .ok (.ireturn, 1) := by decide +kernel
theorem dz_S_one_62 : decode zm_S_one.2.1 62 = .ok (.aload_n 0, 1) := by decide +kernel
theorem dz_S_one_63 : decode zm_S_one.2.1 63 = .ok (.getfield 53, 3) := by decide +kernel
theorem dz_S_one_66 : decode zm_S_one.2.1 66 = .ok (.getfield 101, 3) := by decide +kernel
theorem dz_S_one_69 : decode zm_S_one.2.1 69 = .ok (.iload_n 1, 1) := by decide +kernel
theorem dz_S_one_70 : decode zm_S_one.2.1 70 = .ok (.iaload, 1) := by decide +kernel
theorem dz_S_one_71 : decode zm_S_one.2.1 71 = .ok (.ireturn, 1) := by decide +kernel
theorem dz_S_one_72 : decode zm_S_one.2.1 72 = .ok (.aload_n 0, 1) := by decide +kernel
theorem dz_S_one_73 : decode zm_S_one.2.1 73 = .ok (.getfield 53, 3) := by decide +kernel
theorem dz_S_one_76 : decode zm_S_one.2.1 76 = .ok (.getfield 104, 3) := by decide +kernel
theorem dz_S_one_79 : decode zm_S_one.2.1 79 = .ok (.iload_n 1, 1) := by decide +kernel
theorem dz_S_one_80 : decode zm_S_one.2.1 80 = .ok (.iaload, 1) := by decide +kernel
theorem dz_S_one_81 : decode zm_S_one.2.1 81 = .ok (.ireturn, 1) := by decide +kernel
theorem dz_S_one_82 : decode zm_S_one.2.1 82 = .ok (.aload_n 0, 1) := by decide +kernel
theorem dz_S_one_83 : decode zm_S_one.2.1 83 = .ok (.getfield 53, 3) := by decide +kernel
theorem dz_S_one_86 : decode zm_S_one.2.1 86 = .ok (.iload_n 1, 1) := by decide +kernel
theorem dz_S_one_87 : decode zm_S_one.2.1 87 = .ok (.invokevirtual 107, 3) := by decide +kernel
theorem dz_S_one_90 : decode zm_S_one.2.1 90 = .ok (.ifCond .eq 7, 3) := by decide +kernel
theorem dz_S_one_93 : decode zm_S_one.2.1 93 = .ok (.iconst 1, 1) := by decide +kernel
theorem dz_S_one_94 : decode zm_S_one.2.1 94 = .ok (.goto 4, 3) := by decide +kernel
theorem dz_S_one_97 : decode zm_S_one.2.1 97 = .ok (.iconst 0, 1) := by decide +kernel
theorem dz_S_one_98 : decode zm_S_one.2.1 98 = .ok (.ireturn, 1) := by decide +kernel
theorem dz_S_one_99 : decode zm_S_one.2.1 99 = .ok (.aload_n 0, 1) := by decide +kernel
theorem dz_S_one_100 : decode zm_S_one.2.1 100 = .ok (.getfield 53, 3) := by decide +kernel
theorem dz_S_one_103 : decode zm_S_one.2.1 103 = .ok (.iload_n 1, 1) := by decide +kernel
theorem dz_S_one_104 : decode zm_S_one.2.1 104 = .ok (.aload_n 0, 1) := by decide +kernel
theorem dz_S_one_105 : decode zm_S_one.2.1 105 = .ok (.getfield 53, 3) := by decide +kernel
theorem dz_S_one_108 : decode zm_S_one.2.1 108 = .ok (.getfield 92, 3) := by decide +kernel
theorem dz_S_one_111 : decode zm_S_one.2.1 111 = .ok (.invokevirtual 110, 3) := by decide +kernel
theorem dz_S_one_114 : decode zm_S_one.2.1 114 = .ok (.ireturn, 1) := by decide +kernel
theorem dz_S_one_115 : decode zm_S_one.2.1 115 = .ok (.aload_n 0, 1) := by decide +kernel
theorem dz_S_one_116 : decode zm_S_one.2.1 116 = .ok (.getfield 53, 3) := by decide +kernel
theorem dz_S_one_119 : decode zm_S_one.2.1 119 = .ok (.iload_n 1, 1) := by decide +kernel
theorem dz_S_one_120 : decode zm_S_one.2.1 120 = .ok (.aload_n 0, 1) := by decide +kernel
theorem dz_S_one_121 : decode zm_S_one.2.1 121 = .ok (.getfield 53, 3) := by decide +kernel
theorem dz_S_one_124 : decode zm_S_one.2.1 124 = .ok (.getfield 92, 3) := by decide +kernel
theorem dz_S_one_127 : decode zm_S_one.2.1 127 = .ok (.invokevirtual 114, 3) := by decide +kernel
theorem dz_S_one_130 : decode zm_S_one.2.1 130 = .ok (.ireturn, 1) := by decide +kernel
theorem dz_S_one_131 : decode zm_S_one.2.1 131 = .ok (.iconst (-1), 1) := by decide +kernel
theorem dz_S_one_132 : decode zm_S_one.2.1 132 = .ok (.ireturn, 1) := by decide +kernel
theorem dz_S_odd_0 : decode zm_S_odd.2.1 0 = .ok (.iload_n 1, 1) := by decide +kernel
theorem dz_S_odd_1 : decode zm_S_odd.2.1 1 = .ok (.invokestatic 117, 3) := by decide +kernel
theorem dz_S_odd_4 : decode zm_S_odd.2.1 4 = .ok (.ifCond .eq 15, 3) := by decide +kernel
theorem dz_S_odd_7 : decode zm_S_odd.2.1 7 = .ok (.aload_n 0, 1) := by decide +kernel
theorem dz_S_odd_8 : decode zm_S_odd.2.1 8 = .ok (.getfield 53, 3) := by decide +kernel
theorem dz_S_odd_11 : decode zm_S_odd.2.1 11 = .ok (.getfield 120, 3) := by decide +kernel
theorem dz_S_odd_14 : decode zm_S_odd.2.1 14 = .ok (.iload_n 1, 1) := by decide +kernel
theorem dz_S_odd_15 : decode zm_S_odd.2.1 15 = .ok (.iaload, 1) := by decide +kernel
theorem dz_S_odd_16 : decode zm_S_odd.2.1 16 = .ok (.goto 4, 3) := by decide +kernel
theorem dz_S_odd_19 : decode zm_S_odd.2.1 19 = .ok (.iconst (-1), 1) := by decide +kernel
theorem dz_S_odd_20 : decode zm_S_odd.2.1 20 = .ok (.ireturn, 1) := by decide +kernel
theorem dz_S_law_0 : decode zm_S_law.2.1 0 = .ok (.aload_n 0, 1) := by decide +kernel
theorem dz_S_law_1 : decode zm_S_law.2.1 1 = .ok (.getfield 53, 3) := by decide +kernel
theorem dz_S_law_4 : decode zm_S_law.2.1 4 = .ok (.iload_n 1, 1) := by decide +kernel
theorem dz_S_law_5 : decode zm_S_law.2.1 5 = .ok (.invokevirtual 123, 3) := by decide +kernel
theorem dz_S_law_8 : decode zm_S_law.2.1 8 = .ok (.ifCond .ne 5, 3) := by decide +kernel
theorem dz_S_law_11 : decode zm_S_law.2.1 11 = .ok (.iconst (-1), 1) := by decide +kernel
theorem dz_S_law_12 : decode zm_S_law.2.1 12 = .ok (.ireturn, 1) := by decide +kernel
theorem dz_S_law_13 : decode zm_S_law.2.1 13 = .ok (.iload_n 2, 1) := by decide +kernel
theorem dz_S_law_14 : decode zm_S_law.2.1 14 = .ok (.tableswitch 124 0 6 #[42, 52, 62, 72, 82, 92, 108], 42) := by decide +kernel
theorem dz_S_law_56 : decode zm_S_law.2.1 56 = .ok (.aload_n 0, 1) := by decide +kernel
theorem dz_S_law_57 : decode zm_S_law.2.1 57 = .ok (.getfield 53, 3) := by decide +kernel
theorem dz_S_law_60 : decode zm_S_law.2.1 60 = .ok (.getfield 126, 3) := by decide +kernel
theorem dz_S_law_63 : decode zm_S_law.2.1 63 = .ok (.iload_n 1, 1) := by decide +kernel
theorem dz_S_law_64 : decode zm_S_law.2.1 64 = .ok (.iaload, 1) := by decide +kernel
theorem dz_S_law_65 : decode zm_S_law.2.1 65 = .ok (.ireturn, 1) := by decide +kernel
theorem dz_S_law_66 : decode zm_S_law.2.1 66 = .ok (.aload_n 0, 1) := by decide +kernel
theorem dz_S_law_67 : decode zm_S_law.2.1 67 = .ok (.getfield 53, 3) := by decide +kernel
theorem dz_S_law_70 : decode zm_S_law.2.1 70 = .ok (.getfield 129, 3) := by decide +kernel
theorem dz_S_law_73 : decode zm_S_law.2.1 73 = .ok (.iload_n 1, 1) := by decide +kernel
theorem dz_S_law_74 : decode zm_S_law.2.1 74 = .ok (.iaload, 1) := by decide +kernel
theorem dz_S_law_75 : decode zm_S_law.2.1 75 = .ok (.ireturn, 1) := by decide +kernel
theorem dz_S_law_76 : decode zm_S_law.2.1 76 = .ok (.aload_n 0, 1) := by decide +kernel
theorem dz_S_law_77 : decode zm_S_law.2.1 77 = .ok (.getfield 53, 3) := by decide +kernel
theorem dz_S_law_80 : decode zm_S_law.2.1 80 = .ok (.getfield 132, 3) := by decide +kernel
theorem dz_S_law_83 : decode zm_S_law.2.1 83 = .ok (.iload_n 1, 1) := by decide +kernel
theorem dz_S_law_84 : decode zm_S_law.2.1 84 = .ok (.iaload, 1) := by decide +kernel
theorem dz_S_law_85 : decode zm_S_law.2.1 85 = .ok (.ireturn, 1) := by decide +kernel
theorem dz_S_law_86 : decode zm_S_law.2.1 86 = .ok (.aload_n 0, 1) := by decide +kernel
theorem dz_S_law_87 : decode zm_S_law.2.1 87 = .ok (.getfield 53, 3) := by decide +kernel
theorem dz_S_law_90 : decode zm_S_law.2.1 90 = .ok (.getfield 135, 3) := by decide +kernel
theorem dz_S_law_93 : decode zm_S_law.2.1 93 = .ok (.iload_n 1, 1) := by decide +kernel
theorem dz_S_law_94 : decode zm_S_law.2.1 94 = .ok (.iaload, 1) := by decide +kernel
theorem dz_S_law_95 : decode zm_S_law.2.1 95 = .ok (.ireturn, 1) := by decide +kernel
theorem dz_S_law_96 : decode zm_S_law.2.1 96 = .ok (.aload_n 0, 1) := by decide +kernel
theorem dz_S_law_97 : decode zm_S_law.2.1 97 = .ok (.getfield 53, 3) := by decide +kernel
theorem dz_S_law_100 : decode zm_S_law.2.1 100 = .ok (.getfield 138, 3) := by decide +kernel
theorem dz_S_law_103 : decode zm_S_law.2.1 103 = .ok (.iload_n 1, 1) := by decide +kernel
theorem dz_S_law_104 : decode zm_S_law.2.1 104 = .ok (.iaload, 1) := by decide +kernel
theorem dz_S_law_105 : decode zm_S_law.2.1 105 = .ok (.ireturn, 1) := by decide +kernel
theorem dz_S_law_106 : decode zm_S_law.2.1 106 = .ok (.aload_n 0, 1) := by decide +kernel
theorem dz_S_law_107 : decode zm_S_law.2.1 107 = .ok (.getfield 53, 3) := by decide +kernel
theorem dz_S_law_110 : decode zm_S_law.2.1 110 = .ok (.iload_n 1, 1) := by decide +kernel
theorem dz_S_law_111 : decode zm_S_law.2.1 111 = .ok (.aload_n 0, 1) := by decide +kernel
theorem dz_S_law_112 : decode zm_S_law.2.1 112 = .ok (.getfield 53, 3) := by decide +kernel
theorem dz_S_law_115 : decode zm_S_law.2.1 115 = .ok (.getfield 92, 3) := by decide +kernel
theorem dz_S_law_118 : decode zm_S_law.2.1 118 = .ok (.invokevirtual 141, 3) := by decide +kernel
theorem dz_S_law_121 : decode zm_S_law.2.1 121 = .ok (.ireturn, 1) := by decide +kernel
theorem dz_S_law_122 : decode zm_S_law.2.1 122 = .ok (.aload_n 0, 1) := by decide +kernel
theorem dz_S_law_123 : decode zm_S_law.2.1 123 = .ok (.getfield 53, 3) := by decide +kernel
theorem dz_S_law_126 : decode zm_S_law.2.1 126 = .ok (.iload_n 1, 1) := by decide +kernel
theorem dz_S_law_127 : decode zm_S_law.2.1 127 = .ok (.aload_n 0, 1) := by decide +kernel
theorem dz_S_law_128 : decode zm_S_law.2.1 128 = .ok (.getfield 53, 3) := by decide +kernel
theorem dz_S_law_131 : decode zm_S_law.2.1 131 = .ok (.getfield 92, 3) := by decide +kernel
theorem dz_S_law_134 : decode zm_S_law.2.1 134 = .ok (.invokevirtual 144, 3) := by decide +kernel
theorem dz_S_law_137 : decode zm_S_law.2.1 137 = .ok (.ireturn, 1) := by decide +kernel
theorem dz_S_law_138 : decode zm_S_law.2.1 138 = .ok (.iconst (-1), 1) := by decide +kernel
theorem dz_S_law_139 : decode zm_S_law.2.1 139 = .ok (.ireturn, 1) := by decide +kernel
theorem dz_S_owner_0 : decode zm_S_owner.2.1 0 = .ok (.iload_n 1, 1) := by decide +kernel
theorem dz_S_owner_1 : decode zm_S_owner.2.1 1 = .ok (.invokestatic 147, 3) := by decide +kernel
theorem dz_S_owner_4 : decode zm_S_owner.2.1 4 = .ok (.ifCond .eq 14, 3) := by decide +kernel
theorem dz_S_owner_7 : decode zm_S_owner.2.1 7 = .ok (.aload_n 0, 1) := by decide +kernel
theorem dz_S_owner_8 : decode zm_S_owner.2.1 8 = .ok (.getfield 53, 3) := by decide +kernel
theorem dz_S_owner_11 : decode zm_S_owner.2.1 11 = .ok (.iload_n 1, 1) := by decide +kernel
theorem dz_S_owner_12 : decode zm_S_owner.2.1 12 = .ok (.invokevirtual 150, 3) := by decide +kernel
theorem dz_S_owner_15 : decode zm_S_owner.2.1 15 = .ok (.goto 4, 3) := by decide +kernel
theorem dz_S_owner_18 : decode zm_S_owner.2.1 18 = .ok (.iconst (-1), 1) := by decide +kernel
theorem dz_S_owner_19 : decode zm_S_owner.2.1 19 = .ok (.ireturn, 1) := by decide +kernel
theorem dz_S_by_0 : decode zm_S_by.2.1 0 = .ok (.iload_n 1, 1) := by decide +kernel
theorem dz_S_by_1 : decode zm_S_by.2.1 1 = .ok (.invokestatic 147, 3) := by decide +kernel
theorem dz_S_by_4 : decode zm_S_by.2.1 4 = .ok (.ifCond .eq 23, 3) := by decide +kernel
theorem dz_S_by_7 : decode zm_S_by.2.1 7 = .ok (.aload_n 0, 1) := by decide +kernel
theorem dz_S_by_8 : decode zm_S_by.2.1 8 = .ok (.getfield 53, 3) := by decide +kernel
theorem dz_S_by_11 : decode zm_S_by.2.1 11 = .ok (.iload_n 1, 1) := by decide +kernel
theorem dz_S_by_12 : decode zm_S_by.2.1 12 = .ok (.aload_n 0, 1) := by decide +kernel
theorem dz_S_by_13 : decode zm_S_by.2.1 13 = .ok (.getfield 53, 3) := by decide +kernel
theorem dz_S_by_16 : decode zm_S_by.2.1 16 = .ok (.getfield 92, 3) := by decide +kernel
theorem dz_S_by_19 : decode zm_S_by.2.1 19 = .ok (.bipush 31, 2) := by decide +kernel
theorem dz_S_by_21 : decode zm_S_by.2.1 21 = .ok (.invokevirtual 154, 3) := by decide +kernel
theorem dz_S_by_24 : decode zm_S_by.2.1 24 = .ok (.goto 4, 3) := by decide +kernel
theorem dz_S_by_27 : decode zm_S_by.2.1 27 = .ok (.iconst (-1), 1) := by decide +kernel
theorem dz_S_by_28 : decode zm_S_by.2.1 28 = .ok (.ireturn, 1) := by decide +kernel
theorem dz_S_does_0 : decode zm_S_does.2.1 0 = .ok (.aload_n 0, 1) := by decide +kernel
theorem dz_S_does_1 : decode zm_S_does.2.1 1 = .ok (.getfield 53, 3) := by decide +kernel
theorem dz_S_does_4 : decode zm_S_does.2.1 4 = .ok (.iload_n 1, 1) := by decide +kernel
theorem dz_S_does_5 : decode zm_S_does.2.1 5 = .ok (.invokevirtual 158, 3) := by decide +kernel
theorem dz_S_does_8 : decode zm_S_does.2.1 8 = .ok (.ireturn, 1) := by decide +kernel
theorem dz_S_comes_0 : decode zm_S_comes.2.1 0 = .ok (.aload_n 0, 1) := by decide +kernel
theorem dz_S_comes_1 : decode zm_S_comes.2.1 1 = .ok (.getfield 53, 3) := by decide +kernel
theorem dz_S_comes_4 : decode zm_S_comes.2.1 4 = .ok (.iload_n 1, 1) := by decide +kernel
theorem dz_S_comes_5 : decode zm_S_comes.2.1 5 = .ok (.invokevirtual 95, 3) := by decide +kernel
theorem dz_S_comes_8 : decode zm_S_comes.2.1 8 = .ok (.ifCond .ne 5, 3) := by decide +kernel
theorem dz_S_comes_11 : decode zm_S_comes.2.1 11 = .ok (.iconst (-1), 1) := by decide +kernel
theorem dz_S_comes_12 : decode zm_S_comes.2.1 12 = .ok (.ireturn, 1) := by decide +kernel
theorem dz_S_comes_13 : decode zm_S_comes.2.1 13 = .ok (.aload_n 0, 1) := by decide +kernel
theorem dz_S_comes_14 : decode zm_S_comes.2.1 14 = .ok (.getfield 53, 3) := by decide +kernel
theorem dz_S_comes_17 : decode zm_S_comes.2.1 17 = .ok (.iload_n 1, 1) := by decide +kernel
theorem dz_S_comes_18 : decode zm_S_comes.2.1 18 = .ok (.invokevirtual 107, 3) := by decide +kernel
theorem dz_S_comes_21 : decode zm_S_comes.2.1 21 = .ok (.ifCond .eq 7, 3) := by decide +kernel
theorem dz_S_comes_24 : decode zm_S_comes.2.1 24 = .ok (.iconst 1, 1) := by decide +kernel
theorem dz_S_comes_25 : decode zm_S_comes.2.1 25 = .ok (.goto 4, 3) := by decide +kernel
theorem dz_S_comes_28 : decode zm_S_comes.2.1 28 = .ok (.iconst 0, 1) := by decide +kernel
theorem dz_S_comes_29 : decode zm_S_comes.2.1 29 = .ok (.istore_n 2, 1) := by decide +kernel
theorem dz_S_comes_30 : decode zm_S_comes.2.1 30 = .ok (.aload_n 0, 1) := by decide +kernel
theorem dz_S_comes_31 : decode zm_S_comes.2.1 31 = .ok (.getfield 53, 3) := by decide +kernel
theorem dz_S_comes_34 : decode zm_S_comes.2.1 34 = .ok (.dup, 1) := by decide +kernel
theorem dz_S_comes_35 : decode zm_S_comes.2.1 35 = .ok (.getfield 92, 3) := by decide +kernel
theorem dz_S_comes_38 : decode zm_S_comes.2.1 38 = .ok (.iconst 1, 1) := by decide +kernel
theorem dz_S_comes_39 : decode zm_S_comes.2.1 39 = .ok (.iload_n 1, 1) := by decide +kernel
theorem dz_S_comes_40 : decode zm_S_comes.2.1 40 = .ok (.ishl, 1) := by decide +kernel
theorem dz_S_comes_41 : decode zm_S_comes.2.1 41 = .ok (.iconst (-1), 1) := by decide +kernel
theorem dz_S_comes_42 : decode zm_S_comes.2.1 42 = .ok (.ixor, 1) := by decide +kernel
theorem dz_S_comes_43 : decode zm_S_comes.2.1 43 = .ok (.iand, 1) := by decide +kernel
theorem dz_S_comes_44 : decode zm_S_comes.2.1 44 = .ok (.putfield 92, 3) := by decide +kernel
theorem dz_S_comes_47 : decode zm_S_comes.2.1 47 = .ok (.iload_n 2, 1) := by decide +kernel
theorem dz_S_comes_48 : decode zm_S_comes.2.1 48 = .ok (.ireturn, 1) := by decide +kernel
theorem dz_S_tries_0 : decode zm_S_tries.2.1 0 = .ok (.aload_n 0, 1) := by decide +kernel
theorem dz_S_tries_1 : decode zm_S_tries.2.1 1 = .ok (.getfield 53, 3) := by decide +kernel
theorem dz_S_tries_4 : decode zm_S_tries.2.1 4 = .ok (.iload_n 1, 1) := by decide +kernel
theorem dz_S_tries_5 : decode zm_S_tries.2.1 5 = .ok (.invokevirtual 95, 3) := by decide +kernel
theorem dz_S_tries_8 : decode zm_S_tries.2.1 8 = .ok (.ifCond .eq 12, 3) := by decide +kernel
theorem dz_S_tries_11 : decode zm_S_tries.2.1 11 = .ok (.iload_n 2, 1) := by decide +kernel
theorem dz_S_tries_12 : decode zm_S_tries.2.1 12 = .ok (.ifCond .lt 8, 3) := by decide +kernel
theorem dz_S_tries_15 : decode zm_S_tries.2.1 15 = .ok (.iload_n 2, 1) := by decide +kernel
theorem dz_S_tries_16 : decode zm_S_tries.2.1 16 = .ok (.iconst 3, 1) := by decide +kernel
theorem dz_S_tries_17 : decode zm_S_tries.2.1 17 = .ok (.if_icmp .le 5, 3) := by decide +kernel
theorem dz_S_tries_20 : decode zm_S_tries.2.1 20 = .ok (.iconst (-1), 1) := by decide +kernel
theorem dz_S_tries_21 : decode zm_S_tries.2.1 21 = .ok (.ireturn, 1) := by decide +kernel
theorem dz_S_tries_22 : decode zm_S_tries.2.1 22 = .ok (.aload_n 0, 1) := by decide +kernel
theorem dz_S_tries_23 : decode zm_S_tries.2.1 23 = .ok (.getfield 53, 3) := by decide +kernel
theorem dz_S_tries_26 : decode zm_S_tries.2.1 26 = .ok (.getfield 104, 3) := by decide +kernel
theorem dz_S_tries_29 : decode zm_S_tries.2.1 29 = .ok (.iload_n 1, 1) := by decide +kernel
theorem dz_S_tries_30 : decode zm_S_tries.2.1 30 = .ok (.iaload, 1) := by decide +kernel
theorem dz_S_tries_31 : decode zm_S_tries.2.1 31 = .ok (.istore_n 3, 1) := by decide +kernel
theorem dz_S_tries_32 : decode zm_S_tries.2.1 32 = .ok (.aload_n 0, 1) := by decide +kernel
theorem dz_S_tries_33 : decode zm_S_tries.2.1 33 = .ok (.getfield 53, 3) := by decide +kernel
theorem dz_S_tries_36 : decode zm_S_tries.2.1 36 = .ok (.getfield 104, 3) := by decide +kernel
theorem dz_S_tries_39 : decode zm_S_tries.2.1 39 = .ok (.iload_n 1, 1) := by decide +kernel
theorem dz_S_tries_40 : decode zm_S_tries.2.1 40 = .ok (.iload_n 2, 1) := by decide +kernel
theorem dz_S_tries_41 : decode zm_S_tries.2.1 41 = .ok (.iastore, 1) := by decide +kernel
theorem dz_S_tries_42 : decode zm_S_tries.2.1 42 = .ok (.iload_n 3, 1) := by decide +kernel
theorem dz_S_tries_43 : decode zm_S_tries.2.1 43 = .ok (.ireturn, 1) := by decide +kernel
theorem dz_S_hush_0 : decode zm_S_hush.2.1 0 = .ok (.aload_n 0, 1) := by decide +kernel
theorem dz_S_hush_1 : decode zm_S_hush.2.1 1 = .ok (.getfield 53, 3) := by decide +kernel
theorem dz_S_hush_4 : decode zm_S_hush.2.1 4 = .ok (.iload_n 1, 1) := by decide +kernel
theorem dz_S_hush_5 : decode zm_S_hush.2.1 5 = .ok (.invokevirtual 95, 3) := by decide +kernel
theorem dz_S_hush_8 : decode zm_S_hush.2.1 8 = .ok (.ifCond .eq 10, 3) := by decide +kernel
theorem dz_S_hush_11 : decode zm_S_hush.2.1 11 = .ok (.iload_n 2, 1) := by decide +kernel
theorem dz_S_hush_12 : decode zm_S_hush.2.1 12 = .ok (.invokestatic 117, 3) := by decide +kernel
theorem dz_S_hush_15 : decode zm_S_hush.2.1 15 = .ok (.ifCond .ne 5, 3) := by decide +kernel
theorem dz_S_hush_18 : decode zm_S_hush.2.1 18 = .ok (.iconst (-1), 1) := by decide +kernel
theorem dz_S_hush_19 : decode zm_S_hush.2.1 19 = .ok (.ireturn, 1) := by decide +kernel
theorem dz_S_hush_20 : decode zm_S_hush.2.1 20 = .ok (.aload_n 0, 1) := by decide +kernel
theorem dz_S_hush_21 : decode zm_S_hush.2.1 21 = .ok (.getfield 53, 3) := by decide +kernel
theorem dz_S_hush_24 : decode zm_S_hush.2.1 24 = .ok (.iload_n 1, 1) := by decide +kernel
theorem dz_S_hush_25 : decode zm_S_hush.2.1 25 = .ok (.iload_n 2, 1) := by decide +kernel
theorem dz_S_hush_26 : decode zm_S_hush.2.1 26 = .ok (.invokevirtual 161, 3) := by decide +kernel
theorem dz_S_hush_29 : decode zm_S_hush.2.1 29 = .ok (.ifCond .eq 7, 3) := by decide +kernel
theorem dz_S_hush_32 : decode zm_S_hush.2.1 32 = .ok (.iconst 1, 1) := by decide +kernel
theorem dz_S_hush_33 : decode zm_S_hush.2.1 33 = .ok (.goto 4, 3) := by decide +kernel
theorem dz_S_hush_36 : decode zm_S_hush.2.1 36 = .ok (.iconst 0, 1) := by decide +kernel
theorem dz_S_hush_37 : decode zm_S_hush.2.1 37 = .ok (.istore_n 3, 1) := by decide +kernel
theorem dz_S_hush_38 : decode zm_S_hush.2.1 38 = .ok (.aload_n 0, 1) := by decide +kernel
theorem dz_S_hush_39 : decode zm_S_hush.2.1 39 = .ok (.getfield 53, 3) := by decide +kernel
theorem dz_S_hush_42 : decode zm_S_hush.2.1 42 = .ok (.getfield 101, 3) := by decide +kernel
theorem dz_S_hush_45 : decode zm_S_hush.2.1 45 = .ok (.iload_n 1, 1) := by decide +kernel
theorem dz_S_hush_46 : decode zm_S_hush.2.1 46 = .ok (.dup2, 1) := by decide +kernel
theorem dz_S_hush_47 : decode zm_S_hush.2.1 47 = .ok (.iaload, 1) := by decide +kernel
theorem dz_S_hush_48 : decode zm_S_hush.2.1 48 = .ok (.iconst 1, 1) := by decide +kernel
theorem dz_S_hush_49 : decode zm_S_hush.2.1 49 = .ok (.iload_n 2, 1) := by decide +kernel
theorem dz_S_hush_50 : decode zm_S_hush.2.1 50 = .ok (.ishl, 1) := by decide +kernel
theorem dz_S_hush_51 : decode zm_S_hush.2.1 51 = .ok (.iconst (-1), 1) := by decide +kernel
theorem dz_S_hush_52 : decode zm_S_hush.2.1 52 = .ok (.ixor, 1) := by decide +kernel
theorem dz_S_hush_53 : decode zm_S_hush.2.1 53 = .ok (.iand, 1) := by decide +kernel
theorem dz_S_hush_54 : decode zm_S_hush.2.1 54 = .ok (.iastore, 1) := by decide +kernel
theorem dz_S_hush_55 : decode zm_S_hush.2.1 55 = .ok (.iload_n 3, 1) := by decide +kernel
theorem dz_S_hush_56 : decode zm_S_hush.2.1 56 = .ok (.ireturn, 1) := by decide +kernel
theorem dz_S_weigh_0 : decode zm_S_weigh.2.1 0 = .ok (.iload_n 1, 1) := by decide +kernel
theorem dz_S_weigh_1 : decode zm_S_weigh.2.1 1 = .ok (.invokestatic 117, 3) := by decide +kernel
theorem dz_S_weigh_4 : decode zm_S_weigh.2.1 4 = .ok (.ifCond .eq 13, 3) := by decide +kernel
theorem dz_S_weigh_7 : decode zm_S_weigh.2.1 7 = .ok (.iload_n 2, 1) := by decide +kernel
theorem dz_S_weigh_8 : decode zm_S_weigh.2.1 8 = .ok (.ifCond .lt 9, 3) := by decide +kernel
theorem dz_S_weigh_11 : decode zm_S_weigh.2.1 11 = .ok (.iload_n 2, 1) := by decide +kernel
theorem dz_S_weigh_12 : decode zm_S_weigh.2.1 12 = .ok (.bipush 10, 2) := by decide +kernel
theorem dz_S_weigh_14 : decode zm_S_weigh.2.1 14 = .ok (.if_icmp .le 5, 3) := by decide +kernel
theorem dz_S_weigh_17 : decode zm_S_weigh.2.1 17 = .ok (.iconst (-1), 1) := by decide +kernel
theorem dz_S_weigh_18 : decode zm_S_weigh.2.1 18 = .ok (.ireturn, 1) := by decide +kernel
theorem dz_S_weigh_19 : decode zm_S_weigh.2.1 19 = .ok (.aload_n 0, 1) := by decide +kernel
theorem dz_S_weigh_20 : decode zm_S_weigh.2.1 20 = .ok (.getfield 53, 3) := by decide +kernel
theorem dz_S_weigh_23 : decode zm_S_weigh.2.1 23 = .ok (.getfield 120, 3) := by decide +kernel
theorem dz_S_weigh_26 : decode zm_S_weigh.2.1 26 = .ok (.iload_n 1, 1) := by decide +kernel
theorem dz_S_weigh_27 : decode zm_S_weigh.2.1 27 = .ok (.iaload, 1) := by decide +kernel
theorem dz_S_weigh_28 : decode zm_S_weigh.2.1 28 = .ok (.istore_n 3, 1) := by decide +kernel
theorem dz_S_weigh_29 : decode zm_S_weigh.2.1 29 = .ok (.aload_n 0, 1) := by decide +kernel
theorem dz_S_weigh_30 : decode zm_S_weigh.2.1 30 = .ok (.getfield 53, 3) := by decide +kernel
theorem dz_S_weigh_33 : decode zm_S_weigh.2.1 33 = .ok (.getfield 120, 3) := by decide +kernel
theorem dz_S_weigh_36 : decode zm_S_weigh.2.1 36 = .ok (.iload_n 1, 1) := by decide +kernel
theorem dz_S_weigh_37 : decode zm_S_weigh.2.1 37 = .ok (.iload_n 2, 1) := by decide +kernel
theorem dz_S_weigh_38 : decode zm_S_weigh.2.1 38 = .ok (.iastore, 1) := by decide +kernel
theorem dz_S_weigh_39 : decode zm_S_weigh.2.1 39 = .ok (.iload_n 3, 1) := by decide +kernel
theorem dz_S_weigh_40 : decode zm_S_weigh.2.1 40 = .ok (.ireturn, 1) := by decide +kernel
theorem dz_S_rank_0 : decode zm_S_rank.2.1 0 = .ok (.aload_n 0, 1) := by decide +kernel
theorem dz_S_rank_1 : decode zm_S_rank.2.1 1 = .ok (.getfield 53, 3) := by decide +kernel
theorem dz_S_rank_4 : decode zm_S_rank.2.1 4 = .ok (.iload_n 1, 1) := by decide +kernel
theorem dz_S_rank_5 : decode zm_S_rank.2.1 5 = .ok (.invokevirtual 123, 3) := by decide +kernel
theorem dz_S_rank_8 : decode zm_S_rank.2.1 8 = .ok (.ifCond .eq 14, 3) := by decide +kernel
theorem dz_S_rank_11 : decode zm_S_rank.2.1 11 = .ok (.iload_n 2, 1) := by decide +kernel
theorem dz_S_rank_12 : decode zm_S_rank.2.1 12 = .ok (.iconst 1, 1) := by decide +kernel
theorem dz_S_rank_13 : decode zm_S_rank.2.1 13 = .ok (.if_icmp .lt 9, 3) := by decide +kernel
theorem dz_S_rank_16 : decode zm_S_rank.2.1 16 = .ok (.iload_n 2, 1) := by decide +kernel
theorem dz_S_rank_17 : decode zm_S_rank.2.1 17 = .ok (.bipush 9, 2) := by decide +kernel
theorem dz_S_rank_19 : decode zm_S_rank.2.1 19 = .ok (.if_icmp .le 5, 3) := by decide +kernel
theorem dz_S_rank_22 : decode zm_S_rank.2.1 22 = .ok (.iconst (-1), 1) := by decide +kernel
theorem dz_S_rank_23 : decode zm_S_rank.2.1 23 = .ok (.ireturn, 1) := by decide +kernel
theorem dz_S_rank_24 : decode zm_S_rank.2.1 24 = .ok (.iconst 0, 1) := by decide +kernel
theorem dz_S_rank_25 : decode zm_S_rank.2.1 25 = .ok (.istore_n 3, 1) := by decide +kernel
theorem dz_S_rank_26 : decode zm_S_rank.2.1 26 = .ok (.iload_n 3, 1) := by decide +kernel
theorem dz_S_rank_27 : decode zm_S_rank.2.1 27 = .ok (.aload_n 0, 1) := by decide +kernel
theorem dz_S_rank_28 : decode zm_S_rank.2.1 28 = .ok (.getfield 53, 3) := by decide +kernel
theorem dz_S_rank_31 : decode zm_S_rank.2.1 31 = .ok (.getfield 89, 3) := by decide +kernel
theorem dz_S_rank_34 : decode zm_S_rank.2.1 34 = .ok (.if_icmp .ge 51, 3) := by decide +kernel
theorem dz_S_rank_37 : decode zm_S_rank.2.1 37 = .ok (.iload_n 3, 1) := by decide +kernel
theorem dz_S_rank_38 : decode zm_S_rank.2.1 38 = .ok (.iload_n 1, 1) := by decide +kernel
theorem dz_S_rank_39 : decode zm_S_rank.2.1 39 = .ok (.if_icmp .eq 40, 3) := by decide +kernel
theorem dz_S_rank_42 : decode zm_S_rank.2.1 42 = .ok (.aload_n 0, 1) := by decide +kernel
theorem dz_S_rank_43 : decode zm_S_rank.2.1 43 = .ok (.getfield 53, 3) := by decide +kernel
theorem dz_S_rank_46 : decode zm_S_rank.2.1 46 = .ok (.getfield 129, 3) := by decide +kernel
theorem dz_S_rank_49 : decode zm_S_rank.2.1 49 = .ok (.iload_n 3, 1) := by decide +kernel
theorem dz_S_rank_50 : decode zm_S_rank.2.1 50 = .ok (.iaload, 1) := by decide +kernel
theorem dz_S_rank_51 : decode zm_S_rank.2.1 51 = .ok (.aload_n 0, 1) := by decide +kernel
theorem dz_S_rank_52 : decode zm_S_rank.2.1 52 = .ok (.getfield 53, 3) := by decide +kernel
theorem dz_S_rank_55 : decode zm_S_rank.2.1 55 = .ok (.getfield 129, 3) := by decide +kernel
theorem dz_S_rank_58 : decode zm_S_rank.2.1 58 = .ok (.iload_n 1, 1) := by decide +kernel
theorem dz_S_rank_59 : decode zm_S_rank.2.1 59 = .ok (.iaload, 1) := by decide +kernel
theorem dz_S_rank_60 : decode zm_S_rank.2.1 60 = .ok (.if_icmp .ne 19, 3) := by decide +kernel
theorem dz_S_rank_63 : decode zm_S_rank.2.1 63 = .ok (.aload_n 0, 1) := by decide +kernel
theorem dz_S_rank_64 : decode zm_S_rank.2.1 64 = .ok (.getfield 53, 3) := by decide +kernel
theorem dz_S_rank_67 : decode zm_S_rank.2.1 67 = .ok (.getfield 126, 3) := by decide +kernel
theorem dz_S_rank_70 : decode zm_S_rank.2.1 70 = .ok (.iload_n 3, 1) := by decide +kernel
theorem dz_S_rank_71 : decode zm_S_rank.2.1 71 = .ok (.iaload, 1) := by decide +kernel
theorem dz_S_rank_72 : decode zm_S_rank.2.1 72 = .ok (.iload_n 2, 1) := by decide +kernel
theorem dz_S_rank_73 : decode zm_S_rank.2.1 73 = .ok (.if_icmp .ne 6, 3) := by decide +kernel
theorem dz_S_rank_76 : decode zm_S_rank.2.1 76 = .ok (.bipush (-2), 2) := by decide +kernel
theorem dz_S_rank_78 : decode zm_S_rank.2.1 78 = .ok (.ireturn, 1) := by decide +kernel
theorem dz_S_rank_79 : decode zm_S_rank.2.1 79 = .ok (.iinc 3 1, 3) := by decide +kernel
theorem dz_S_rank_82 : decode zm_S_rank.2.1 82 = .ok (.goto (-56), 3) := by decide +kernel
theorem dz_S_rank_85 : decode zm_S_rank.2.1 85 = .ok (.aload_n 0, 1) := by decide +kernel
theorem dz_S_rank_86 : decode zm_S_rank.2.1 86 = .ok (.getfield 53, 3) := by decide +kernel
theorem dz_S_rank_89 : decode zm_S_rank.2.1 89 = .ok (.getfield 126, 3) := by decide +kernel
theorem dz_S_rank_92 : decode zm_S_rank.2.1 92 = .ok (.iload_n 1, 1) := by decide +kernel
theorem dz_S_rank_93 : decode zm_S_rank.2.1 93 = .ok (.iaload, 1) := by decide +kernel
theorem dz_S_rank_94 : decode zm_S_rank.2.1 94 = .ok (.istore_n 3, 1) := by decide +kernel
theorem dz_S_rank_95 : decode zm_S_rank.2.1 95 = .ok (.aload_n 0, 1) := by decide +kernel
theorem dz_S_rank_96 : decode zm_S_rank.2.1 96 = .ok (.getfield 53, 3) := by decide +kernel
theorem dz_S_rank_99 : decode zm_S_rank.2.1 99 = .ok (.getfield 126, 3) := by decide +kernel
theorem dz_S_rank_102 : decode zm_S_rank.2.1 102 = .ok (.iload_n 1, 1) := by decide +kernel
theorem dz_S_rank_103 : decode zm_S_rank.2.1 103 = .ok (.iload_n 2, 1) := by decide +kernel
theorem dz_S_rank_104 : decode zm_S_rank.2.1 104 = .ok (.iastore, 1) := by decide +kernel
theorem dz_S_rank_105 : decode zm_S_rank.2.1 105 = .ok (.iload_n 3, 1) := by decide +kernel
theorem dz_S_rank_106 : decode zm_S_rank.2.1 106 = .ok (.ireturn, 1) := by decide +kernel
theorem dz_S_pick_0 : decode zm_S_pick.2.1 0 = .ok (.aload_n 0, 1) := by decide +kernel
theorem dz_S_pick_1 : decode zm_S_pick.2.1 1 = .ok (.getfield 53, 3) := by decide +kernel
theorem dz_S_pick_4 : decode zm_S_pick.2.1 4 = .ok (.iload_n 1, 1) := by decide +kernel
theorem dz_S_pick_5 : decode zm_S_pick.2.1 5 = .ok (.invokevirtual 123, 3) := by decide +kernel
theorem dz_S_pick_8 : decode zm_S_pick.2.1 8 = .ok (.ifCond .eq 10, 3) := by decide +kernel
theorem dz_S_pick_11 : decode zm_S_pick.2.1 11 = .ok (.iload_n 2, 1) := by decide +kernel
theorem dz_S_pick_12 : decode zm_S_pick.2.1 12 = .ok (.invokestatic 165, 3) := by decide +kernel
theorem dz_S_pick_15 : decode zm_S_pick.2.1 15 = .ok (.ifCond .ne 5, 3) := by decide +kernel
theorem dz_S_pick_18 : decode zm_S_pick.2.1 18 = .ok (.iconst (-1), 1) := by decide +kernel
theorem dz_S_pick_19 : decode zm_S_pick.2.1 19 = .ok (.ireturn, 1) := by decide +kernel
theorem dz_S_pick_20 : decode zm_S_pick.2.1 20 = .ok (.aload_n 0, 1) := by decide +kernel
theorem dz_S_pick_21 : decode zm_S_pick.2.1 21 = .ok (.getfield 53, 3) := by decide +kernel
theorem dz_S_pick_24 : decode zm_S_pick.2.1 24 = .ok (.getfield 138, 3) := by decide +kernel
theorem dz_S_pick_27 : decode zm_S_pick.2.1 27 = .ok (.iload_n 1, 1) := by decide +kernel
theorem dz_S_pick_28 : decode zm_S_pick.2.1 28 = .ok (.iaload, 1) := by decide +kernel
theorem dz_S_pick_29 : decode zm_S_pick.2.1 29 = .ok (.istore_n 3, 1) := by decide +kernel
theorem dz_S_pick_30 : decode zm_S_pick.2.1 30 = .ok (.aload_n 0, 1) := by decide +kernel
theorem dz_S_pick_31 : decode zm_S_pick.2.1 31 = .ok (.getfield 53, 3) := by decide +kernel
theorem dz_S_pick_34 : decode zm_S_pick.2.1 34 = .ok (.getfield 138, 3) := by decide +kernel
theorem dz_S_pick_37 : decode zm_S_pick.2.1 37 = .ok (.iload_n 1, 1) := by decide +kernel
theorem dz_S_pick_38 : decode zm_S_pick.2.1 38 = .ok (.iload_n 2, 1) := by decide +kernel
theorem dz_S_pick_39 : decode zm_S_pick.2.1 39 = .ok (.iastore, 1) := by decide +kernel
theorem dz_S_pick_40 : decode zm_S_pick.2.1 40 = .ok (.iload_n 3, 1) := by decide +kernel
theorem dz_S_pick_41 : decode zm_S_pick.2.1 41 = .ok (.ireturn, 1) := by decide +kernel
theorem dz_S_claim_0 : decode zm_S_claim.2.1 0 = .ok (.aload_n 0, 1) := by decide +kernel
theorem dz_S_claim_1 : decode zm_S_claim.2.1 1 = .ok (.getfield 53, 3) := by decide +kernel
theorem dz_S_claim_4 : decode zm_S_claim.2.1 4 = .ok (.iload_n 1, 1) := by decide +kernel
theorem dz_S_claim_5 : decode zm_S_claim.2.1 5 = .ok (.invokevirtual 95, 3) := by decide +kernel
theorem dz_S_claim_8 : decode zm_S_claim.2.1 8 = .ok (.ifCond .eq 19, 3) := by decide +kernel
theorem dz_S_claim_11 : decode zm_S_claim.2.1 11 = .ok (.iload_n 2, 1) := by decide +kernel
theorem dz_S_claim_12 : decode zm_S_claim.2.1 12 = .ok (.invokestatic 147, 3) := by decide +kernel
theorem dz_S_claim_15 : decode zm_S_claim.2.1 15 = .ok (.ifCond .eq 12, 3) := by decide +kernel
theorem dz_S_claim_18 : decode zm_S_claim.2.1 18 = .ok (.iload_n 3, 1) := by decide +kernel
theorem dz_S_claim_19 : decode zm_S_claim.2.1 19 = .ok (.ifCond .lt 8, 3) := by decide +kernel
theorem dz_S_claim_22 : decode zm_S_claim.2.1 22 = .ok (.iload_n 3, 1) := by decide +kernel
theorem dz_S_claim_23 : decode zm_S_claim.2.1 23 = .ok (.iconst 3, 1) := by decide +kernel
theorem dz_S_claim_24 : decode zm_S_claim.2.1 24 = .ok (.if_icmp .le 5, 3) := by decide +kernel
theorem dz_S_claim_27 : decode zm_S_claim.2.1 27 = .ok (.iconst (-1), 1) := by decide +kernel
theorem dz_S_claim_28 : decode zm_S_claim.2.1 28 = .ok (.ireturn, 1) := by decide +kernel
theorem dz_S_claim_29 : decode zm_S_claim.2.1 29 = .ok (.iload 4, 2) := by decide +kernel
theorem dz_S_claim_31 : decode zm_S_claim.2.1 31 = .ok (.bipush 10, 2) := by decide +kernel
theorem dz_S_claim_33 : decode zm_S_claim.2.1 33 = .ok (.isub, 1) := by decide +kernel
theorem dz_S_claim_34 : decode zm_S_claim.2.1 34 = .ok (.istore 5, 2) := by decide +kernel
theorem dz_S_claim_36 : decode zm_S_claim.2.1 36 = .ok (.iload 4, 2) := by decide +kernel
theorem dz_S_claim_38 : decode zm_S_claim.2.1 38 = .ok (.ifCond .eq 18, 3) := by decide +kernel
theorem dz_S_claim_41 : decode zm_S_claim.2.1 41 = .ok (.iload 4, 2) := by decide +kernel
theorem dz_S_claim_43 : decode zm_S_claim.2.1 43 = .ok (.bipush 10, 2) := by decide +kernel
theorem dz_S_claim_45 : decode zm_S_claim.2.1 45 = .ok (.if_icmp .lt 9, 3) := by decide +kernel
theorem dz_S_claim_48 : decode zm_S_claim.2.1 48 = .ok (.iload 5, 2) := by decide +kernel
theorem dz_S_claim_50 : decode zm_S_claim.2.1 50 = .ok (.iload_n 3, 1) := by decide +kernel
theorem dz_S_claim_51 : decode zm_S_claim.2.1 51 = .ok (.if_icmp .lt 5, 3) := by decide +kernel
theorem dz_S_claim_54 : decode zm_S_claim.2.1 54 = .ok (.iconst (-1), 1) := by decide +kernel
theorem dz_S_claim_55 : decode zm_S_claim.2.1 55 = .ok (.ireturn, 1) := by decide +kernel
theorem dz_S_claim_56 : decode zm_S_claim.2.1 56 = .ok (.aload_n 0, 1) := by decide +kernel
theorem dz_S_claim_57 : decode zm_S_claim.2.1 57 = .ok (.iload_n 1, 1) := by decide +kernel
theorem dz_S_claim_58 : decode zm_S_claim.2.1 58 = .ok (.iload_n 2, 1) := by decide +kernel
theorem dz_S_claim_59 : decode zm_S_claim.2.1 59 = .ok (.iload_n 3, 1) := by decide +kernel
theorem dz_S_claim_60 : decode zm_S_claim.2.1 60 = .ok (.invokevirtual 168, 3) := by decide +kernel
theorem dz_S_claim_63 : decode zm_S_claim.2.1 63 = .ok (.istore 6, 2) := by decide +kernel
theorem dz_S_claim_65 : decode zm_S_claim.2.1 65 = .ok (.iload 6, 2) := by decide +kernel
theorem dz_S_claim_67 : decode zm_S_claim.2.1 67 = .ok (.bipush (-4), 2) := by decide +kernel
theorem dz_S_claim_69 : decode zm_S_claim.2.1 69 = .ok (.if_icmp .eq 8, 3) := by decide +kernel
theorem dz_S_claim_72 : decode zm_S_claim.2.1 72 = .ok (.iload 4, 2) := by decide +kernel
theorem dz_S_claim_74 : decode zm_S_claim.2.1 74 = .ok (.ifCond .ne 6, 3) := by decide +kernel
theorem dz_S_claim_77 : decode zm_S_claim.2.1 77 = .ok (.iload 6, 2) := by decide +kernel
theorem dz_S_claim_79 : decode zm_S_claim.2.1 79 = .ok (.ireturn, 1) := by decide +kernel
theorem dz_S_claim_80 : decode zm_S_claim.2.1 80 = .ok (.iload 5, 2) := by decide +kernel
theorem dz_S_claim_82 : decode zm_S_claim.2.1 82 = .ok (.iload 6, 2) := by decide +kernel
theorem dz_S_claim_84 : decode zm_S_claim.2.1 84 = .ok (.if_icmp .ge 23, 3) := by decide +kernel
theorem dz_S_claim_87 : decode zm_S_claim.2.1 87 = .ok (.iload 5, 2) := by decide +kernel
theorem dz_S_claim_89 : decode zm_S_claim.2.1 89 = .ok (.aload_n 0, 1) := by decide +kernel
theorem dz_S_claim_90 : decode zm_S_claim.2.1 90 = .ok (.getfield 43, 3) := by decide +kernel
theorem dz_S_claim_93 : decode zm_S_claim.2.1 93 = .ok (.arraylength, 1) := by decide +kernel
theorem dz_S_claim_94 : decode zm_S_claim.2.1 94 = .ok (.if_icmp .ge 13, 3) := by decide +kernel
theorem dz_S_claim_97 : decode zm_S_claim.2.1 97 = .ok (.aload_n 0, 1) := by decide +kernel
theorem dz_S_claim_98 : decode zm_S_claim.2.1 98 = .ok (.getfield 43, 3) := by decide +kernel
theorem dz_S_claim_101 : decode zm_S_claim.2.1 101 = .ok (.iload 5, 2) := by decide +kernel
theorem dz_S_claim_103 : decode zm_S_claim.2.1 103 = .ok (.iaload, 1) := by decide +kernel
theorem dz_S_claim_104 : decode zm_S_claim.2.1 104 = .ok (.goto 5, 3) := by decide +kernel
theorem dz_S_claim_107 : decode zm_S_claim.2.1 107 = .ok (.bipush (-4), 2) := by decide +kernel
theorem dz_S_claim_109 : decode zm_S_claim.2.1 109 = .ok (.ireturn, 1) := by decide +kernel
theorem dz_S_pivot_0 : decode zm_S_pivot.2.1 0 = .ok (.iload_n 1, 1) := by decide +kernel
theorem dz_S_pivot_1 : decode zm_S_pivot.2.1 1 = .ok (.invokestatic 147, 3) := by decide +kernel
theorem dz_S_pivot_4 : decode zm_S_pivot.2.1 4 = .ok (.ifCond .ne 5, 3) := by decide +kernel
theorem dz_S_pivot_7 : decode zm_S_pivot.2.1 7 = .ok (.iconst (-1), 1) := by decide +kernel
theorem dz_S_pivot_8 : decode zm_S_pivot.2.1 8 = .ok (.ireturn, 1) := by decide +kernel
theorem dz_S_pivot_9 : decode zm_S_pivot.2.1 9 = .ok (.aload_n 0, 1) := by decide +kernel
theorem dz_S_pivot_10 : decode zm_S_pivot.2.1 10 = .ok (.getfield 53, 3) := by decide +kernel
theorem dz_S_pivot_13 : decode zm_S_pivot.2.1 13 = .ok (.iload_n 1, 1) := by decide +kernel
theorem dz_S_pivot_14 : decode zm_S_pivot.2.1 14 = .ok (.invokevirtual 150, 3) := by decide +kernel
theorem dz_S_pivot_17 : decode zm_S_pivot.2.1 17 = .ok (.istore_n 2, 1) := by decide +kernel
theorem dz_S_pivot_18 : decode zm_S_pivot.2.1 18 = .ok (.iconst 0, 1) := by decide +kernel
theorem dz_S_pivot_19 : decode zm_S_pivot.2.1 19 = .ok (.istore_n 3, 1) := by decide +kernel
theorem dz_S_pivot_20 : decode zm_S_pivot.2.1 20 = .ok (.iconst 0, 1) := by decide +kernel
theorem dz_S_pivot_21 : decode zm_S_pivot.2.1 21 = .ok (.istore 4, 2) := by decide +kernel
theorem dz_S_pivot_23 : decode zm_S_pivot.2.1 23 = .ok (.iload 4, 2) := by decide +kernel
theorem dz_S_pivot_25 : decode zm_S_pivot.2.1 25 = .ok (.aload_n 0, 1) := by decide +kernel
theorem dz_S_pivot_26 : decode zm_S_pivot.2.1 26 = .ok (.getfield 53, 3) := by decide +kernel
theorem dz_S_pivot_29 : decode zm_S_pivot.2.1 29 = .ok (.getfield 86, 3) := by decide +kernel
theorem dz_S_pivot_32 : decode zm_S_pivot.2.1 32 = .ok (.if_icmp .ge 58, 3) := by decide +kernel
theorem dz_S_pivot_35 : decode zm_S_pivot.2.1 35 = .ok (.aload_n 0, 1) := by decide +kernel
theorem dz_S_pivot_36 : decode zm_S_pivot.2.1 36 = .ok (.getfield 53, 3) := by decide +kernel
theorem dz_S_pivot_39 : decode zm_S_pivot.2.1 39 = .ok (.getfield 92, 3) := by decide +kernel
theorem dz_S_pivot_42 : decode zm_S_pivot.2.1 42 = .ok (.iconst 1, 1) := by decide +kernel
theorem dz_S_pivot_43 : decode zm_S_pivot.2.1 43 = .ok (.iload 4, 2) := by decide +kernel
theorem dz_S_pivot_45 : decode zm_S_pivot.2.1 45 = .ok (.ishl, 1) := by decide +kernel
theorem dz_S_pivot_46 : decode zm_S_pivot.2.1 46 = .ok (.ior, 1) := by decide +kernel
theorem dz_S_pivot_47 : decode zm_S_pivot.2.1 47 = .ok (.istore 5, 2) := by decide +kernel
theorem dz_S_pivot_49 : decode zm_S_pivot.2.1 49 = .ok (.aload_n 0, 1) := by decide +kernel
theorem dz_S_pivot_50 : decode zm_S_pivot.2.1 50 = .ok (.getfield 53, 3) := by decide +kernel
theorem dz_S_pivot_53 : decode zm_S_pivot.2.1 53 = .ok (.iload 4, 2) := by decide +kernel
theorem dz_S_pivot_55 : decode zm_S_pivot.2.1 55 = .ok (.invokevirtual 107, 3) := by decide +kernel
theorem dz_S_pivot_58 : decode zm_S_pivot.2.1 58 = .ok (.ifCond .ne 26, 3) := by decide +kernel
theorem dz_S_pivot_61 : decode zm_S_pivot.2.1 61 = .ok (.aload_n 0, 1) := by decide +kernel
theorem dz_S_pivot_62 : decode zm_S_pivot.2.1 62 = .ok (.getfield 53, 3) := by decide +kernel
theorem dz_S_pivot_65 : decode zm_S_pivot.2.1 65 = .ok (.iload_n 1, 1) := by decide +kernel
theorem dz_S_pivot_66 : decode zm_S_pivot.2.1 66 = .ok (.iload 5, 2) := by decide +kernel
theorem dz_S_pivot_68 : decode zm_S_pivot.2.1 68 = .ok (.bipush 31, 2) := by decide +kernel
theorem dz_S_pivot_70 : decode zm_S_pivot.2.1 70 = .ok (.invokevirtual 171, 3) := by decide +kernel
theorem dz_S_pivot_73 : decode zm_S_pivot.2.1 73 = .ok (.iload_n 2, 1) := by decide +kernel
theorem dz_S_pivot_74 : decode zm_S_pivot.2.1 74 = .ok (.if_icmp .eq 10, 3) := by decide +kernel
theorem dz_S_pivot_77 : decode zm_S_pivot.2.1 77 = .ok (.iload_n 3, 1) := by decide +kernel
theorem dz_S_pivot_78 : decode zm_S_pivot.2.1 78 = .ok (.iconst 1, 1) := by decide +kernel
theorem dz_S_pivot_79 : decode zm_S_pivot.2.1 79 = .ok (.iload 4, 2) := by decide +kernel
theorem dz_S_pivot_81 : decode zm_S_pivot.2.1 81 = .ok (.ishl, 1) := by decide +kernel
theorem dz_S_pivot_82 : decode zm_S_pivot.2.1 82 = .ok (.ior, 1) := by decide +kernel
theorem dz_S_pivot_83 : decode zm_S_pivot.2.1 83 = .ok (.istore_n 3, 1) := by decide +kernel
theorem dz_S_pivot_84 : decode zm_S_pivot.2.1 84 = .ok (.iinc 4 1, 3) := by decide +kernel
theorem dz_S_pivot_87 : decode zm_S_pivot.2.1 87 = .ok (.goto (-64), 3) := by decide +kernel
theorem dz_S_pivot_90 : decode zm_S_pivot.2.1 90 = .ok (.iload_n 3, 1) := by decide +kernel
theorem dz_S_pivot_91 : decode zm_S_pivot.2.1 91 = .ok (.ireturn, 1) := by decide +kernel
theorem dz_S_spoils_0 : decode zm_S_spoils.2.1 0 = .ok (.aload_n 0, 1) := by decide +kernel
theorem dz_S_spoils_1 : decode zm_S_spoils.2.1 1 = .ok (.getfield 53, 3) := by decide +kernel
theorem dz_S_spoils_4 : decode zm_S_spoils.2.1 4 = .ok (.iload_n 1, 1) := by decide +kernel
theorem dz_S_spoils_5 : decode zm_S_spoils.2.1 5 = .ok (.invokevirtual 95, 3) := by decide +kernel
theorem dz_S_spoils_8 : decode zm_S_spoils.2.1 8 = .ok (.ifCond .ne 5, 3) := by decide +kernel
theorem dz_S_spoils_11 : decode zm_S_spoils.2.1 11 = .ok (.iconst (-1), 1) := by decide +kernel
theorem dz_S_spoils_12 : decode zm_S_spoils.2.1 12 = .ok (.ireturn, 1) := by decide +kernel
theorem dz_S_spoils_13 : decode zm_S_spoils.2.1 13 = .ok (.aload_n 0, 1) := by decide +kernel
theorem dz_S_spoils_14 : decode zm_S_spoils.2.1 14 = .ok (.getfield 40, 3) := by decide +kernel
theorem dz_S_spoils_17 : decode zm_S_spoils.2.1 17 = .ok (.aload_n 0, 1) := by decide +kernel
theorem dz_S_spoils_18 : decode zm_S_spoils.2.1 18 = .ok (.getfield 53, 3) := by decide +kernel
theorem dz_S_spoils_21 : decode zm_S_spoils.2.1 21 = .ok (.invokevirtual 174, 3) := by decide +kernel
theorem dz_S_spoils_24 : decode zm_S_spoils.2.1 24 = .ok (.aload_n 0, 1) := by decide +kernel
theorem dz_S_spoils_25 : decode zm_S_spoils.2.1 25 = .ok (.getfield 40, 3) := by decide +kernel
theorem dz_S_spoils_28 : decode zm_S_spoils.2.1 28 = .ok (.iload_n 1, 1) := by decide +kernel
theorem dz_S_spoils_29 : decode zm_S_spoils.2.1 29 = .ok (.invokevirtual 178, 3) := by decide +kernel
theorem dz_S_spoils_32 : decode zm_S_spoils.2.1 32 = .ok (.istore_n 2, 1) := by decide +kernel
theorem dz_S_spoils_33 : decode zm_S_spoils.2.1 33 = .ok (.iconst 0, 1) := by decide +kernel
theorem dz_S_spoils_34 : decode zm_S_spoils.2.1 34 = .ok (.istore_n 3, 1) := by decide +kernel
theorem dz_S_spoils_35 : decode zm_S_spoils.2.1 35 = .ok (.iconst 0, 1) := by decide +kernel
theorem dz_S_spoils_36 : decode zm_S_spoils.2.1 36 = .ok (.istore 4, 2) := by decide +kernel
theorem dz_S_spoils_38 : decode zm_S_spoils.2.1 38 = .ok (.iload 4, 2) := by decide +kernel
theorem dz_S_spoils_40 : decode zm_S_spoils.2.1 40 = .ok (.iconst 5, 1) := by decide +kernel
theorem dz_S_spoils_41 : decode zm_S_spoils.2.1 41 = .ok (.if_icmp .gt 54, 3) := by decide +kernel
theorem dz_S_spoils_44 : decode zm_S_spoils.2.1 44 = .ok (.bipush 10, 2) := by decide +kernel
theorem dz_S_spoils_46 : decode zm_S_spoils.2.1 46 = .ok (.iload_n 1, 1) := by decide +kernel
theorem dz_S_spoils_47 : decode zm_S_spoils.2.1 47 = .ok (.imul, 1) := by decide +kernel
theorem dz_S_spoils_48 : decode zm_S_spoils.2.1 48 = .ok (.iload 4, 2) := by decide +kernel
theorem dz_S_spoils_50 : decode zm_S_spoils.2.1 50 = .ok (.iadd, 1) := by decide +kernel
theorem dz_S_spoils_51 : decode zm_S_spoils.2.1 51 = .ok (.istore 5, 2) := by decide +kernel
theorem dz_S_spoils_53 : decode zm_S_spoils.2.1 53 = .ok (.aload_n 0, 1) := by decide +kernel
theorem dz_S_spoils_54 : decode zm_S_spoils.2.1 54 = .ok (.getfield 40, 3) := by decide +kernel
theorem dz_S_spoils_57 : decode zm_S_spoils.2.1 57 = .ok (.iload 5, 2) := by decide +kernel
theorem dz_S_spoils_59 : decode zm_S_spoils.2.1 59 = .ok (.invokevirtual 158, 3) := by decide +kernel
theorem dz_S_spoils_62 : decode zm_S_spoils.2.1 62 = .ok (.ifCond .lt 27, 3) := by decide +kernel
theorem dz_S_spoils_65 : decode zm_S_spoils.2.1 65 = .ok (.iload_n 3, 1) := by decide +kernel
theorem dz_S_spoils_66 : decode zm_S_spoils.2.1 66 = .ok (.iload_n 2, 1) := by decide +kernel
theorem dz_S_spoils_67 : decode zm_S_spoils.2.1 67 = .ok (.aload_n 0, 1) := by decide +kernel
theorem dz_S_spoils_68 : decode zm_S_spoils.2.1 68 = .ok (.getfield 40, 3) := by decide +kernel
theorem dz_S_spoils_71 : decode zm_S_spoils.2.1 71 = .ok (.iload_n 1, 1) := by decide +kernel
theorem dz_S_spoils_72 : decode zm_S_spoils.2.1 72 = .ok (.invokevirtual 178, 3) := by decide +kernel
theorem dz_S_spoils_75 : decode zm_S_spoils.2.1 75 = .ok (.iconst (-1), 1) := by decide +kernel
theorem dz_S_spoils_76 : decode zm_S_spoils.2.1 76 = .ok (.ixor, 1) := by decide +kernel
theorem dz_S_spoils_77 : decode zm_S_spoils.2.1 77 = .ok (.iand, 1) := by decide +kernel
theorem dz_S_spoils_78 : decode zm_S_spoils.2.1 78 = .ok (.ior, 1) := by decide +kernel
theorem dz_S_spoils_79 : decode zm_S_spoils.2.1 79 = .ok (.istore_n 3, 1) := by decide +kernel
theorem dz_S_spoils_80 : decode zm_S_spoils.2.1 80 = .ok (.aload_n 0, 1) := by decide +kernel
theorem dz_S_spoils_81 : decode zm_S_spoils.2.1 81 = .ok (.getfield 40, 3) := by decide +kernel
theorem dz_S_spoils_84 : decode zm_S_spoils.2.1 84 = .ok (.iload 5, 2) := by decide +kernel
theorem dz_S_spoils_86 : decode zm_S_spoils.2.1 86 = .ok (.invokevirtual 181, 3) := by decide +kernel
theorem dz_S_spoils_89 : decode zm_S_spoils.2.1 89 = .ok (.iinc 4 1, 3) := by decide +kernel
theorem dz_S_spoils_92 : decode zm_S_spoils.2.1 92 = .ok (.goto (-54), 3) := by decide +kernel
theorem dz_S_spoils_95 : decode zm_S_spoils.2.1 95 = .ok (.iload_n 3, 1) := by decide +kernel
theorem dz_S_spoils_96 : decode zm_S_spoils.2.1 96 = .ok (.ireturn, 1) := by decide +kernel
theorem dz_S_dead_0 : decode zm_S_dead.2.1 0 = .ok (.aload_n 0, 1) := by decide +kernel
theorem dz_S_dead_1 : decode zm_S_dead.2.1 1 = .ok (.getfield 53, 3) := by decide +kernel
theorem dz_S_dead_4 : decode zm_S_dead.2.1 4 = .ok (.invokevirtual 185, 3) := by decide +kernel
theorem dz_S_dead_7 : decode zm_S_dead.2.1 7 = .ok (.istore_n 2, 1) := by decide +kernel
theorem dz_S_dead_8 : decode zm_S_dead.2.1 8 = .ok (.iload_n 1, 1) := by decide +kernel
theorem dz_S_dead_9 : decode zm_S_dead.2.1 9 = .ok (.tableswitch 54 0 2 #[27, 36, 41], 27) := by decide +kernel
theorem dz_S_dead_36 : decode zm_S_dead.2.1 36 = .ok (.iload_n 2, 1) := by decide +kernel
theorem dz_S_dead_37 : decode zm_S_dead.2.1 37 = .ok (.aload_n 0, 1) := by decide +kernel
theorem dz_S_dead_38 : decode zm_S_dead.2.1 38 = .ok (.invokevirtual 189, 3) := by decide +kernel
theorem dz_S_dead_41 : decode zm_S_dead.2.1 41 = .ok (.iconst (-1), 1) := by decide +kernel
theorem dz_S_dead_42 : decode zm_S_dead.2.1 42 = .ok (.ixor, 1) := by decide +kernel
theorem dz_S_dead_43 : decode zm_S_dead.2.1 43 = .ok (.iand, 1) := by decide +kernel
theorem dz_S_dead_44 : decode zm_S_dead.2.1 44 = .ok (.ireturn, 1) := by decide +kernel
theorem dz_S_dead_45 : decode zm_S_dead.2.1 45 = .ok (.aload_n 0, 1) := by decide +kernel
theorem dz_S_dead_46 : decode zm_S_dead.2.1 46 = .ok (.invokevirtual 192, 3) := by decide +kernel
theorem dz_S_dead_49 : decode zm_S_dead.2.1 49 = .ok (.ireturn, 1) := by decide +kernel
theorem dz_S_dead_50 : decode zm_S_dead.2.1 50 = .ok (.iload_n 2, 1) := by decide +kernel
theorem dz_S_dead_51 : decode zm_S_dead.2.1 51 = .ok (.aload_n 0, 1) := by decide +kernel
theorem dz_S_dead_52 : decode zm_S_dead.2.1 52 = .ok (.bipush (-4), 2) := by decide +kernel
theorem dz_S_dead_54 : decode zm_S_dead.2.1 54 = .ok (.bipush (-4), 2) := by decide +kernel
theorem dz_S_dead_56 : decode zm_S_dead.2.1 56 = .ok (.invokevirtual 195, 3) := by decide +kernel
theorem dz_S_dead_59 : decode zm_S_dead.2.1 59 = .ok (.iconst (-1), 1) := by decide +kernel
theorem dz_S_dead_60 : decode zm_S_dead.2.1 60 = .ok (.ixor, 1) := by decide +kernel
theorem dz_S_dead_61 : decode zm_S_dead.2.1 61 = .ok (.iand, 1) := by decide +kernel
theorem dz_S_dead_62 : decode zm_S_dead.2.1 62 = .ok (.ireturn, 1) := by decide +kernel
theorem dz_S_dead_63 : decode zm_S_dead.2.1 63 = .ok (.iconst (-1), 1) := by decide +kernel
theorem dz_S_dead_64 : decode zm_S_dead.2.1 64 = .ok (.ireturn, 1) := by decide +kernel
theorem dz_S_least_0 : decode zm_S_least.2.1 0 = .ok (.iload_n 1, 1) := by decide +kernel
theorem dz_S_least_1 : decode zm_S_least.2.1 1 = .ok (.ifCond .lt 8, 3) := by decide +kernel
theorem dz_S_least_4 : decode zm_S_least.2.1 4 = .ok (.iload_n 1, 1) := by decide +kernel
theorem dz_S_least_5 : decode zm_S_least.2.1 5 = .ok (.iconst 1, 1) := by decide +kernel
theorem dz_S_least_6 : decode zm_S_least.2.1 6 = .ok (.if_icmp .le 5, 3) := by decide +kernel
theorem dz_S_least_9 : decode zm_S_least.2.1 9 = .ok (.iconst (-1), 1) := by decide +kernel
theorem dz_S_least_10 : decode zm_S_least.2.1 10 = .ok (.ireturn, 1) := by decide +kernel
theorem dz_S_least_11 : decode zm_S_least.2.1 11 = .ok (.aload_n 0, 1) := by decide +kernel
theorem dz_S_least_12 : decode zm_S_least.2.1 12 = .ok (.getfield 53, 3) := by decide +kernel
theorem dz_S_least_15 : decode zm_S_least.2.1 15 = .ok (.invokevirtual 185, 3) := by decide +kernel
theorem dz_S_least_18 : decode zm_S_least.2.1 18 = .ok (.istore_n 2, 1) := by decide +kernel
theorem dz_S_least_19 : decode zm_S_least.2.1 19 = .ok (.iload_n 2, 1) := by decide +kernel
theorem dz_S_least_20 : decode zm_S_least.2.1 20 = .ok (.istore_n 3, 1) := by decide +kernel
theorem dz_S_least_21 : decode zm_S_least.2.1 21 = .ok (.iconst 0, 1) := by decide +kernel
theorem dz_S_least_22 : decode zm_S_least.2.1 22 = .ok (.istore 4, 2) := by decide +kernel
theorem dz_S_least_24 : decode zm_S_least.2.1 24 = .ok (.iload 4, 2) := by decide +kernel
theorem dz_S_least_26 : decode zm_S_least.2.1 26 = .ok (.iload_n 2, 1) := by decide +kernel
theorem dz_S_least_27 : decode zm_S_least.2.1 27 = .ok (.if_icmp .ge 33, 3) := by decide +kernel
theorem dz_S_least_30 : decode zm_S_least.2.1 30 = .ok (.iload 4, 2) := by decide +kernel
theorem dz_S_least_32 : decode zm_S_least.2.1 32 = .ok (.invokestatic 198, 3) := by decide +kernel
theorem dz_S_least_35 : decode zm_S_least.2.1 35 = .ok (.iload_n 3, 1) := by decide +kernel
theorem dz_S_least_36 : decode zm_S_least.2.1 36 = .ok (.invokestatic 198, 3) := by decide +kernel
theorem dz_S_least_39 : decode zm_S_least.2.1 39 = .ok (.if_icmp .ge 15, 3) := by decide +kernel
theorem dz_S_least_42 : decode zm_S_least.2.1 42 = .ok (.aload_n 0, 1) := by decide +kernel
theorem dz_S_least_43 : decode zm_S_least.2.1 43 = .ok (.iload 4, 2) := by decide +kernel
theorem dz_S_least_45 : decode zm_S_least.2.1 45 = .ok (.invokevirtual 203, 3) := by decide +kernel
theorem dz_S_least_48 : decode zm_S_least.2.1 48 = .ok (.ifCond .eq 6, 3) := by decide +kernel
theorem dz_S_least_51 : decode zm_S_least.2.1 51 = .ok (.iload 4, 2) := by decide +kernel
theorem dz_S_least_53 : decode zm_S_least.2.1 53 = .ok (.istore_n 3, 1) := by decide +kernel
theorem dz_S_least_54 : decode zm_S_least.2.1 54 = .ok (.iinc 4 1, 3) := by decide +kernel
theorem dz_S_least_57 : decode zm_S_least.2.1 57 = .ok (.goto (-33), 3) := by decide +kernel
theorem dz_S_least_60 : decode zm_S_least.2.1 60 = .ok (.iload_n 1, 1) := by decide +kernel
theorem dz_S_least_61 : decode zm_S_least.2.1 61 = .ok (.ifCond .ne 10, 3) := by decide +kernel
theorem dz_S_least_64 : decode zm_S_least.2.1 64 = .ok (.iload_n 3, 1) := by decide +kernel
theorem dz_S_least_65 : decode zm_S_least.2.1 65 = .ok (.invokestatic 198, 3) := by decide +kernel
theorem dz_S_least_68 : decode zm_S_least.2.1 68 = .ok (.goto 4, 3) := by decide +kernel
theorem dz_S_least_71 : decode zm_S_least.2.1 71 = .ok (.iload_n 3, 1) := by decide +kernel
theorem dz_S_least_72 : decode zm_S_least.2.1 72 = .ok (.ireturn, 1) := by decide +kernel
theorem dz_S_who_0 : decode zm_S_who.2.1 0 = .ok (.iload_n 1, 1) := by decide +kernel
theorem dz_S_who_1 : decode zm_S_who.2.1 1 = .ok (.invokestatic 147, 3) := by decide +kernel
theorem dz_S_who_4 : decode zm_S_who.2.1 4 = .ok (.ifCond .ne 5, 3) := by decide +kernel
theorem dz_S_who_7 : decode zm_S_who.2.1 7 = .ok (.iconst (-1), 1) := by decide +kernel
theorem dz_S_who_8 : decode zm_S_who.2.1 8 = .ok (.ireturn, 1) := by decide +kernel
theorem dz_S_who_9 : decode zm_S_who.2.1 9 = .ok (.iconst 0, 1) := by decide +kernel
theorem dz_S_who_10 : decode zm_S_who.2.1 10 = .ok (.istore_n 2, 1) := by decide +kernel
theorem dz_S_who_11 : decode zm_S_who.2.1 11 = .ok (.iconst 0, 1) := by decide +kernel
theorem dz_S_who_12 : decode zm_S_who.2.1 12 = .ok (.istore_n 3, 1) := by decide +kernel
theorem dz_S_who_13 : decode zm_S_who.2.1 13 = .ok (.iload_n 3, 1) := by decide +kernel
theorem dz_S_who_14 : decode zm_S_who.2.1 14 = .ok (.aload_n 0, 1) := by decide +kernel
theorem dz_S_who_15 : decode zm_S_who.2.1 15 = .ok (.getfield 53, 3) := by decide +kernel
theorem dz_S_who_18 : decode zm_S_who.2.1 18 = .ok (.invokevirtual 206, 3) := by decide +kernel
theorem dz_S_who_21 : decode zm_S_who.2.1 21 = .ok (.if_icmp .ge 36, 3) := by decide +kernel
theorem dz_S_who_24 : decode zm_S_who.2.1 24 = .ok (.aload_n 0, 1) := by decide +kernel
theorem dz_S_who_25 : decode zm_S_who.2.1 25 = .ok (.getfield 53, 3) := by decide +kernel
theorem dz_S_who_28 : decode zm_S_who.2.1 28 = .ok (.iload_n 1, 1) := by decide +kernel
theorem dz_S_who_29 : decode zm_S_who.2.1 29 = .ok (.iload_n 3, 1) := by decide +kernel
theorem dz_S_who_30 : decode zm_S_who.2.1 30 = .ok (.bipush 31, 2) := by decide +kernel
theorem dz_S_who_32 : decode zm_S_who.2.1 32 = .ok (.invokevirtual 171, 3) := by decide +kernel
theorem dz_S_who_35 : decode zm_S_who.2.1 35 = .ok (.istore 4, 2) := by decide +kernel
theorem dz_S_who_37 : decode zm_S_who.2.1 37 = .ok (.iload 4, 2) := by decide +kernel
theorem dz_S_who_39 : decode zm_S_who.2.1 39 = .ok (.bipush (-4), 2) := by decide +kernel
theorem dz_S_who_41 : decode zm_S_who.2.1 41 = .ok (.if_icmp .eq 10, 3) := by decide +kernel
theorem dz_S_who_44 : decode zm_S_who.2.1 44 = .ok (.iload_n 2, 1) := by decide +kernel
theorem dz_S_who_45 : decode zm_S_who.2.1 45 = .ok (.iconst 1, 1) := by decide +kernel
theorem dz_S_who_46 : decode zm_S_who.2.1 46 = .ok (.iload 4, 2) := by decide +kernel
theorem dz_S_who_48 : decode zm_S_who.2.1 48 = .ok (.ishl, 1) := by decide +kernel
theorem dz_S_who_49 : decode zm_S_who.2.1 49 = .ok (.ior, 1) := by decide +kernel
theorem dz_S_who_50 : decode zm_S_who.2.1 50 = .ok (.istore_n 2, 1) := by decide +kernel
theorem dz_S_who_51 : decode zm_S_who.2.1 51 = .ok (.iinc 3 1, 3) := by decide +kernel
theorem dz_S_who_54 : decode zm_S_who.2.1 54 = .ok (.goto (-41), 3) := by decide +kernel
theorem dz_S_who_57 : decode zm_S_who.2.1 57 = .ok (.iload_n 2, 1) := by decide +kernel
theorem dz_S_who_58 : decode zm_S_who.2.1 58 = .ok (.ireturn, 1) := by decide +kernel
theorem dz_S_via_0 : decode zm_S_via.2.1 0 = .ok (.aload_n 0, 1) := by decide +kernel
theorem dz_S_via_1 : decode zm_S_via.2.1 1 = .ok (.getfield 53, 3) := by decide +kernel
theorem dz_S_via_4 : decode zm_S_via.2.1 4 = .ok (.iload_n 1, 1) := by decide +kernel
theorem dz_S_via_5 : decode zm_S_via.2.1 5 = .ok (.invokevirtual 95, 3) := by decide +kernel
theorem dz_S_via_8 : decode zm_S_via.2.1 8 = .ok (.ifCond .eq 19, 3) := by decide +kernel
theorem dz_S_via_11 : decode zm_S_via.2.1 11 = .ok (.iload_n 2, 1) := by decide +kernel
theorem dz_S_via_12 : decode zm_S_via.2.1 12 = .ok (.invokestatic 147, 3) := by decide +kernel
theorem dz_S_via_15 : decode zm_S_via.2.1 15 = .ok (.ifCond .eq 12, 3) := by decide +kernel
theorem dz_S_via_18 : decode zm_S_via.2.1 18 = .ok (.aload_n 0, 1) := by decide +kernel
theorem dz_S_via_19 : decode zm_S_via.2.1 19 = .ok (.iload_n 1, 1) := by decide +kernel
theorem dz_S_via_20 : decode zm_S_via.2.1 20 = .ok (.iload_n 2, 1) := by decide +kernel
theorem dz_S_via_21 : decode zm_S_via.2.1 21 = .ok (.invokevirtual 195, 3) := by decide +kernel
theorem dz_S_via_24 : decode zm_S_via.2.1 24 = .ok (.goto 4, 3) := by decide +kernel
theorem dz_S_via_27 : decode zm_S_via.2.1 27 = .ok (.iconst (-1), 1) := by decide +kernel
theorem dz_S_via_28 : decode zm_S_via.2.1 28 = .ok (.ireturn, 1) := by decide +kernel
theorem dz_S_odds_0 : decode zm_S_odds.2.1 0 = .ok (.iload_n 1, 1) := by decide +kernel
theorem dz_S_odds_1 : decode zm_S_odds.2.1 1 = .ok (.ifCond .lt 38, 3) := by decide +kernel
theorem dz_S_odds_4 : decode zm_S_odds.2.1 4 = .ok (.iload_n 1, 1) := by decide +kernel
theorem dz_S_odds_5 : decode zm_S_odds.2.1 5 = .ok (.bipush 10, 2) := by decide +kernel
theorem dz_S_odds_7 : decode zm_S_odds.2.1 7 = .ok (.if_icmp .gt 32, 3) := by decide +kernel
theorem dz_S_odds_10 : decode zm_S_odds.2.1 10 = .ok (.aload_n 0, 1) := by decide +kernel
theorem dz_S_odds_11 : decode zm_S_odds.2.1 11 = .ok (.getfield 53, 3) := by decide +kernel
theorem dz_S_odds_14 : decode zm_S_odds.2.1 14 = .ok (.iload_n 2, 1) := by decide +kernel
theorem dz_S_odds_15 : decode zm_S_odds.2.1 15 = .ok (.invokevirtual 95, 3) := by decide +kernel
theorem dz_S_odds_18 : decode zm_S_odds.2.1 18 = .ok (.ifCond .eq 21, 3) := by decide +kernel
theorem dz_S_odds_21 : decode zm_S_odds.2.1 21 = .ok (.iload_n 3, 1) := by decide +kernel
theorem dz_S_odds_22 : decode zm_S_odds.2.1 22 = .ok (.invokestatic 147, 3) := by decide +kernel
theorem dz_S_odds_25 : decode zm_S_odds.2.1 25 = .ok (.ifCond .eq 14, 3) := by decide +kernel
theorem dz_S_odds_28 : decode zm_S_odds.2.1 28 = .ok (.iload 4, 2) := by decide +kernel
theorem dz_S_odds_30 : decode zm_S_odds.2.1 30 = .ok (.ifCond .lt 9, 3) := by decide +kernel
theorem dz_S_odds_33 : decode zm_S_odds.2.1 33 = .ok (.iload 4, 2) := by decide +kernel
theorem dz_S_odds_35 : decode zm_S_odds.2.1 35 = .ok (.iconst 1, 1) := by decide +kernel
theorem dz_S_odds_36 : decode zm_S_odds.2.1 36 = .ok (.if_icmp .le 7, 3) := by decide +kernel
theorem dz_S_odds_39 : decode zm_S_odds.2.1 39 = .ok (.ldc2_w 209, 3) := by decide +kernel
theorem dz_S_odds_42 : decode zm_S_odds.2.1 42 = .ok (.lreturn, 1) := by decide +kernel
theorem dz_S_odds_43 : decode zm_S_odds.2.1 43 = .ok (.lconst 0, 1) := by decide +kernel
theorem dz_S_odds_44 : decode zm_S_odds.2.1 44 = .ok (.lstore 5, 2) := by decide +kernel
theorem dz_S_odds_46 : decode zm_S_odds.2.1 46 = .ok (.iconst 0, 1) := by decide +kernel
theorem dz_S_odds_47 : decode zm_S_odds.2.1 47 = .ok (.istore 7, 2) := by decide +kernel
theorem dz_S_odds_49 : decode zm_S_odds.2.1 49 = .ok (.iload 7, 2) := by decide +kernel
theorem dz_S_odds_51 : decode zm_S_odds.2.1 51 = .ok (.aload_n 0, 1) := by decide +kernel
theorem dz_S_odds_52 : decode zm_S_odds.2.1 52 = .ok (.getfield 53, 3) := by decide +kernel
theorem dz_S_odds_55 : decode zm_S_odds.2.1 55 = .ok (.invokevirtual 206, 3) := by decide +kernel
theorem dz_S_odds_58 : decode zm_S_odds.2.1 58 = .ok (.if_icmp .ge 57, 3) := by decide +kernel
theorem dz_S_odds_61 : decode zm_S_odds.2.1 61 = .ok (.iload 7, 2) := by decide +kernel
theorem dz_S_odds_63 : decode zm_S_odds.2.1 63 = .ok (.aload_n 0, 1) := by decide +kernel
theorem dz_S_odds_64 : decode zm_S_odds.2.1 64 = .ok (.getfield 53, 3) := by decide +kernel
theorem dz_S_odds_67 : decode zm_S_odds.2.1 67 = .ok (.getfield 92, 3) := by decide +kernel
theorem dz_S_odds_70 : decode zm_S_odds.2.1 70 = .ok (.iand, 1) := by decide +kernel
theorem dz_S_odds_71 : decode zm_S_odds.2.1 71 = .ok (.aload_n 0, 1) := by decide +kernel
theorem dz_S_odds_72 : decode zm_S_odds.2.1 72 = .ok (.getfield 53, 3) := by decide +kernel
theorem dz_S_odds_75 : decode zm_S_odds.2.1 75 = .ok (.getfield 92, 3) := by decide +kernel
theorem dz_S_odds_78 : decode zm_S_odds.2.1 78 = .ok (.if_icmp .ne 31, 3) := by decide +kernel
theorem dz_S_odds_81 : decode zm_S_odds.2.1 81 = .ok (.aload_n 0, 1) := by decide +kernel
theorem dz_S_odds_82 : decode zm_S_odds.2.1 82 = .ok (.getfield 53, 3) := by decide +kernel
theorem dz_S_odds_85 : decode zm_S_odds.2.1 85 = .ok (.iload_n 3, 1) := by decide +kernel
theorem dz_S_odds_86 : decode zm_S_odds.2.1 86 = .ok (.iload 7, 2) := by decide +kernel
theorem dz_S_odds_88 : decode zm_S_odds.2.1 88 = .ok (.bipush 31, 2) := by decide +kernel
theorem dz_S_odds_90 : decode zm_S_odds.2.1 90 = .ok (.invokevirtual 171, 3) := by decide +kernel
theorem dz_S_odds_93 : decode zm_S_odds.2.1 93 = .ok (.iload_n 2, 1) := by decide +kernel
theorem dz_S_odds_94 : decode zm_S_odds.2.1 94 = .ok (.if_icmp .ne 15, 3) := by decide +kernel
theorem dz_S_odds_97 : decode zm_S_odds.2.1 97 = .ok (.lload 5, 2) := by decide +kernel
theorem dz_S_odds_99 : decode zm_S_odds.2.1 99 = .ok (.aload_n 0, 1) := by decide +kernel
theorem dz_S_odds_100 : decode zm_S_odds.2.1 100 = .ok (.iload 7, 2) := by decide +kernel
theorem dz_S_odds_102 : decode zm_S_odds.2.1 102 = .ok (.iload_n 1, 1) := by decide +kernel
theorem dz_S_odds_103 : decode zm_S_odds.2.1 103 = .ok (.invokevirtual 211, 3) := by decide +kernel
theorem dz_S_odds_106 : decode zm_S_odds.2.1 106 = .ok (.ladd, 1) := by decide +kernel
theorem dz_S_odds_107 : decode zm_S_odds.2.1 107 = .ok (.lstore 5, 2) := by decide +kernel
theorem dz_S_odds_109 : decode zm_S_odds.2.1 109 = .ok (.iinc 7 1, 3) := by decide +kernel
theorem dz_S_odds_112 : decode zm_S_odds.2.1 112 = .ok (.goto (-63), 3) := by decide +kernel
theorem dz_S_odds_115 : decode zm_S_odds.2.1 115 = .ok (.aload_n 0, 1) := by decide +kernel
theorem dz_S_odds_116 : decode zm_S_odds.2.1 116 = .ok (.getfield 53, 3) := by decide +kernel
theorem dz_S_odds_119 : decode zm_S_odds.2.1 119 = .ok (.getfield 86, 3) := by decide +kernel
theorem dz_S_odds_122 : decode zm_S_odds.2.1 122 = .ok (.aload_n 0, 1) := by decide +kernel
theorem dz_S_odds_123 : decode zm_S_odds.2.1 123 = .ok (.getfield 53, 3) := by decide +kernel
theorem dz_S_odds_126 : decode zm_S_odds.2.1 126 = .ok (.getfield 92, 3) := by decide +kernel
theorem dz_S_odds_129 : decode zm_S_odds.2.1 129 = .ok (.invokestatic 198, 3) := by decide +kernel
theorem dz_S_odds_132 : decode zm_S_odds.2.1 132 = .ok (.isub, 1) := by decide +kernel
theorem dz_S_odds_133 : decode zm_S_odds.2.1 133 = .ok (.istore 7, 2) := by decide +kernel
theorem dz_S_odds_135 : decode zm_S_odds.2.1 135 = .ok (.lload 5, 2) := by decide +kernel
theorem dz_S_odds_137 : decode zm_S_odds.2.1 137 = .ok (.bipush 10, 2) := by decide +kernel
theorem dz_S_odds_139 : decode zm_S_odds.2.1 139 = .ok (.iload 7, 2) := by decide +kernel
theorem dz_S_odds_141 : decode zm_S_odds.2.1 141 = .ok (.invokestatic 215, 3) := by decide +kernel
theorem dz_S_odds_144 : decode zm_S_odds.2.1 144 = .ok (.iload 4, 2) := by decide +kernel
theorem dz_S_odds_146 : decode zm_S_odds.2.1 146 = .ok (.invokestatic 218, 3) := by decide +kernel
theorem dz_S_odds_149 : decode zm_S_odds.2.1 149 = .ok (.lreturn, 1) := by decide +kernel
theorem dz_S_turn_0 : decode zm_S_turn.2.1 0 = .ok (.iload_n 1, 1) := by decide +kernel
theorem dz_S_turn_1 : decode zm_S_turn.2.1 1 = .ok (.invokestatic 165, 3) := by decide +kernel
theorem dz_S_turn_4 : decode zm_S_turn.2.1 4 = .ok (.ifCond .eq 10, 3) := by decide +kernel
theorem dz_S_turn_7 : decode zm_S_turn.2.1 7 = .ok (.iload_n 2, 1) := by decide +kernel
theorem dz_S_turn_8 : decode zm_S_turn.2.1 8 = .ok (.invokestatic 147, 3) := by decide +kernel
theorem dz_S_turn_11 : decode zm_S_turn.2.1 11 = .ok (.ifCond .ne 5, 3) := by decide +kernel
theorem dz_S_turn_14 : decode zm_S_turn.2.1 14 = .ok (.iconst (-1), 1) := by decide +kernel
theorem dz_S_turn_15 : decode zm_S_turn.2.1 15 = .ok (.ireturn, 1) := by decide +kernel
theorem dz_S_turn_16 : decode zm_S_turn.2.1 16 = .ok (.aload_n 0, 1) := by decide +kernel
theorem dz_S_turn_17 : decode zm_S_turn.2.1 17 = .ok (.getfield 40, 3) := by decide +kernel
theorem dz_S_turn_20 : decode zm_S_turn.2.1 20 = .ok (.aload_n 0, 1) := by decide +kernel
theorem dz_S_turn_21 : decode zm_S_turn.2.1 21 = .ok (.getfield 53, 3) := by decide +kernel
theorem dz_S_turn_24 : decode zm_S_turn.2.1 24 = .ok (.invokevirtual 174, 3) := by decide +kernel
theorem dz_S_turn_27 : decode zm_S_turn.2.1 27 = .ok (.iconst 0, 1) := by decide +kernel
theorem dz_S_turn_28 : decode zm_S_turn.2.1 28 = .ok (.istore_n 3, 1) := by decide +kernel
theorem dz_S_turn_29 : decode zm_S_turn.2.1 29 = .ok (.iload_n 3, 1) := by decide +kernel
theorem dz_S_turn_30 : decode zm_S_turn.2.1 30 = .ok (.aload_n 0, 1) := by decide +kernel
theorem dz_S_turn_31 : decode zm_S_turn.2.1 31 = .ok (.getfield 40, 3) := by decide +kernel
theorem dz_S_turn_34 : decode zm_S_turn.2.1 34 = .ok (.getfield 89, 3) := by decide +kernel
theorem dz_S_turn_37 : decode zm_S_turn.2.1 37 = .ok (.if_icmp .ge 19, 3) := by decide +kernel
theorem dz_S_turn_40 : decode zm_S_turn.2.1 40 = .ok (.aload_n 0, 1) := by decide +kernel
theorem dz_S_turn_41 : decode zm_S_turn.2.1 41 = .ok (.getfield 40, 3) := by decide +kernel
theorem dz_S_turn_44 : decode zm_S_turn.2.1 44 = .ok (.getfield 138, 3) := by decide +kernel
theorem dz_S_turn_47 : decode zm_S_turn.2.1 47 = .ok (.iload_n 3, 1) := by decide +kernel
theorem dz_S_turn_48 : decode zm_S_turn.2.1 48 = .ok (.iload_n 1, 1) := by decide +kernel
theorem dz_S_turn_49 : decode zm_S_turn.2.1 49 = .ok (.iastore, 1) := by decide +kernel
theorem dz_S_turn_50 : decode zm_S_turn.2.1 50 = .ok (.iinc 3 1, 3) := by decide +kernel
theorem dz_S_turn_53 : decode zm_S_turn.2.1 53 = .ok (.goto (-24), 3) := by decide +kernel
theorem dz_S_turn_56 : decode zm_S_turn.2.1 56 = .ok (.aload_n 0, 1) := by decide +kernel
theorem dz_S_turn_57 : decode zm_S_turn.2.1 57 = .ok (.getfield 40, 3) := by decide +kernel
theorem dz_S_turn_60 : decode zm_S_turn.2.1 60 = .ok (.iload_n 2, 1) := by decide +kernel
theorem dz_S_turn_61 : decode zm_S_turn.2.1 61 = .ok (.invokevirtual 150, 3) := by decide +kernel
theorem dz_S_turn_64 : decode zm_S_turn.2.1 64 = .ok (.ireturn, 1) := by decide +kernel
theorem dz_S_best_0 : decode zm_S_best.2.1 0 = .ok (.aload_n 0, 1) := by decide +kernel
theorem dz_S_best_1 : decode zm_S_best.2.1 1 = .ok (.getfield 53, 3) := by decide +kernel
theorem dz_S_best_4 : decode zm_S_best.2.1 4 = .ok (.iload_n 1, 1) := by decide +kernel
theorem dz_S_best_5 : decode zm_S_best.2.1 5 = .ok (.invokevirtual 95, 3) := by decide +kernel
theorem dz_S_best_8 : decode zm_S_best.2.1 8 = .ok (.ifCond .eq 30, 3) := by decide +kernel
theorem dz_S_best_11 : decode zm_S_best.2.1 11 = .ok (.iload_n 2, 1) := by decide +kernel
theorem dz_S_best_12 : decode zm_S_best.2.1 12 = .ok (.invokestatic 147, 3) := by decide +kernel
theorem dz_S_best_15 : decode zm_S_best.2.1 15 = .ok (.ifCond .eq 23, 3) := by decide +kernel
theorem dz_S_best_18 : decode zm_S_best.2.1 18 = .ok (.iload_n 3, 1) := by decide +kernel
theorem dz_S_best_19 : decode zm_S_best.2.1 19 = .ok (.ifCond .lt 19, 3) := by decide +kernel
theorem dz_S_best_22 : decode zm_S_best.2.1 22 = .ok (.iload_n 3, 1) := by decide +kernel
theorem dz_S_best_23 : decode zm_S_best.2.1 23 = .ok (.iconst 3, 1) := by decide +kernel
theorem dz_S_best_24 : decode zm_S_best.2.1 24 = .ok (.if_icmp .gt 14, 3) := by decide +kernel
theorem dz_S_best_27 : decode zm_S_best.2.1 27 = .ok (.iload 4, 2) := by decide +kernel
theorem dz_S_best_29 : decode zm_S_best.2.1 29 = .ok (.ifCond .lt 9, 3) := by decide +kernel
theorem dz_S_best_32 : decode zm_S_best.2.1 32 = .ok (.iload 4, 2) := by decide +kernel
theorem dz_S_best_34 : decode zm_S_best.2.1 34 = .ok (.iconst 2, 1) := by decide +kernel
theorem dz_S_best_35 : decode zm_S_best.2.1 35 = .ok (.if_icmp .le 7, 3) := by decide +kernel
theorem dz_S_best_38 : decode zm_S_best.2.1 38 = .ok (.ldc2_w 209, 3) := by decide +kernel
theorem dz_S_best_41 : decode zm_S_best.2.1 41 = .ok (.lreturn, 1) := by decide +kernel
theorem dz_S_best_42 : decode zm_S_best.2.1 42 = .ok (.aload_n 0, 1) := by decide +kernel
theorem dz_S_best_43 : decode zm_S_best.2.1 43 = .ok (.getfield 40, 3) := by decide +kernel
theorem dz_S_best_46 : decode zm_S_best.2.1 46 = .ok (.aload_n 0, 1) := by decide +kernel
theorem dz_S_best_47 : decode zm_S_best.2.1 47 = .ok (.getfield 53, 3) := by decide +kernel
theorem dz_S_best_50 : decode zm_S_best.2.1 50 = .ok (.invokevirtual 174, 3) := by decide +kernel
theorem dz_S_best_53 : decode zm_S_best.2.1 53 = .ok (.aload_n 0, 1) := by decide +kernel
theorem dz_S_best_54 : decode zm_S_best.2.1 54 = .ok (.getfield 40, 3) := by decide +kernel
theorem dz_S_best_57 : decode zm_S_best.2.1 57 = .ok (.iload_n 2, 1) := by decide +kernel
theorem dz_S_best_58 : decode zm_S_best.2.1 58 = .ok (.invokevirtual 150, 3) := by decide +kernel
theorem dz_S_best_61 : decode zm_S_best.2.1 61 = .ok (.iload_n 1, 1) := by decide +kernel
theorem dz_S_best_62 : decode zm_S_best.2.1 62 = .ok (.if_icmp .ne 12, 3) := by decide +kernel
theorem dz_S_best_65 : decode zm_S_best.2.1 65 = .ok (.bipush 10, 2) := by decide +kernel
theorem dz_S_best_67 : decode zm_S_best.2.1 67 = .ok (.iload_n 3, 1) := by decide +kernel
theorem dz_S_best_68 : decode zm_S_best.2.1 68 = .ok (.invokestatic 215, 3) := by decide +kernel
theorem dz_S_best_71 : decode zm_S_best.2.1 71 = .ok (.goto 4, 3) := by decide +kernel
theorem dz_S_best_74 : decode zm_S_best.2.1 74 = .ok (.lconst 0, 1) := by decide +kernel
theorem dz_S_best_75 : decode zm_S_best.2.1 75 = .ok (.lstore 5, 2) := by decide +kernel
theorem dz_S_best_77 : decode zm_S_best.2.1 77 = .ok (.iconst 5, 1) := by decide +kernel
theorem dz_S_best_78 : decode zm_S_best.2.1 78 = .ok (.istore 7, 2) := by decide +kernel
theorem dz_S_best_80 : decode zm_S_best.2.1 80 = .ok (.iconst 0, 1) := by decide +kernel
theorem dz_S_best_81 : decode zm_S_best.2.1 81 = .ok (.istore 8, 2) := by decide +kernel
theorem dz_S_best_83 : decode zm_S_best.2.1 83 = .ok (.iload 8, 2) := by decide +kernel
theorem dz_S_best_85 : decode zm_S_best.2.1 85 = .ok (.iconst 5, 1) := by decide +kernel
theorem dz_S_best_86 : decode zm_S_best.2.1 86 = .ok (.if_icmp .ge 36, 3) := by decide +kernel
theorem dz_S_best_89 : decode zm_S_best.2.1 89 = .ok (.aload_n 0, 1) := by decide +kernel
theorem dz_S_best_90 : decode zm_S_best.2.1 90 = .ok (.iload 8, 2) := by decide +kernel
theorem dz_S_best_92 : decode zm_S_best.2.1 92 = .ok (.iload_n 1, 1) := by decide +kernel
theorem dz_S_best_93 : decode zm_S_best.2.1 93 = .ok (.iload_n 2, 1) := by decide +kernel
theorem dz_S_best_94 : decode zm_S_best.2.1 94 = .ok (.iload_n 3, 1) := by decide +kernel
theorem dz_S_best_95 : decode zm_S_best.2.1 95 = .ok (.invokevirtual 222, 3) := by decide +kernel
theorem dz_S_best_98 : decode zm_S_best.2.1 98 = .ok (.lstore 9, 2) := by decide +kernel
theorem dz_S_best_100 : decode zm_S_best.2.1 100 = .ok (.lload 9, 2) := by decide +kernel
theorem dz_S_best_102 : decode zm_S_best.2.1 102 = .ok (.lload 5, 2) := by decide +kernel
theorem dz_S_best_104 : decode zm_S_best.2.1 104 = .ok (.lcmp, 1) := by decide +kernel
theorem dz_S_best_105 : decode zm_S_best.2.1 105 = .ok (.ifCond .le 11, 3) := by decide +kernel
theorem dz_S_best_108 : decode zm_S_best.2.1 108 = .ok (.lload 9, 2) := by decide +kernel
theorem dz_S_best_110 : decode zm_S_best.2.1 110 = .ok (.lstore 5, 2) := by decide +kernel
theorem dz_S_best_112 : decode zm_S_best.2.1 112 = .ok (.iload 8, 2) := by decide +kernel
theorem dz_S_best_114 : decode zm_S_best.2.1 114 = .ok (.istore 7, 2) := by decide +kernel
theorem dz_S_best_116 : decode zm_S_best.2.1 116 = .ok (.iinc 8 1, 3) := by decide +kernel
theorem dz_S_best_119 : decode zm_S_best.2.1 119 = .ok (.goto (-36), 3) := by decide +kernel
theorem dz_S_best_122 : decode zm_S_best.2.1 122 = .ok (.iload 4, 2) := by decide +kernel
theorem dz_S_best_124 : decode zm_S_best.2.1 124 = .ok (.iconst 2, 1) := by decide +kernel
theorem dz_S_best_125 : decode zm_S_best.2.1 125 = .ok (.if_icmp .ne 9, 3) := by decide +kernel
theorem dz_S_best_128 : decode zm_S_best.2.1 128 = .ok (.iload 7, 2) := by decide +kernel
theorem dz_S_best_130 : decode zm_S_best.2.1 130 = .ok (.i2l, 1) := by decide +kernel
theorem dz_S_best_131 : decode zm_S_best.2.1 131 = .ok (.goto 16, 3) := by decide +kernel
theorem dz_S_best_134 : decode zm_S_best.2.1 134 = .ok (.lload 5, 2) := by decide +kernel
theorem dz_S_best_136 : decode zm_S_best.2.1 136 = .ok (.bipush 10, 2) := by decide +kernel
theorem dz_S_best_138 : decode zm_S_best.2.1 138 = .ok (.iload_n 3, 1) := by decide +kernel
theorem dz_S_best_139 : decode zm_S_best.2.1 139 = .ok (.invokestatic 215, 3) := by decide +kernel
theorem dz_S_best_142 : decode zm_S_best.2.1 142 = .ok (.iload 4, 2) := by decide +kernel
theorem dz_S_best_144 : decode zm_S_best.2.1 144 = .ok (.invokestatic 218, 3) := by decide +kernel
theorem dz_S_best_147 : decode zm_S_best.2.1 147 = .ok (.lreturn, 1) := by decide +kernel
theorem dz_S_see_0 : decode zm_S_see.2.1 0 = .ok (.iload_n 1, 1) := by decide +kernel
theorem dz_S_see_1 : decode zm_S_see.2.1 1 = .ok (.invokestatic 147, 3) := by decide +kernel
theorem dz_S_see_4 : decode zm_S_see.2.1 4 = .ok (.ifCond .eq 20, 3) := by decide +kernel
theorem dz_S_see_7 : decode zm_S_see.2.1 7 = .ok (.iload_n 2, 1) := by decide +kernel
theorem dz_S_see_8 : decode zm_S_see.2.1 8 = .ok (.bipush (-4), 2) := by decide +kernel
theorem dz_S_see_10 : decode zm_S_see.2.1 10 = .ok (.if_icmp .eq 16, 3) := by decide +kernel
theorem dz_S_see_13 : decode zm_S_see.2.1 13 = .ok (.aload_n 0, 1) := by decide +kernel
theorem dz_S_see_14 : decode zm_S_see.2.1 14 = .ok (.getfield 53, 3) := by decide +kernel
theorem dz_S_see_17 : decode zm_S_see.2.1 17 = .ok (.iload_n 2, 1) := by decide +kernel
theorem dz_S_see_18 : decode zm_S_see.2.1 18 = .ok (.invokevirtual 95, 3) := by decide +kernel
theorem dz_S_see_21 : decode zm_S_see.2.1 21 = .ok (.ifCond .ne 5, 3) := by decide +kernel
theorem dz_S_see_24 : decode zm_S_see.2.1 24 = .ok (.iconst (-1), 1) := by decide +kernel
theorem dz_S_see_25 : decode zm_S_see.2.1 25 = .ok (.ireturn, 1) := by decide +kernel
theorem dz_S_see_26 : decode zm_S_see.2.1 26 = .ok (.aload_n 0, 1) := by decide +kernel
theorem dz_S_see_27 : decode zm_S_see.2.1 27 = .ok (.getfield 80, 3) := by decide +kernel
theorem dz_S_see_30 : decode zm_S_see.2.1 30 = .ok (.bipush 6, 2) := by decide +kernel
theorem dz_S_see_32 : decode zm_S_see.2.1 32 = .ok (.if_icmp .lt 6, 3) := by decide +kernel
theorem dz_S_see_35 : decode zm_S_see.2.1 35 = .ok (.bipush (-3), 2) := by decide +kernel
theorem dz_S_see_37 : decode zm_S_see.2.1 37 = .ok (.ireturn, 1) := by decide +kernel
theorem dz_S_see_38 : decode zm_S_see.2.1 38 = .ok (.aload_n 0, 1) := by decide +kernel
theorem dz_S_see_39 : decode zm_S_see.2.1 39 = .ok (.getfield 47, 3) := by decide +kernel
theorem dz_S_see_42 : decode zm_S_see.2.1 42 = .ok (.aload_n 0, 1) := by decide +kernel
theorem dz_S_see_43 : decode zm_S_see.2.1 43 = .ok (.getfield 80, 3) := by decide +kernel
theorem dz_S_see_46 : decode zm_S_see.2.1 46 = .ok (.iload_n 1, 1) := by decide +kernel
theorem dz_S_see_47 : decode zm_S_see.2.1 47 = .ok (.iastore, 1) := by decide +kernel
theorem dz_S_see_48 : decode zm_S_see.2.1 48 = .ok (.aload_n 0, 1) := by decide +kernel
theorem dz_S_see_49 : decode zm_S_see.2.1 49 = .ok (.getfield 50, 3) := by decide +kernel
theorem dz_S_see_52 : decode zm_S_see.2.1 52 = .ok (.aload_n 0, 1) := by decide +kernel
theorem dz_S_see_53 : decode zm_S_see.2.1 53 = .ok (.getfield 80, 3) := by decide +kernel
theorem dz_S_see_56 : decode zm_S_see.2.1 56 = .ok (.iload_n 2, 1) := by decide +kernel
theorem dz_S_see_57 : decode zm_S_see.2.1 57 = .ok (.iastore, 1) := by decide +kernel
theorem dz_S_see_58 : decode zm_S_see.2.1 58 = .ok (.aload_n 0, 1) := by decide +kernel
theorem dz_S_see_59 : decode zm_S_see.2.1 59 = .ok (.dup, 1) := by decide +kernel
theorem dz_S_see_60 : decode zm_S_see.2.1 60 = .ok (.getfield 80, 3) := by decide +kernel
theorem dz_S_see_63 : decode zm_S_see.2.1 63 = .ok (.iconst 1, 1) := by decide +kernel
theorem dz_S_see_64 : decode zm_S_see.2.1 64 = .ok (.iadd, 1) := by decide +kernel
theorem dz_S_see_65 : decode zm_S_see.2.1 65 = .ok (.putfield 80, 3) := by decide +kernel
theorem dz_S_see_68 : decode zm_S_see.2.1 68 = .ok (.aload_n 0, 1) := by decide +kernel
theorem dz_S_see_69 : decode zm_S_see.2.1 69 = .ok (.getfield 80, 3) := by decide +kernel
theorem dz_S_see_72 : decode zm_S_see.2.1 72 = .ok (.ireturn, 1) := by decide +kernel
theorem dz_S_forget_0 : decode zm_S_forget.2.1 0 = .ok (.iload_n 1, 1) := by decide +kernel
theorem dz_S_forget_1 : decode zm_S_forget.2.1 1 = .ok (.ifCond .lt 11, 3) := by decide +kernel
theorem dz_S_forget_4 : decode zm_S_forget.2.1 4 = .ok (.iload_n 1, 1) := by decide +kernel
theorem dz_S_forget_5 : decode zm_S_forget.2.1 5 = .ok (.aload_n 0, 1) := by decide +kernel
theorem dz_S_forget_6 : decode zm_S_forget.2.1 6 = .ok (.getfield 80, 3) := by decide +kernel
theorem dz_S_forget_9 : decode zm_S_forget.2.1 9 = .ok (.if_icmp .le 5, 3) := by decide +kernel
theorem dz_S_forget_12 : decode zm_S_forget.2.1 12 = .ok (.iconst (-1), 1) := by decide +kernel
theorem dz_S_forget_13 : decode zm_S_forget.2.1 13 = .ok (.ireturn, 1) := by decide +kernel
theorem dz_S_forget_14 : decode zm_S_forget.2.1 14 = .ok (.aload_n 0, 1) := by decide +kernel
theorem dz_S_forget_15 : decode zm_S_forget.2.1 15 = .ok (.getfield 80, 3) := by decide +kernel
theorem dz_S_forget_18 : decode zm_S_forget.2.1 18 = .ok (.istore_n 2, 1) := by decide +kernel
theorem dz_S_forget_19 : decode zm_S_forget.2.1 19 = .ok (.aload_n 0, 1) := by decide +kernel
theorem dz_S_forget_20 : decode zm_S_forget.2.1 20 = .ok (.iload_n 1, 1) := by decide +kernel
theorem dz_S_forget_21 : decode zm_S_forget.2.1 21 = .ok (.putfield 80, 3) := by decide +kernel
theorem dz_S_forget_24 : decode zm_S_forget.2.1 24 = .ok (.iload_n 2, 1) := by decide +kernel
theorem dz_S_forget_25 : decode zm_S_forget.2.1 25 = .ok (.ireturn, 1) := by decide +kernel
theorem dz_S_fits_0 : decode zm_S_fits.2.1 0 = .ok (.iload_n 1, 1) := by decide +kernel
theorem dz_S_fits_1 : decode zm_S_fits.2.1 1 = .ok (.ifCond .lt 8, 3) := by decide +kernel
theorem dz_S_fits_4 : decode zm_S_fits.2.1 4 = .ok (.iload_n 1, 1) := by decide +kernel
theorem dz_S_fits_5 : decode zm_S_fits.2.1 5 = .ok (.iconst 3, 1) := by decide +kernel
theorem dz_S_fits_6 : decode zm_S_fits.2.1 6 = .ok (.if_icmp .le 5, 3) := by decide +kernel
theorem dz_S_fits_9 : decode zm_S_fits.2.1 9 = .ok (.iconst (-1), 1) := by decide +kernel
theorem dz_S_fits_10 : decode zm_S_fits.2.1 10 = .ok (.ireturn, 1) := by decide +kernel
theorem dz_S_fits_11 : decode zm_S_fits.2.1 11 = .ok (.iconst 0, 1) := by decide +kernel
theorem dz_S_fits_12 : decode zm_S_fits.2.1 12 = .ok (.istore_n 2, 1) := by decide +kernel
theorem dz_S_fits_13 : decode zm_S_fits.2.1 13 = .ok (.bipush (-4), 2) := by decide +kernel
theorem dz_S_fits_15 : decode zm_S_fits.2.1 15 = .ok (.istore_n 3, 1) := by decide +kernel
theorem dz_S_fits_16 : decode zm_S_fits.2.1 16 = .ok (.aload_n 0, 1) := by decide +kernel
theorem dz_S_fits_17 : decode zm_S_fits.2.1 17 = .ok (.getfield 53, 3) := by decide +kernel
theorem dz_S_fits_20 : decode zm_S_fits.2.1 20 = .ok (.invokevirtual 226, 3) := by decide +kernel
theorem dz_S_fits_23 : decode zm_S_fits.2.1 23 = .ok (.istore 4, 2) := by decide +kernel
theorem dz_S_fits_25 : decode zm_S_fits.2.1 25 = .ok (.iconst 0, 1) := by decide +kernel
theorem dz_S_fits_26 : decode zm_S_fits.2.1 26 = .ok (.istore 5, 2) := by decide +kernel
theorem dz_S_fits_28 : decode zm_S_fits.2.1 28 = .ok (.iconst 0, 1) := by decide +kernel
theorem dz_S_fits_29 : decode zm_S_fits.2.1 29 = .ok (.istore 6, 2) := by decide +kernel
theorem dz_S_fits_31 : decode zm_S_fits.2.1 31 = .ok (.iload 6, 2) := by decide +kernel
theorem dz_S_fits_33 : decode zm_S_fits.2.1 33 = .ok (.aload_n 0, 1) := by decide +kernel
theorem dz_S_fits_34 : decode zm_S_fits.2.1 34 = .ok (.getfield 53, 3) := by decide +kernel
theorem dz_S_fits_37 : decode zm_S_fits.2.1 37 = .ok (.invokevirtual 206, 3) := by decide +kernel
theorem dz_S_fits_40 : decode zm_S_fits.2.1 40 = .ok (.if_icmp .ge 48, 3) := by decide +kernel
theorem dz_S_fits_43 : decode zm_S_fits.2.1 43 = .ok (.aload_n 0, 1) := by decide +kernel
theorem dz_S_fits_44 : decode zm_S_fits.2.1 44 = .ok (.iload 6, 2) := by decide +kernel
theorem dz_S_fits_46 : decode zm_S_fits.2.1 46 = .ok (.invokevirtual 229, 3) := by decide +kernel
theorem dz_S_fits_49 : decode zm_S_fits.2.1 49 = .ok (.ifCond .eq 33, 3) := by decide +kernel
theorem dz_S_fits_52 : decode zm_S_fits.2.1 52 = .ok (.iinc 2 1, 3) := by decide +kernel
theorem dz_S_fits_55 : decode zm_S_fits.2.1 55 = .ok (.iload_n 3, 1) := by decide +kernel
theorem dz_S_fits_56 : decode zm_S_fits.2.1 56 = .ok (.bipush (-4), 2) := by decide +kernel
theorem dz_S_fits_58 : decode zm_S_fits.2.1 58 = .ok (.if_icmp .ne 8, 3) := by decide +kernel
theorem dz_S_fits_61 : decode zm_S_fits.2.1 61 = .ok (.iload 6, 2) := by decide +kernel
theorem dz_S_fits_63 : decode zm_S_fits.2.1 63 = .ok (.goto 4, 3) := by decide +kernel
theorem dz_S_fits_66 : decode zm_S_fits.2.1 66 = .ok (.iload_n 3, 1) := by decide +kernel
theorem dz_S_fits_67 : decode zm_S_fits.2.1 67 = .ok (.istore_n 3, 1) := by decide +kernel
theorem dz_S_fits_68 : decode zm_S_fits.2.1 68 = .ok (.iload 4, 2) := by decide +kernel
theorem dz_S_fits_70 : decode zm_S_fits.2.1 70 = .ok (.iload 6, 2) := by decide +kernel
theorem dz_S_fits_72 : decode zm_S_fits.2.1 72 = .ok (.iand, 1) := by decide +kernel
theorem dz_S_fits_73 : decode zm_S_fits.2.1 73 = .ok (.istore 4, 2) := by decide +kernel
theorem dz_S_fits_75 : decode zm_S_fits.2.1 75 = .ok (.iload 5, 2) := by decide +kernel
theorem dz_S_fits_77 : decode zm_S_fits.2.1 77 = .ok (.iload 6, 2) := by decide +kernel
theorem dz_S_fits_79 : decode zm_S_fits.2.1 79 = .ok (.ior, 1) := by decide +kernel
theorem dz_S_fits_80 : decode zm_S_fits.2.1 80 = .ok (.istore 5, 2) := by decide +kernel
theorem dz_S_fits_82 : decode zm_S_fits.2.1 82 = .ok (.iinc 6 1, 3) := by decide +kernel
theorem dz_S_fits_85 : decode zm_S_fits.2.1 85 = .ok (.goto (-54), 3) := by decide +kernel
theorem dz_S_fits_88 : decode zm_S_fits.2.1 88 = .ok (.iload_n 1, 1) := by decide +kernel
theorem dz_S_fits_89 : decode zm_S_fits.2.1 89 = .ok (.ifCond .eq 7, 3) := by decide +kernel
theorem dz_S_fits_92 : decode zm_S_fits.2.1 92 = .ok (.iload_n 2, 1) := by decide +kernel
theorem dz_S_fits_93 : decode zm_S_fits.2.1 93 = .ok (.ifCond .ne 14, 3) := by decide +kernel
theorem dz_S_fits_96 : decode zm_S_fits.2.1 96 = .ok (.iload_n 1, 1) := by decide +kernel
theorem dz_S_fits_97 : decode zm_S_fits.2.1 97 = .ok (.ifCond .ne 7, 3) := by decide +kernel
theorem dz_S_fits_100 : decode zm_S_fits.2.1 100 = .ok (.iload_n 2, 1) := by decide +kernel
theorem dz_S_fits_101 : decode zm_S_fits.2.1 101 = .ok (.goto 5, 3) := by decide +kernel
theorem dz_S_fits_104 : decode zm_S_fits.2.1 104 = .ok (.bipush (-4), 2) := by decide +kernel
theorem dz_S_fits_106 : decode zm_S_fits.2.1 106 = .ok (.ireturn, 1) := by decide +kernel
theorem dz_S_fits_107 : decode zm_S_fits.2.1 107 = .ok (.iload_n 1, 1) := by decide +kernel
theorem dz_S_fits_108 : decode zm_S_fits.2.1 108 = .ok (.iconst 1, 1) := by decide +kernel
theorem dz_S_fits_109 : decode zm_S_fits.2.1 109 = .ok (.if_icmp .ne 5, 3) := by decide +kernel
theorem dz_S_fits_112 : decode zm_S_fits.2.1 112 = .ok (.iload_n 3, 1) := by decide +kernel
theorem dz_S_fits_113 : decode zm_S_fits.2.1 113 = .ok (.ireturn, 1) := by decide +kernel
theorem dz_S_fits_114 : decode zm_S_fits.2.1 114 = .ok (.iload_n 1, 1) := by decide +kernel
theorem dz_S_fits_115 : decode zm_S_fits.2.1 115 = .ok (.iconst 2, 1) := by decide +kernel
theorem dz_S_fits_116 : decode zm_S_fits.2.1 116 = .ok (.if_icmp .ne 8, 3) := by decide +kernel
theorem dz_S_fits_119 : decode zm_S_fits.2.1 119 = .ok (.iload 4, 2) := by decide +kernel
theorem dz_S_fits_121 : decode zm_S_fits.2.1 121 = .ok (.goto 15, 3) := by decide +kernel
theorem dz_S_fits_124 : decode zm_S_fits.2.1 124 = .ok (.aload_n 0, 1) := by decide +kernel
theorem dz_S_fits_125 : decode zm_S_fits.2.1 125 = .ok (.getfield 53, 3) := by decide +kernel
theorem dz_S_fits_128 : decode zm_S_fits.2.1 128 = .ok (.invokevirtual 226, 3) := by decide +kernel
theorem dz_S_fits_131 : decode zm_S_fits.2.1 131 = .ok (.iload 5, 2) := by decide +kernel
theorem dz_S_fits_133 : decode zm_S_fits.2.1 133 = .ok (.iconst (-1), 1) := by decide +kernel
theorem dz_S_fits_134 : decode zm_S_fits.2.1 134 = .ok (.ixor, 1) := by decide +kernel
theorem dz_S_fits_135 : decode zm_S_fits.2.1 135 = .ok (.iand, 1) := by decide +kernel
theorem dz_S_fits_136 : decode zm_S_fits.2.1 136 = .ok (.ireturn, 1) := by decide +kernel
theorem dz_S_drift_0 : decode zm_S_drift.2.1 0 = .ok (.iload_n 2, 1) := by decide +kernel
theorem dz_S_drift_1 : decode zm_S_drift.2.1 1 = .ok (.iconst 1, 1) := by decide +kernel
theorem dz_S_drift_2 : decode zm_S_drift.2.1 2 = .ok (.if_icmp .lt 18, 3) := by decide +kernel
theorem dz_S_drift_5 : decode zm_S_drift.2.1 5 = .ok (.iload_n 2, 1) := by decide +kernel
theorem dz_S_drift_6 : decode zm_S_drift.2.1 6 = .ok (.bipush 60, 2) := by decide +kernel
theorem dz_S_drift_8 : decode zm_S_drift.2.1 8 = .ok (.if_icmp .gt 12, 3) := by decide +kernel
theorem dz_S_drift_11 : decode zm_S_drift.2.1 11 = .ok (.iload_n 3, 1) := by decide +kernel
theorem dz_S_drift_12 : decode zm_S_drift.2.1 12 = .ok (.ifCond .lt 8, 3) := by decide +kernel
theorem dz_S_drift_15 : decode zm_S_drift.2.1 15 = .ok (.iload_n 3, 1) := by decide +kernel
theorem dz_S_drift_16 : decode zm_S_drift.2.1 16 = .ok (.iconst 1, 1) := by decide +kernel
theorem dz_S_drift_17 : decode zm_S_drift.2.1 17 = .ok (.if_icmp .le 5, 3) := by decide +kernel
theorem dz_S_drift_20 : decode zm_S_drift.2.1 20 = .ok (.iconst (-1), 1) := by decide +kernel
theorem dz_S_drift_21 : decode zm_S_drift.2.1 21 = .ok (.ireturn, 1) := by decide +kernel
theorem dz_S_drift_22 : decode zm_S_drift.2.1 22 = .ok (.aload_n 0, 1) := by decide +kernel
theorem dz_S_drift_23 : decode zm_S_drift.2.1 23 = .ok (.getfield 53, 3) := by decide +kernel
theorem dz_S_drift_26 : decode zm_S_drift.2.1 26 = .ok (.getfield 86, 3) := by decide +kernel
theorem dz_S_drift_29 : decode zm_S_drift.2.1 29 = .ok (.istore 4, 2) := by decide +kernel
theorem dz_S_drift_31 : decode zm_S_drift.2.1 31 = .ok (.iload 4, 2) := by decide +kernel
theorem dz_S_drift_33 : decode zm_S_drift.2.1 33 = .ok (.ifCond .gt 6, 3) := by decide +kernel
theorem dz_S_drift_36 : decode zm_S_drift.2.1 36 = .ok (.bipush (-2), 2) := by decide +kernel
theorem dz_S_drift_38 : decode zm_S_drift.2.1 38 = .ok (.ireturn, 1) := by decide +kernel
theorem dz_S_drift_39 : decode zm_S_drift.2.1 39 = .ok (.aload_n 0, 1) := by decide +kernel
theorem dz_S_drift_40 : decode zm_S_drift.2.1 40 = .ok (.getfield 40, 3) := by decide +kernel
theorem dz_S_drift_43 : decode zm_S_drift.2.1 43 = .ok (.aload_n 0, 1) := by decide +kernel
theorem dz_S_drift_44 : decode zm_S_drift.2.1 44 = .ok (.getfield 53, 3) := by decide +kernel
theorem dz_S_drift_47 : decode zm_S_drift.2.1 47 = .ok (.invokevirtual 174, 3) := by decide +kernel
theorem dz_S_drift_50 : decode zm_S_drift.2.1 50 = .ok (.aload_n 0, 1) := by decide +kernel
theorem dz_S_drift_51 : decode zm_S_drift.2.1 51 = .ok (.getfield 40, 3) := by decide +kernel
theorem dz_S_drift_54 : decode zm_S_drift.2.1 54 = .ok (.iconst 0, 1) := by decide +kernel
theorem dz_S_drift_55 : decode zm_S_drift.2.1 55 = .ok (.invokevirtual 150, 3) := by decide +kernel
theorem dz_S_drift_58 : decode zm_S_drift.2.1 58 = .ok (.istore 5, 2) := by decide +kernel
theorem dz_S_drift_60 : decode zm_S_drift.2.1 60 = .ok (.iconst 0, 1) := by decide +kernel
theorem dz_S_drift_61 : decode zm_S_drift.2.1 61 = .ok (.istore 6, 2) := by decide +kernel
theorem dz_S_drift_63 : decode zm_S_drift.2.1 63 = .ok (.iconst 0, 1) := by decide +kernel
theorem dz_S_drift_64 : decode zm_S_drift.2.1 64 = .ok (.istore 7, 2) := by decide +kernel
theorem dz_S_drift_66 : decode zm_S_drift.2.1 66 = .ok (.iload 7, 2) := by decide +kernel
theorem dz_S_drift_68 : decode zm_S_drift.2.1 68 = .ok (.iload_n 2, 1) := by decide +kernel
theorem dz_S_drift_69 : decode zm_S_drift.2.1 69 = .ok (.if_icmp .ge 105, 3) := by decide +kernel
theorem dz_S_drift_72 : decode zm_S_drift.2.1 72 = .ok (.iload_n 1, 1) := by decide +kernel
theorem dz_S_drift_73 : decode zm_S_drift.2.1 73 = .ok (.invokestatic 232, 3) := by decide +kernel
theorem dz_S_drift_76 : decode zm_S_drift.2.1 76 = .ok (.istore_n 1, 1) := by decide +kernel
theorem dz_S_drift_77 : decode zm_S_drift.2.1 77 = .ok (.iload_n 1, 1) := by decide +kernel
theorem dz_S_drift_78 : decode zm_S_drift.2.1 78 = .ok (.invokestatic 235, 3) := by decide +kernel
theorem dz_S_drift_81 : decode zm_S_drift.2.1 81 = .ok (.iload 4, 2) := by decide +kernel
theorem dz_S_drift_83 : decode zm_S_drift.2.1 83 = .ok (.irem, 1) := by decide +kernel
theorem dz_S_drift_84 : decode zm_S_drift.2.1 84 = .ok (.istore 8, 2) := by decide +kernel
theorem dz_S_drift_86 : decode zm_S_drift.2.1 86 = .ok (.iload_n 1, 1) := by decide +kernel
theorem dz_S_drift_87 : decode zm_S_drift.2.1 87 = .ok (.invokestatic 232, 3) := by decide +kernel
theorem dz_S_drift_90 : decode zm_S_drift.2.1 90 = .ok (.istore_n 1, 1) := by decide +kernel
theorem dz_S_drift_91 : decode zm_S_drift.2.1 91 = .ok (.aload_n 0, 1) := by decide +kernel
theorem dz_S_drift_92 : decode zm_S_drift.2.1 92 = .ok (.getfield 40, 3) := by decide +kernel
theorem dz_S_drift_95 : decode zm_S_drift.2.1 95 = .ok (.bipush 10, 2) := by decide +kernel
theorem dz_S_drift_97 : decode zm_S_drift.2.1 97 = .ok (.iload 8, 2) := by decide +kernel
theorem dz_S_drift_99 : decode zm_S_drift.2.1 99 = .ok (.imul, 1) := by decide +kernel
theorem dz_S_drift_100 : decode zm_S_drift.2.1 100 = .ok (.iload_n 1, 1) := by decide +kernel
theorem dz_S_drift_101 : decode zm_S_drift.2.1 101 = .ok (.invokestatic 235, 3) := by decide +kernel
theorem dz_S_drift_104 : decode zm_S_drift.2.1 104 = .ok (.bipush 7, 2) := by decide +kernel
theorem dz_S_drift_106 : decode zm_S_drift.2.1 106 = .ok (.irem, 1) := by decide +kernel
theorem dz_S_drift_107 : decode zm_S_drift.2.1 107 = .ok (.iadd, 1) := by decide +kernel
theorem dz_S_drift_108 : decode zm_S_drift.2.1 108 = .ok (.invokevirtual 158, 3) := by decide +kernel
theorem dz_S_drift_111 : decode zm_S_drift.2.1 111 = .ok (.pop, 1) := by decide +kernel
theorem dz_S_drift_112 : decode zm_S_drift.2.1 112 = .ok (.aload_n 0, 1) := by decide +kernel
theorem dz_S_drift_113 : decode zm_S_drift.2.1 113 = .ok (.getfield 40, 3) := by decide +kernel
theorem dz_S_drift_116 : decode zm_S_drift.2.1 116 = .ok (.getfield 92, 3) := by decide +kernel
theorem dz_S_drift_119 : decode zm_S_drift.2.1 119 = .ok (.aload_n 0, 1) := by decide +kernel
theorem dz_S_drift_120 : decode zm_S_drift.2.1 120 = .ok (.getfield 40, 3) := by decide +kernel
theorem dz_S_drift_123 : decode zm_S_drift.2.1 123 = .ok (.invokevirtual 226, 3) := by decide +kernel
theorem dz_S_drift_126 : decode zm_S_drift.2.1 126 = .ok (.if_icmp .ne 11, 3) := by decide +kernel
theorem dz_S_drift_129 : decode zm_S_drift.2.1 129 = .ok (.aload_n 0, 1) := by decide +kernel
theorem dz_S_drift_130 : decode zm_S_drift.2.1 130 = .ok (.getfield 40, 3) := by decide +kernel
theorem dz_S_drift_133 : decode zm_S_drift.2.1 133 = .ok (.iconst 0, 1) := by decide +kernel
theorem dz_S_drift_134 : decode zm_S_drift.2.1 134 = .ok (.putfield 92, 3) := by decide +kernel
theorem dz_S_drift_137 : decode zm_S_drift.2.1 137 = .ok (.aload_n 0, 1) := by decide +kernel
theorem dz_S_drift_138 : decode zm_S_drift.2.1 138 = .ok (.getfield 40, 3) := by decide +kernel
theorem dz_S_drift_141 : decode zm_S_drift.2.1 141 = .ok (.iconst 0, 1) := by decide +kernel
theorem dz_S_drift_142 : decode zm_S_drift.2.1 142 = .ok (.invokevirtual 150, 3) := by decide +kernel
theorem dz_S_drift_145 : decode zm_S_drift.2.1 145 = .ok (.istore 9, 2) := by decide +kernel
theorem dz_S_drift_147 : decode zm_S_drift.2.1 147 = .ok (.iload 6, 2) := by decide +kernel
theorem dz_S_drift_149 : decode zm_S_drift.2.1 149 = .ok (.iload 9, 2) := by decide +kernel
theorem dz_S_drift_151 : decode zm_S_drift.2.1 151 = .ok (.iload 5, 2) := by decide +kernel
theorem dz_S_drift_153 : decode zm_S_drift.2.1 153 = .ok (.if_icmp .eq 7, 3) := by decide +kernel
theorem dz_S_drift_156 : decode zm_S_drift.2.1 156 = .ok (.iconst 1, 1) := by decide +kernel
theorem dz_S_drift_157 : decode zm_S_drift.2.1 157 = .ok (.goto 4, 3) := by decide +kernel
theorem dz_S_drift_160 : decode zm_S_drift.2.1 160 = .ok (.iconst 0, 1) := by decide +kernel
theorem dz_S_drift_161 : decode zm_S_drift.2.1 161 = .ok (.iadd, 1) := by decide +kernel
theorem dz_S_drift_162 : decode zm_S_drift.2.1 162 = .ok (.istore 6, 2) := by decide +kernel
theorem dz_S_drift_164 : decode zm_S_drift.2.1 164 = .ok (.iload 9, 2) := by decide +kernel
theorem dz_S_drift_166 : decode zm_S_drift.2.1 166 = .ok (.istore 5, 2) := by decide +kernel
theorem dz_S_drift_168 : decode zm_S_drift.2.1 168 = .ok (.iinc 7 1, 3) := by decide +kernel
theorem dz_S_drift_171 : decode zm_S_drift.2.1 171 = .ok (.goto (-105), 3) := by decide +kernel
theorem dz_S_drift_174 : decode zm_S_drift.2.1 174 = .ok (.iload_n 3, 1) := by decide +kernel
theorem dz_S_drift_175 : decode zm_S_drift.2.1 175 = .ok (.ifCond .ne 8, 3) := by decide +kernel
theorem dz_S_drift_178 : decode zm_S_drift.2.1 178 = .ok (.iload 6, 2) := by decide +kernel
theorem dz_S_drift_180 : decode zm_S_drift.2.1 180 = .ok (.goto 5, 3) := by decide +kernel
theorem dz_S_drift_183 : decode zm_S_drift.2.1 183 = .ok (.iload 5, 2) := by decide +kernel
theorem dz_S_drift_185 : decode zm_S_drift.2.1 185 = .ok (.ireturn, 1) := by decide +kernel
theorem dz_S_keep_0 : decode zm_S_keep.2.1 0 = .ok (.iload_n 1, 1) := by decide +kernel
theorem dz_S_keep_1 : decode zm_S_keep.2.1 1 = .ok (.ifCond .lt 8, 3) := by decide +kernel
theorem dz_S_keep_4 : decode zm_S_keep.2.1 4 = .ok (.iload_n 1, 1) := by decide +kernel
theorem dz_S_keep_5 : decode zm_S_keep.2.1 5 = .ok (.iconst 2, 1) := by decide +kernel
theorem dz_S_keep_6 : decode zm_S_keep.2.1 6 = .ok (.if_icmp .lt 5, 3) := by decide +kernel
theorem dz_S_keep_9 : decode zm_S_keep.2.1 9 = .ok (.iconst (-1), 1) := by decide +kernel
theorem dz_S_keep_10 : decode zm_S_keep.2.1 10 = .ok (.ireturn, 1) := by decide +kernel
theorem dz_S_keep_11 : decode zm_S_keep.2.1 11 = .ok (.aload_n 0, 1) := by decide +kernel
theorem dz_S_keep_12 : decode zm_S_keep.2.1 12 = .ok (.getfield 83, 3) := by decide +kernel
theorem dz_S_keep_15 : decode zm_S_keep.2.1 15 = .ok (.iload_n 1, 1) := by decide +kernel
theorem dz_S_keep_16 : decode zm_S_keep.2.1 16 = .ok (.ishr, 1) := by decide +kernel
theorem dz_S_keep_17 : decode zm_S_keep.2.1 17 = .ok (.iconst 1, 1) := by decide +kernel
theorem dz_S_keep_18 : decode zm_S_keep.2.1 18 = .ok (.iand, 1) := by decide +kernel
theorem dz_S_keep_19 : decode zm_S_keep.2.1 19 = .ok (.istore_n 2, 1) := by decide +kernel
theorem dz_S_keep_20 : decode zm_S_keep.2.1 20 = .ok (.aload_n 0, 1) := by decide +kernel
theorem dz_S_keep_21 : decode zm_S_keep.2.1 21 = .ok (.iload_n 1, 1) := by decide +kernel
theorem dz_S_keep_22 : decode zm_S_keep.2.1 22 = .ok (.invokevirtual 238, 3) := by decide +kernel
theorem dz_S_keep_25 : decode zm_S_keep.2.1 25 = .ok (.aload_n 0, 1) := by decide +kernel
theorem dz_S_keep_26 : decode zm_S_keep.2.1 26 = .ok (.getfield 53, 3) := by decide +kernel
theorem dz_S_keep_29 : decode zm_S_keep.2.1 29 = .ok (.invokevirtual 174, 3) := by decide +kernel
theorem dz_S_keep_32 : decode zm_S_keep.2.1 32 = .ok (.aload_n 0, 1) := by decide +kernel
theorem dz_S_keep_33 : decode zm_S_keep.2.1 33 = .ok (.dup, 1) := by decide +kernel
theorem dz_S_keep_34 : decode zm_S_keep.2.1 34 = .ok (.getfield 83, 3) := by decide +kernel
theorem dz_S_keep_37 : decode zm_S_keep.2.1 37 = .ok (.iconst 1, 1) := by decide +kernel
theorem dz_S_keep_38 : decode zm_S_keep.2.1 38 = .ok (.iload_n 1, 1) := by decide +kernel
theorem dz_S_keep_39 : decode zm_S_keep.2.1 39 = .ok (.ishl, 1) := by decide +kernel
theorem dz_S_keep_40 : decode zm_S_keep.2.1 40 = .ok (.ior, 1) := by decide +kernel
theorem dz_S_keep_41 : decode zm_S_keep.2.1 41 = .ok (.putfield 83, 3) := by decide +kernel
theorem dz_S_keep_44 : decode zm_S_keep.2.1 44 = .ok (.iload_n 2, 1) := by decide +kernel
theorem dz_S_keep_45 : decode zm_S_keep.2.1 45 = .ok (.ireturn, 1) := by decide +kernel
theorem dz_S_back_0 : decode zm_S_back.2.1 0 = .ok (.iload_n 1, 1) := by decide +kernel
theorem dz_S_back_1 : decode zm_S_back.2.1 1 = .ok (.ifCond .lt 8, 3) := by decide +kernel
theorem dz_S_back_4 : decode zm_S_back.2.1 4 = .ok (.iload_n 1, 1) := by decide +kernel
theorem dz_S_back_5 : decode zm_S_back.2.1 5 = .ok (.iconst 2, 1) := by decide +kernel
theorem dz_S_back_6 : decode zm_S_back.2.1 6 = .ok (.if_icmp .lt 5, 3) := by decide +kernel
theorem dz_S_back_9 : decode zm_S_back.2.1 9 = .ok (.iconst (-1), 1) := by decide +kernel
theorem dz_S_back_10 : decode zm_S_back.2.1 10 = .ok (.ireturn, 1) := by decide +kernel
theorem dz_S_back_11 : decode zm_S_back.2.1 11 = .ok (.aload_n 0, 1) := by decide +kernel
theorem dz_S_back_12 : decode zm_S_back.2.1 12 = .ok (.getfield 83, 3) := by decide +kernel
theorem dz_S_back_15 : decode zm_S_back.2.1 15 = .ok (.iload_n 1, 1) := by decide +kernel
theorem dz_S_back_16 : decode zm_S_back.2.1 16 = .ok (.ishr, 1) := by decide +kernel
theorem dz_S_back_17 : decode zm_S_back.2.1 17 = .ok (.iconst 1, 1) := by decide +kernel
theorem dz_S_back_18 : decode zm_S_back.2.1 18 = .ok (.iand, 1) := by decide +kernel
theorem dz_S_back_19 : decode zm_S_back.2.1 19 = .ok (.ifCond .ne 6, 3) := by decide +kernel
theorem dz_S_back_22 : decode zm_S_back.2.1 22 = .ok (.bipush (-2), 2) := by decide +kernel
theorem dz_S_back_24 : decode zm_S_back.2.1 24 = .ok (.ireturn, 1) := by decide +kernel
theorem dz_S_back_25 : decode zm_S_back.2.1 25 = .ok (.aload_n 0, 1) := by decide +kernel
theorem dz_S_back_26 : decode zm_S_back.2.1 26 = .ok (.getfield 53, 3) := by decide +kernel
theorem dz_S_back_29 : decode zm_S_back.2.1 29 = .ok (.aload_n 0, 1) := by decide +kernel
theorem dz_S_back_30 : decode zm_S_back.2.1 30 = .ok (.iload_n 1, 1) := by decide +kernel
theorem dz_S_back_31 : decode zm_S_back.2.1 31 = .ok (.invokevirtual 238, 3) := by decide +kernel
theorem dz_S_back_34 : decode zm_S_back.2.1 34 = .ok (.invokevirtual 174, 3) := by decide +kernel
theorem dz_S_back_37 : decode zm_S_back.2.1 37 = .ok (.aload_n 0, 1) := by decide +kernel
theorem dz_S_back_38 : decode zm_S_back.2.1 38 = .ok (.getfield 53, 3) := by decide +kernel
theorem dz_S_back_41 : decode zm_S_back.2.1 41 = .ok (.getfield 92, 3) := by decide +kernel
theorem dz_S_back_44 : decode zm_S_back.2.1 44 = .ok (.ireturn, 1) := by decide +kernel
theorem dz_S_sheet_0 : decode zm_S_sheet.2.1 0 = .ok (.aload_n 0, 1) := by decide +kernel
theorem dz_S_sheet_1 : decode zm_S_sheet.2.1 1 = .ok (.getfield 26, 3) := by decide +kernel
theorem dz_S_sheet_4 : decode zm_S_sheet.2.1 4 = .ok (.iload_n 1, 1) := by decide +kernel
theorem dz_S_sheet_5 : decode zm_S_sheet.2.1 5 = .ok (.invokevirtual 242, 3) := by decide +kernel
theorem dz_S_sheet_8 : decode zm_S_sheet.2.1 8 = .ok (.ifCond .eq 20, 3) := by decide +kernel
theorem dz_S_sheet_11 : decode zm_S_sheet.2.1 11 = .ok (.aload_n 0, 1) := by decide +kernel
theorem dz_S_sheet_12 : decode zm_S_sheet.2.1 12 = .ok (.getfield 26, 3) := by decide +kernel
theorem dz_S_sheet_15 : decode zm_S_sheet.2.1 15 = .ok (.iload_n 2, 1) := by decide +kernel
theorem dz_S_sheet_16 : decode zm_S_sheet.2.1 16 = .ok (.invokevirtual 245, 3) := by decide +kernel
theorem dz_S_sheet_19 : decode zm_S_sheet.2.1 19 = .ok (.ifCond .eq 9, 3) := by decide +kernel
theorem dz_S_sheet_22 : decode zm_S_sheet.2.1 22 = .ok (.iload_n 3, 1) := by decide +kernel
theorem dz_S_sheet_23 : decode zm_S_sheet.2.1 23 = .ok (.bipush 40, 2) := by decide +kernel
theorem dz_S_sheet_25 : decode zm_S_sheet.2.1 25 = .ok (.if_icmp .le 5, 3) := by decide +kernel
theorem dz_S_sheet_28 : decode zm_S_sheet.2.1 28 = .ok (.iconst (-1), 1) := by decide +kernel
theorem dz_S_sheet_29 : decode zm_S_sheet.2.1 29 = .ok (.ireturn, 1) := by decide +kernel
theorem dz_S_sheet_30 : decode zm_S_sheet.2.1 30 = .ok (.iload_n 3, 1) := by decide +kernel
theorem dz_S_sheet_31 : decode zm_S_sheet.2.1 31 = .ok (.ifCond .ge 6, 3) := by decide +kernel
theorem dz_S_sheet_34 : decode zm_S_sheet.2.1 34 = .ok (.bipush (-14), 2) := by decide +kernel
theorem dz_S_sheet_36 : decode zm_S_sheet.2.1 36 = .ok (.ireturn, 1) := by decide +kernel
theorem dz_S_sheet_37 : decode zm_S_sheet.2.1 37 = .ok (.aload_n 0, 1) := by decide +kernel
theorem dz_S_sheet_38 : decode zm_S_sheet.2.1 38 = .ok (.getfield 26, 3) := by decide +kernel
theorem dz_S_sheet_41 : decode zm_S_sheet.2.1 41 = .ok (.iload_n 1, 1) := by decide +kernel
theorem dz_S_sheet_42 : decode zm_S_sheet.2.1 42 = .ok (.iload_n 2, 1) := by decide +kernel
theorem dz_S_sheet_43 : decode zm_S_sheet.2.1 43 = .ok (.iload_n 3, 1) := by decide +kernel
theorem dz_S_sheet_44 : decode zm_S_sheet.2.1 44 = .ok (.invokevirtual 248, 3) := by decide +kernel
theorem dz_S_sheet_47 : decode zm_S_sheet.2.1 47 = .ok (.iconst 1, 1) := by decide +kernel
theorem dz_S_sheet_48 : decode zm_S_sheet.2.1 48 = .ok (.ireturn, 1) := by decide +kernel
theorem dz_S_lay_0 : decode zm_S_lay.2.1 0 = .ok (.aload_n 0, 1) := by decide +kernel
theorem dz_S_lay_1 : decode zm_S_lay.2.1 1 = .ok (.getfield 26, 3) := by decide +kernel
theorem dz_S_lay_4 : decode zm_S_lay.2.1 4 = .ok (.iload_n 1, 1) := by decide +kernel
theorem dz_S_lay_5 : decode zm_S_lay.2.1 5 = .ok (.invokevirtual 242, 3) := by decide +kernel
theorem dz_S_lay_8 : decode zm_S_lay.2.1 8 = .ok (.ifCond .ne 5, 3) := by decide +kernel
theorem dz_S_lay_11 : decode zm_S_lay.2.1 11 = .ok (.iconst (-1), 1) := by decide +kernel
theorem dz_S_lay_12 : decode zm_S_lay.2.1 12 = .ok (.ireturn, 1) := by decide +kernel
theorem dz_S_lay_13 : decode zm_S_lay.2.1 13 = .ok (.aload_n 0, 1) := by decide +kernel
theorem dz_S_lay_14 : decode zm_S_lay.2.1 14 = .ok (.getfield 26, 3) := by decide +kernel
theorem dz_S_lay_17 : decode zm_S_lay.2.1 17 = .ok (.iload_n 1, 1) := by decide +kernel
theorem dz_S_lay_18 : decode zm_S_lay.2.1 18 = .ok (.aload_n 0, 1) := by decide +kernel
theorem dz_S_lay_19 : decode zm_S_lay.2.1 19 = .ok (.getfield 26, 3) := by decide +kernel
theorem dz_S_lay_22 : decode zm_S_lay.2.1 22 = .ok (.iload_n 1, 1) := by decide +kernel
theorem dz_S_lay_23 : decode zm_S_lay.2.1 23 = .ok (.invokevirtual 252, 3) := by decide +kernel
theorem dz_S_lay_26 : decode zm_S_lay.2.1 26 = .ok (.iload_n 2, 1) := by decide +kernel
theorem dz_S_lay_27 : decode zm_S_lay.2.1 27 = .ok (.invokevirtual 255, 3) := by decide +kernel
theorem dz_S_lay_30 : decode zm_S_lay.2.1 30 = .ok (.istore 4, 2) := by decide +kernel
theorem dz_S_lay_32 : decode zm_S_lay.2.1 32 = .ok (.iload 4, 2) := by decide +kernel
theorem dz_S_lay_34 : decode zm_S_lay.2.1 34 = .ok (.ifCond .eq 9, 3) := by decide +kernel
theorem dz_S_lay_37 : decode zm_S_lay.2.1 37 = .ok (.bipush (-10), 2) := by decide +kernel
theorem dz_S_lay_39 : decode zm_S_lay.2.1 39 = .ok (.iload 4, 2) := by decide +kernel
theorem dz_S_lay_41 : decode zm_S_lay.2.1 41 = .ok (.isub, 1) := by decide +kernel
theorem dz_S_lay_42 : decode zm_S_lay.2.1 42 = .ok (.ireturn, 1) := by decide +kernel
theorem dz_S_lay_43 : decode zm_S_lay.2.1 43 = .ok (.aload_n 0, 1) := by decide +kernel
theorem dz_S_lay_44 : decode zm_S_lay.2.1 44 = .ok (.getfield 26, 3) := by decide +kernel
theorem dz_S_lay_47 : decode zm_S_lay.2.1 47 = .ok (.iload_n 1, 1) := by decide +kernel
theorem dz_S_lay_48 : decode zm_S_lay.2.1 48 = .ok (.iload_n 2, 1) := by decide +kernel
theorem dz_S_lay_49 : decode zm_S_lay.2.1 49 = .ok (.iload_n 3, 1) := by decide +kernel
theorem dz_S_lay_50 : decode zm_S_lay.2.1 50 = .ok (.invokevirtual 258, 3) := by decide +kernel
theorem dz_S_lay_53 : decode zm_S_lay.2.1 53 = .ok (.iconst 1, 1) := by decide +kernel
theorem dz_S_lay_54 : decode zm_S_lay.2.1 54 = .ok (.ireturn, 1) := by decide +kernel
theorem dz_S_read_0 : decode zm_S_read.2.1 0 = .ok (.aload_n 0, 1) := by decide +kernel
theorem dz_S_read_1 : decode zm_S_read.2.1 1 = .ok (.getfield 26, 3) := by decide +kernel
theorem dz_S_read_4 : decode zm_S_read.2.1 4 = .ok (.iload_n 1, 1) := by decide +kernel
theorem dz_S_read_5 : decode zm_S_read.2.1 5 = .ok (.invokevirtual 242, 3) := by decide +kernel
theorem dz_S_read_8 : decode zm_S_read.2.1 8 = .ok (.ifCond .eq 26, 3) := by decide +kernel
theorem dz_S_read_11 : decode zm_S_read.2.1 11 = .ok (.aload_n 0, 1) := by decide +kernel
theorem dz_S_read_12 : decode zm_S_read.2.1 12 = .ok (.getfield 26, 3) := by decide +kernel
theorem dz_S_read_15 : decode zm_S_read.2.1 15 = .ok (.iload_n 2, 1) := by decide +kernel
theorem dz_S_read_16 : decode zm_S_read.2.1 16 = .ok (.invokevirtual 245, 3) := by decide +kernel
theorem dz_S_read_19 : decode zm_S_read.2.1 19 = .ok (.ifCond .eq 15, 3) := by decide +kernel
theorem dz_S_read_22 : decode zm_S_read.2.1 22 = .ok (.iload 4, 2) := by decide +kernel
theorem dz_S_read_24 : decode zm_S_read.2.1 24 = .ok (.ifCond .lt 10, 3) := by decide +kernel
theorem dz_S_read_27 : decode zm_S_read.2.1 27 = .ok (.iload 4, 2) := by decide +kernel
theorem dz_S_read_29 : decode zm_S_read.2.1 29 = .ok (.bipush 20, 2) := by decide +kernel
theorem dz_S_read_31 : decode zm_S_read.2.1 31 = .ok (.if_icmp .le 5, 3) := by decide +kernel
theorem dz_S_read_34 : decode zm_S_read.2.1 34 = .ok (.iconst (-1), 1) := by decide +kernel
theorem dz_S_read_35 : decode zm_S_read.2.1 35 = .ok (.ireturn, 1) := by decide +kernel
theorem dz_S_read_36 : decode zm_S_read.2.1 36 = .ok (.aload_n 0, 1) := by decide +kernel
theorem dz_S_read_37 : decode zm_S_read.2.1 37 = .ok (.getfield 40, 3) := by decide +kernel
theorem dz_S_read_40 : decode zm_S_read.2.1 40 = .ok (.aload_n 0, 1) := by decide +kernel
theorem dz_S_read_41 : decode zm_S_read.2.1 41 = .ok (.getfield 53, 3) := by decide +kernel
theorem dz_S_read_44 : decode zm_S_read.2.1 44 = .ok (.invokevirtual 174, 3) := by decide +kernel
theorem dz_S_read_47 : decode zm_S_read.2.1 47 = .ok (.iconst 0, 1) := by decide +kernel
theorem dz_S_read_48 : decode zm_S_read.2.1 48 = .ok (.istore 5, 2) := by decide +kernel
theorem dz_S_read_50 : decode zm_S_read.2.1 50 = .ok (.iconst 0, 1) := by decide +kernel
theorem dz_S_read_51 : decode zm_S_read.2.1 51 = .ok (.istore 6, 2) := by decide +kernel
theorem dz_S_read_53 : decode zm_S_read.2.1 53 = .ok (.iload 6, 2) := by decide +kernel
theorem dz_S_read_55 : decode zm_S_read.2.1 55 = .ok (.iload 4, 2) := by decide +kernel
theorem dz_S_read_57 : decode zm_S_read.2.1 57 = .ok (.if_icmp .ge 60, 3) := by decide +kernel
theorem dz_S_read_60 : decode zm_S_read.2.1 60 = .ok (.aload_n 0, 1) := by decide +kernel
theorem dz_S_read_61 : decode zm_S_read.2.1 61 = .ok (.getfield 26, 3) := by decide +kernel
theorem dz_S_read_64 : decode zm_S_read.2.1 64 = .ok (.iload_n 1, 1) := by decide +kernel
theorem dz_S_read_65 : decode zm_S_read.2.1 65 = .ok (.iload_n 2, 1) := by decide +kernel
theorem dz_S_read_66 : decode zm_S_read.2.1 66 = .ok (.iload_n 3, 1) := by decide +kernel
theorem dz_S_read_67 : decode zm_S_read.2.1 67 = .ok (.iload 6, 2) := by decide +kernel
theorem dz_S_read_69 : decode zm_S_read.2.1 69 = .ok (.iadd, 1) := by decide +kernel
theorem dz_S_read_70 : decode zm_S_read.2.1 70 = .ok (.invokevirtual 255, 3) := by decide +kernel
theorem dz_S_read_73 : decode zm_S_read.2.1 73 = .ok (.istore 5, 2) := by decide +kernel
theorem dz_S_read_75 : decode zm_S_read.2.1 75 = .ok (.iload 5, 2) := by decide +kernel
theorem dz_S_read_77 : decode zm_S_read.2.1 77 = .ok (.ifCond .eq 6, 3) := by decide +kernel
theorem dz_S_read_80 : decode zm_S_read.2.1 80 = .ok (.goto 37, 3) := by decide +kernel
theorem dz_S_read_83 : decode zm_S_read.2.1 83 = .ok (.aload_n 0, 1) := by decide +kernel
theorem dz_S_read_84 : decode zm_S_read.2.1 84 = .ok (.getfield 40, 3) := by decide +kernel
theorem dz_S_read_87 : decode zm_S_read.2.1 87 = .ok (.aload_n 0, 1) := by decide +kernel
theorem dz_S_read_88 : decode zm_S_read.2.1 88 = .ok (.getfield 26, 3) := by decide +kernel
theorem dz_S_read_91 : decode zm_S_read.2.1 91 = .ok (.iload_n 1, 1) := by decide +kernel
theorem dz_S_read_92 : decode zm_S_read.2.1 92 = .ok (.iload_n 3, 1) := by decide +kernel
theorem dz_S_read_93 : decode zm_S_read.2.1 93 = .ok (.iload 6, 2) := by decide +kernel
theorem dz_S_read_95 : decode zm_S_read.2.1 95 = .ok (.iadd, 1) := by decide +kernel
theorem dz_S_read_96 : decode zm_S_read.2.1 96 = .ok (.invokevirtual 261, 3) := by decide +kernel
theorem dz_S_read_99 : decode zm_S_read.2.1 99 = .ok (.invokevirtual 158, 3) := by decide +kernel
theorem dz_S_read_102 : decode zm_S_read.2.1 102 = .ok (.ifCond .ge 9, 3) := by decide +kernel
theorem dz_S_read_105 : decode zm_S_read.2.1 105 = .ok (.bipush (-20), 2) := by decide +kernel
theorem dz_S_read_107 : decode zm_S_read.2.1 107 = .ok (.iload 6, 2) := by decide +kernel
theorem dz_S_read_109 : decode zm_S_read.2.1 109 = .ok (.isub, 1) := by decide +kernel
theorem dz_S_read_110 : decode zm_S_read.2.1 110 = .ok (.ireturn, 1) := by decide +kernel
theorem dz_S_read_111 : decode zm_S_read.2.1 111 = .ok (.iinc 6 1, 3) := by decide +kernel
theorem dz_S_read_114 : decode zm_S_read.2.1 114 = .ok (.goto (-61), 3) := by decide +kernel
theorem dz_S_read_117 : decode zm_S_read.2.1 117 = .ok (.aload_n 0, 1) := by decide +kernel
theorem dz_S_read_118 : decode zm_S_read.2.1 118 = .ok (.getfield 53, 3) := by decide +kernel
theorem dz_S_read_121 : decode zm_S_read.2.1 121 = .ok (.aload_n 0, 1) := by decide +kernel
theorem dz_S_read_122 : decode zm_S_read.2.1 122 = .ok (.getfield 40, 3) := by decide +kernel
theorem dz_S_read_125 : decode zm_S_read.2.1 125 = .ok (.invokevirtual 174, 3) := by decide +kernel
theorem dz_S_read_128 : decode zm_S_read.2.1 128 = .ok (.aload_n 0, 1) := by decide +kernel
theorem dz_S_read_129 : decode zm_S_read.2.1 129 = .ok (.iload 5, 2) := by decide +kernel
theorem dz_S_read_131 : decode zm_S_read.2.1 131 = .ok (.putfield 264, 3) := by decide +kernel
theorem dz_S_read_134 : decode zm_S_read.2.1 134 = .ok (.iload 6, 2) := by decide +kernel
theorem dz_S_read_136 : decode zm_S_read.2.1 136 = .ok (.ireturn, 1) := by decide +kernel
theorem dz_S_torn_0 : decode zm_S_torn.2.1 0 = .ok (.aload_n 0, 1) := by decide +kernel
theorem dz_S_torn_1 : decode zm_S_torn.2.1 1 = .ok (.getfield 264, 3) := by decide +kernel
theorem dz_S_torn_4 : decode zm_S_torn.2.1 4 = .ok (.ireturn, 1) := by decide +kernel
theorem dz_S_count_0 : decode zm_S_count.2.1 0 = .ok (.iload_n 1, 1) := by decide +kernel
theorem dz_S_count_1 : decode zm_S_count.2.1 1 = .ok (.tableswitch 97 0 6 #[43, 48, 56, 64, 73, 81, 89], 43) := by decide +kernel
theorem dz_S_count_44 : decode zm_S_count.2.1 44 = .ok (.aload_n 0, 1) := by decide +kernel
theorem dz_S_count_45 : decode zm_S_count.2.1 45 = .ok (.getfield 80, 3) := by decide +kernel
theorem dz_S_count_48 : decode zm_S_count.2.1 48 = .ok (.ireturn, 1) := by decide +kernel
theorem dz_S_count_49 : decode zm_S_count.2.1 49 = .ok (.aload_n 0, 1) := by decide +kernel
theorem dz_S_count_50 : decode zm_S_count.2.1 50 = .ok (.getfield 83, 3) := by decide +kernel
theorem dz_S_count_53 : decode zm_S_count.2.1 53 = .ok (.invokestatic 198, 3) := by decide +kernel
theorem dz_S_count_56 : decode zm_S_count.2.1 56 = .ok (.ireturn, 1) := by decide +kernel
theorem dz_S_count_57 : decode zm_S_count.2.1 57 = .ok (.aload_n 0, 1) := by decide +kernel
theorem dz_S_count_58 : decode zm_S_count.2.1 58 = .ok (.getfield 12, 3) := by decide +kernel
theorem dz_S_count_61 : decode zm_S_count.2.1 61 = .ok (.getfield 63, 3) := by decide +kernel
theorem dz_S_count_64 : decode zm_S_count.2.1 64 = .ok (.ireturn, 1) := by decide +kernel
theorem dz_S_count_65 : decode zm_S_count.2.1 65 = .ok (.aload_n 0, 1) := by decide +kernel
theorem dz_S_count_66 : decode zm_S_count.2.1 66 = .ok (.getfield 26, 3) := by decide +kernel
theorem dz_S_count_69 : decode zm_S_count.2.1 69 = .ok (.iconst 0, 1) := by decide +kernel
theorem dz_S_count_70 : decode zm_S_count.2.1 70 = .ok (.invokevirtual 267, 3) := by decide +kernel
theorem dz_S_count_73 : decode zm_S_count.2.1 73 = .ok (.ireturn, 1) := by decide +kernel
theorem dz_S_count_74 : decode zm_S_count.2.1 74 = .ok (.aload_n 0, 1) := by decide +kernel
theorem dz_S_count_75 : decode zm_S_count.2.1 75 = .ok (.getfield 53, 3) := by decide +kernel
theorem dz_S_count_78 : decode zm_S_count.2.1 78 = .ok (.invokevirtual 270, 3) := by decide +kernel
theorem dz_S_count_81 : decode zm_S_count.2.1 81 = .ok (.ireturn, 1) := by decide +kernel
theorem dz_S_count_82 : decode zm_S_count.2.1 82 = .ok (.aload_n 0, 1) := by decide +kernel
theorem dz_S_count_83 : decode zm_S_count.2.1 83 = .ok (.getfield 53, 3) := by decide +kernel
theorem dz_S_count_86 : decode zm_S_count.2.1 86 = .ok (.invokevirtual 273, 3) := by decide +kernel
theorem dz_S_count_89 : decode zm_S_count.2.1 89 = .ok (.ireturn, 1) := by decide +kernel
theorem dz_S_count_90 : decode zm_S_count.2.1 90 = .ok (.aload_n 0, 1) := by decide +kernel
theorem dz_S_count_91 : decode zm_S_count.2.1 91 = .ok (.getfield 53, 3) := by decide +kernel
theorem dz_S_count_94 : decode zm_S_count.2.1 94 = .ok (.invokevirtual 276, 3) := by decide +kernel
theorem dz_S_count_97 : decode zm_S_count.2.1 97 = .ok (.ireturn, 1) := by decide +kernel
theorem dz_S_count_98 : decode zm_S_count.2.1 98 = .ok (.iconst (-1), 1) := by decide +kernel
theorem dz_S_count_99 : decode zm_S_count.2.1 99 = .ok (.ireturn, 1) := by decide +kernel
theorem dz_S_isFact_0 : decode zm_S_isFact.2.1 0 = .ok (.iload_n 0, 1) := by decide +kernel
theorem dz_S_isFact_1 : decode zm_S_isFact.2.1 1 = .ok (.ifCond .lt 12, 3) := by decide +kernel
theorem dz_S_isFact_4 : decode zm_S_isFact.2.1 4 = .ok (.iload_n 0, 1) := by decide +kernel
theorem dz_S_isFact_5 : decode zm_S_isFact.2.1 5 = .ok (.iconst 5, 1) := by decide +kernel
theorem dz_S_isFact_6 : decode zm_S_isFact.2.1 6 = .ok (.if_icmp .ge 7, 3) := by decide +kernel
theorem dz_S_isFact_9 : decode zm_S_isFact.2.1 9 = .ok (.iconst 1, 1) := by decide +kernel
theorem dz_S_isFact_10 : decode zm_S_isFact.2.1 10 = .ok (.goto 4, 3) := by decide +kernel
theorem dz_S_isFact_13 : decode zm_S_isFact.2.1 13 = .ok (.iconst 0, 1) := by decide +kernel
theorem dz_S_isFact_14 : decode zm_S_isFact.2.1 14 = .ok (.ireturn, 1) := by decide +kernel
theorem dz_S_isThing_0 : decode zm_S_isThing.2.1 0 = .ok (.iload_n 0, 1) := by decide +kernel
theorem dz_S_isThing_1 : decode zm_S_isThing.2.1 1 = .ok (.ifCond .lt 12, 3) := by decide +kernel
theorem dz_S_isThing_4 : decode zm_S_isThing.2.1 4 = .ok (.iload_n 0, 1) := by decide +kernel
theorem dz_S_isThing_5 : decode zm_S_isThing.2.1 5 = .ok (.iconst 4, 1) := by decide +kernel
theorem dz_S_isThing_6 : decode zm_S_isThing.2.1 6 = .ok (.if_icmp .ge 7, 3) := by decide +kernel
theorem dz_S_isThing_9 : decode zm_S_isThing.2.1 9 = .ok (.iconst 1, 1) := by decide +kernel
theorem dz_S_isThing_10 : decode zm_S_isThing.2.1 10 = .ok (.goto 4, 3) := by decide +kernel
theorem dz_S_isThing_13 : decode zm_S_isThing.2.1 13 = .ok (.iconst 0, 1) := by decide +kernel
theorem dz_S_isThing_14 : decode zm_S_isThing.2.1 14 = .ok (.ireturn, 1) := by decide +kernel
theorem dz_S_isPick_0 : decode zm_S_isPick.2.1 0 = .ok (.iload_n 0, 1) := by decide +kernel
theorem dz_S_isPick_1 : decode zm_S_isPick.2.1 1 = .ok (.ifCond .lt 12, 3) := by decide +kernel
theorem dz_S_isPick_4 : decode zm_S_isPick.2.1 4 = .ok (.iload_n 0, 1) := by decide +kernel
theorem dz_S_isPick_5 : decode zm_S_isPick.2.1 5 = .ok (.iconst 2, 1) := by decide +kernel
theorem dz_S_isPick_6 : decode zm_S_isPick.2.1 6 = .ok (.if_icmp .gt 7, 3) := by decide +kernel
theorem dz_S_isPick_9 : decode zm_S_isPick.2.1 9 = .ok (.iconst 1, 1) := by decide +kernel
theorem dz_S_isPick_10 : decode zm_S_isPick.2.1 10 = .ok (.goto 4, 3) := by decide +kernel
theorem dz_S_isPick_13 : decode zm_S_isPick.2.1 13 = .ok (.iconst 0, 1) := by decide +kernel
theorem dz_S_isPick_14 : decode zm_S_isPick.2.1 14 = .ok (.ireturn, 1) := by decide +kernel
theorem dz_S_shortestRow_0 : decode zm_S_shortestRow.2.1 0 = .ok (.aload_n 0, 1) := by decide +kernel
theorem dz_S_shortestRow_1 : decode zm_S_shortestRow.2.1 1 = .ok (.getfield 40, 3) := by decide +kernel
theorem dz_S_shortestRow_4 : decode zm_S_shortestRow.2.1 4 = .ok (.aload_n 0, 1) := by decide +kernel
theorem dz_S_shortestRow_5 : decode zm_S_shortestRow.2.1 5 = .ok (.getfield 53, 3) := by decide +kernel
theorem dz_S_shortestRow_8 : decode zm_S_shortestRow.2.1 8 = .ok (.invokevirtual 174, 3) := by decide +kernel
theorem dz_S_shortestRow_11 : decode zm_S_shortestRow.2.1 11 = .ok (.iconst 0, 1) := by decide +kernel
theorem dz_S_shortestRow_12 : decode zm_S_shortestRow.2.1 12 = .ok (.istore 4, 2) := by decide +kernel
theorem dz_S_shortestRow_14 : decode zm_S_shortestRow.2.1 14 = .ok (.iload 4, 2) := by decide +kernel
theorem dz_S_shortestRow_16 : decode zm_S_shortestRow.2.1 16 = .ok (.iload_n 3, 1) := by decide +kernel
theorem dz_S_shortestRow_17 : decode zm_S_shortestRow.2.1 17 = .ok (.if_icmp .gt 32, 3) := by decide +kernel
theorem dz_S_shortestRow_20 : decode zm_S_shortestRow.2.1 20 = .ok (.aload_n 0, 1) := by decide +kernel
theorem dz_S_shortestRow_21 : decode zm_S_shortestRow.2.1 21 = .ok (.getfield 40, 3) := by decide +kernel
theorem dz_S_shortestRow_24 : decode zm_S_shortestRow.2.1 24 = .ok (.aload_n 0, 1) := by decide +kernel
theorem dz_S_shortestRow_25 : decode zm_S_shortestRow.2.1 25 = .ok (.getfield 43, 3) := by decide +kernel
theorem dz_S_shortestRow_28 : decode zm_S_shortestRow.2.1 28 = .ok (.iload_n 1, 1) := by decide +kernel
theorem dz_S_shortestRow_29 : decode zm_S_shortestRow.2.1 29 = .ok (.iload_n 2, 1) := by decide +kernel
theorem dz_S_shortestRow_30 : decode zm_S_shortestRow.2.1 30 = .ok (.iload 4, 2) := by decide +kernel
theorem dz_S_shortestRow_32 : decode zm_S_shortestRow.2.1 32 = .ok (.iconst 0, 1) := by decide +kernel
theorem dz_S_shortestRow_33 : decode zm_S_shortestRow.2.1 33 = .ok (.iconst 0, 1) := by decide +kernel
theorem dz_S_shortestRow_34 : decode zm_S_shortestRow.2.1 34 = .ok (.invokestatic 279, 3) := by decide +kernel
theorem dz_S_shortestRow_37 : decode zm_S_shortestRow.2.1 37 = .ok (.ifCond .eq 6, 3) := by decide +kernel
theorem dz_S_shortestRow_40 : decode zm_S_shortestRow.2.1 40 = .ok (.iload 4, 2) := by decide +kernel
theorem dz_S_shortestRow_42 : decode zm_S_shortestRow.2.1 42 = .ok (.ireturn, 1) := by decide +kernel
theorem dz_S_shortestRow_43 : decode zm_S_shortestRow.2.1 43 = .ok (.iinc 4 1, 3) := by decide +kernel
theorem dz_S_shortestRow_46 : decode zm_S_shortestRow.2.1 46 = .ok (.goto (-32), 3) := by decide +kernel
theorem dz_S_shortestRow_49 : decode zm_S_shortestRow.2.1 49 = .ok (.bipush (-4), 2) := by decide +kernel
theorem dz_S_shortestRow_51 : decode zm_S_shortestRow.2.1 51 = .ok (.ireturn, 1) := by decide +kernel
theorem dz_S_findRow_0 : decode zm_S_findRow.2.1 0 = .ok (.iload 5, 2) := by decide +kernel
theorem dz_S_findRow_2 : decode zm_S_findRow.2.1 2 = .ok (.ifCond .lt 17, 3) := by decide +kernel
theorem dz_S_findRow_5 : decode zm_S_findRow.2.1 5 = .ok (.iload 5, 2) := by decide +kernel
theorem dz_S_findRow_7 : decode zm_S_findRow.2.1 7 = .ok (.iload 4, 2) := by decide +kernel
theorem dz_S_findRow_9 : decode zm_S_findRow.2.1 9 = .ok (.if_icmp .ge 10, 3) := by decide +kernel
theorem dz_S_findRow_12 : decode zm_S_findRow.2.1 12 = .ok (.iload 5, 2) := by decide +kernel
theorem dz_S_findRow_14 : decode zm_S_findRow.2.1 14 = .ok (.aload_n 1, 1) := by decide +kernel
theorem dz_S_findRow_15 : decode zm_S_findRow.2.1 15 = .ok (.arraylength, 1) := by decide +kernel
theorem dz_S_findRow_16 : decode zm_S_findRow.2.1 16 = .ok (.if_icmp .lt 24, 3) := by decide +kernel
theorem dz_S_findRow_19 : decode zm_S_findRow.2.1 19 = .ok (.aload_n 0, 1) := by decide +kernel
theorem dz_S_findRow_20 : decode zm_S_findRow.2.1 20 = .ok (.iload_n 3, 1) := by decide +kernel
theorem dz_S_findRow_21 : decode zm_S_findRow.2.1 21 = .ok (.aload_n 0, 1) := by decide +kernel
theorem dz_S_findRow_22 : decode zm_S_findRow.2.1 22 = .ok (.getfield 92, 3) := by decide +kernel
theorem dz_S_findRow_25 : decode zm_S_findRow.2.1 25 = .ok (.bipush 31, 2) := by decide +kernel
theorem dz_S_findRow_27 : decode zm_S_findRow.2.1 27 = .ok (.invokevirtual 171, 3) := by decide +kernel
theorem dz_S_findRow_30 : decode zm_S_findRow.2.1 30 = .ok (.iload_n 2, 1) := by decide +kernel
theorem dz_S_findRow_31 : decode zm_S_findRow.2.1 31 = .ok (.if_icmp .ne 7, 3) := by decide +kernel
theorem dz_S_findRow_34 : decode zm_S_findRow.2.1 34 = .ok (.iconst 1, 1) := by decide +kernel
theorem dz_S_findRow_35 : decode zm_S_findRow.2.1 35 = .ok (.goto 4, 3) := by decide +kernel
theorem dz_S_findRow_38 : decode zm_S_findRow.2.1 38 = .ok (.iconst 0, 1) := by decide +kernel
theorem dz_S_findRow_39 : decode zm_S_findRow.2.1 39 = .ok (.ireturn, 1) := by decide +kernel
theorem dz_S_findRow_40 : decode zm_S_findRow.2.1 40 = .ok (.iload 6, 2) := by decide +kernel
theorem dz_S_findRow_42 : decode zm_S_findRow.2.1 42 = .ok (.istore 7, 2) := by decide +kernel
theorem dz_S_findRow_44 : decode zm_S_findRow.2.1 44 = .ok (.iload 7, 2) := by decide +kernel
theorem dz_S_findRow_46 : decode zm_S_findRow.2.1 46 = .ok (.bipush 10, 2) := by decide +kernel
theorem dz_S_findRow_48 : decode zm_S_findRow.2.1 48 = .ok (.aload_n 0, 1) := by decide +kernel
theorem dz_S_findRow_49 : decode zm_S_findRow.2.1 49 = .ok (.getfield 86, 3) := by decide +kernel
theorem dz_S_findRow_52 : decode zm_S_findRow.2.1 52 = .ok (.imul, 1) := by decide +kernel
theorem dz_S_findRow_53 : decode zm_S_findRow.2.1 53 = .ok (.if_icmp .ge 57, 3) := by decide +kernel
theorem dz_S_findRow_56 : decode zm_S_findRow.2.1 56 = .ok (.aload_n 0, 1) := by decide +kernel
theorem dz_S_findRow_57 : decode zm_S_findRow.2.1 57 = .ok (.iload 7, 2) := by decide +kernel
theorem dz_S_findRow_59 : decode zm_S_findRow.2.1 59 = .ok (.invokevirtual 158, 3) := by decide +kernel
theorem dz_S_findRow_62 : decode zm_S_findRow.2.1 62 = .ok (.ifCond .ge 6, 3) := by decide +kernel
theorem dz_S_findRow_65 : decode zm_S_findRow.2.1 65 = .ok (.goto 39, 3) := by decide +kernel
theorem dz_S_findRow_68 : decode zm_S_findRow.2.1 68 = .ok (.aload_n 1, 1) := by decide +kernel
theorem dz_S_findRow_69 : decode zm_S_findRow.2.1 69 = .ok (.iload 5, 2) := by decide +kernel
theorem dz_S_findRow_71 : decode zm_S_findRow.2.1 71 = .ok (.iload 7, 2) := by decide +kernel
theorem dz_S_findRow_73 : decode zm_S_findRow.2.1 73 = .ok (.iastore, 1) := by decide +kernel
theorem dz_S_findRow_74 : decode zm_S_findRow.2.1 74 = .ok (.aload_n 0, 1) := by decide +kernel
theorem dz_S_findRow_75 : decode zm_S_findRow.2.1 75 = .ok (.aload_n 1, 1) := by decide +kernel
theorem dz_S_findRow_76 : decode zm_S_findRow.2.1 76 = .ok (.iload_n 2, 1) := by decide +kernel
theorem dz_S_findRow_77 : decode zm_S_findRow.2.1 77 = .ok (.iload_n 3, 1) := by decide +kernel
theorem dz_S_findRow_78 : decode zm_S_findRow.2.1 78 = .ok (.iload 4, 2) := by decide +kernel
theorem dz_S_findRow_80 : decode zm_S_findRow.2.1 80 = .ok (.iload 5, 2) := by decide +kernel
theorem dz_S_findRow_82 : decode zm_S_findRow.2.1 82 = .ok (.iconst 1, 1) := by decide +kernel
theorem dz_S_findRow_83 : decode zm_S_findRow.2.1 83 = .ok (.iadd, 1) := by decide +kernel
theorem dz_S_findRow_84 : decode zm_S_findRow.2.1 84 = .ok (.iload 7, 2) := by decide +kernel
theorem dz_S_findRow_86 : decode zm_S_findRow.2.1 86 = .ok (.invokestatic 279, 3) := by decide +kernel
theorem dz_S_findRow_89 : decode zm_S_findRow.2.1 89 = .ok (.istore 8, 2) := by decide +kernel
theorem dz_S_findRow_91 : decode zm_S_findRow.2.1 91 = .ok (.aload_n 0, 1) := by decide +kernel
theorem dz_S_findRow_92 : decode zm_S_findRow.2.1 92 = .ok (.iload 7, 2) := by decide +kernel
theorem dz_S_findRow_94 : decode zm_S_findRow.2.1 94 = .ok (.invokevirtual 181, 3) := by decide +kernel
theorem dz_S_findRow_97 : decode zm_S_findRow.2.1 97 = .ok (.iload 8, 2) := by decide +kernel
theorem dz_S_findRow_99 : decode zm_S_findRow.2.1 99 = .ok (.ifCond .eq 5, 3) := by decide +kernel
theorem dz_S_findRow_102 : decode zm_S_findRow.2.1 102 = .ok (.iconst 1, 1) := by decide +kernel
theorem dz_S_findRow_103 : decode zm_S_findRow.2.1 103 = .ok (.ireturn, 1) := by decide +kernel
theorem dz_S_findRow_104 : decode zm_S_findRow.2.1 104 = .ok (.iinc 7 1, 3) := by decide +kernel
theorem dz_S_findRow_107 : decode zm_S_findRow.2.1 107 = .ok (.goto (-63), 3) := by decide +kernel
theorem dz_S_findRow_110 : decode zm_S_findRow.2.1 110 = .ok (.iconst 0, 1) := by decide +kernel
theorem dz_S_findRow_111 : decode zm_S_findRow.2.1 111 = .ok (.ireturn, 1) := by decide +kernel
theorem dz_S_givingSomewhere_0 : decode zm_S_givingSomewhere.2.1 0 = .ok (.iconst 0, 1) := by decide +kernel
theorem dz_S_givingSomewhere_1 : decode zm_S_givingSomewhere.2.1 1 = .ok (.istore_n 1, 1) := by decide +kernel
theorem dz_S_givingSomewhere_2 : decode zm_S_givingSomewhere.2.1 2 = .ok (.iconst 0, 1) := by decide +kernel
theorem dz_S_givingSomewhere_3 : decode zm_S_givingSomewhere.2.1 3 = .ok (.istore_n 2, 1) := by decide +kernel
theorem dz_S_givingSomewhere_4 : decode zm_S_givingSomewhere.2.1 4 = .ok (.iload_n 2, 1) := by decide +kernel
theorem dz_S_givingSomewhere_5 : decode zm_S_givingSomewhere.2.1 5 = .ok (.aload_n 0, 1) := by decide +kernel
theorem dz_S_givingSomewhere_6 : decode zm_S_givingSomewhere.2.1 6 = .ok (.getfield 53, 3) := by decide +kernel
theorem dz_S_givingSomewhere_9 : decode zm_S_givingSomewhere.2.1 9 = .ok (.invokevirtual 206, 3) := by decide +kernel
theorem dz_S_givingSomewhere_12 : decode zm_S_givingSomewhere.2.1 12 = .ok (.if_icmp .ge 20, 3) := by decide +kernel
theorem dz_S_givingSomewhere_15 : decode zm_S_givingSomewhere.2.1 15 = .ok (.iload_n 1, 1) := by decide +kernel
theorem dz_S_givingSomewhere_16 : decode zm_S_givingSomewhere.2.1 16 = .ok (.aload_n 0, 1) := by decide +kernel
theorem dz_S_givingSomewhere_17 : decode zm_S_givingSomewhere.2.1 17 = .ok (.getfield 53, 3) := by decide +kernel
theorem dz_S_givingSomewhere_20 : decode zm_S_givingSomewhere.2.1 20 = .ok (.iload_n 2, 1) := by decide +kernel
theorem dz_S_givingSomewhere_21 : decode zm_S_givingSomewhere.2.1 21 = .ok (.invokevirtual 283, 3) := by decide +kernel
theorem dz_S_givingSomewhere_24 : decode zm_S_givingSomewhere.2.1 24 = .ok (.ior, 1) := by decide +kernel
theorem dz_S_givingSomewhere_25 : decode zm_S_givingSomewhere.2.1 25 = .ok (.istore_n 1, 1) := by decide +kernel
theorem dz_S_givingSomewhere_26 : decode zm_S_givingSomewhere.2.1 26 = .ok (.iinc 2 1, 3) := by decide +kernel
theorem dz_S_givingSomewhere_29 : decode zm_S_givingSomewhere.2.1 29 = .ok (.goto (-25), 3) := by decide +kernel
theorem dz_S_givingSomewhere_32 : decode zm_S_givingSomewhere.2.1 32 = .ok (.iload_n 1, 1) := by decide +kernel
theorem dz_S_givingSomewhere_33 : decode zm_S_givingSomewhere.2.1 33 = .ok (.ireturn, 1) := by decide +kernel
theorem dz_S_givingEverywhere_0 : decode zm_S_givingEverywhere.2.1 0 = .ok (.aload_n 0, 1) := by decide +kernel
theorem dz_S_givingEverywhere_1 : decode zm_S_givingEverywhere.2.1 1 = .ok (.getfield 53, 3) := by decide +kernel
theorem dz_S_givingEverywhere_4 : decode zm_S_givingEverywhere.2.1 4 = .ok (.invokevirtual 185, 3) := by decide +kernel
theorem dz_S_givingEverywhere_7 : decode zm_S_givingEverywhere.2.1 7 = .ok (.istore_n 1, 1) := by decide +kernel
theorem dz_S_givingEverywhere_8 : decode zm_S_givingEverywhere.2.1 8 = .ok (.iconst 0, 1) := by decide +kernel
theorem dz_S_givingEverywhere_9 : decode zm_S_givingEverywhere.2.1 9 = .ok (.istore_n 2, 1) := by decide +kernel
theorem dz_S_givingEverywhere_10 : decode zm_S_givingEverywhere.2.1 10 = .ok (.iload_n 2, 1) := by decide +kernel
theorem dz_S_givingEverywhere_11 : decode zm_S_givingEverywhere.2.1 11 = .ok (.aload_n 0, 1) := by decide +kernel
theorem dz_S_givingEverywhere_12 : decode zm_S_givingEverywhere.2.1 12 = .ok (.getfield 53, 3) := by decide +kernel
theorem dz_S_givingEverywhere_15 : decode zm_S_givingEverywhere.2.1 15 = .ok (.invokevirtual 206, 3) := by decide +kernel
theorem dz_S_givingEverywhere_18 : decode zm_S_givingEverywhere.2.1 18 = .ok (.if_icmp .ge 31, 3) := by decide +kernel
theorem dz_S_givingEverywhere_21 : decode zm_S_givingEverywhere.2.1 21 = .ok (.iload_n 2, 1) := by decide +kernel
theorem dz_S_givingEverywhere_22 : decode zm_S_givingEverywhere.2.1 22 = .ok (.aload_n 0, 1) := by decide +kernel
theorem dz_S_givingEverywhere_23 : decode zm_S_givingEverywhere.2.1 23 = .ok (.getfield 53, 3) := by decide +kernel
theorem dz_S_givingEverywhere_26 : decode zm_S_givingEverywhere.2.1 26 = .ok (.invokevirtual 226, 3) := by decide +kernel
theorem dz_S_givingEverywhere_29 : decode zm_S_givingEverywhere.2.1 29 = .ok (.if_icmp .eq 14, 3) := by decide +kernel
theorem dz_S_givingEverywhere_32 : decode zm_S_givingEverywhere.2.1 32 = .ok (.iload_n 1, 1) := by decide +kernel
theorem dz_S_givingEverywhere_33 : decode zm_S_givingEverywhere.2.1 33 = .ok (.aload_n 0, 1) := by decide +kernel
theorem dz_S_givingEverywhere_34 : decode zm_S_givingEverywhere.2.1 34 = .ok (.getfield 53, 3) := by decide +kernel
theorem dz_S_givingEverywhere_37 : decode zm_S_givingEverywhere.2.1 37 = .ok (.iload_n 2, 1) := by decide +kernel
theorem dz_S_givingEverywhere_38 : decode zm_S_givingEverywhere.2.1 38 = .ok (.invokevirtual 283, 3) := by decide +kernel
theorem dz_S_givingEverywhere_41 : decode zm_S_givingEverywhere.2.1 41 = .ok (.iand, 1) := by decide +kernel
theorem dz_S_givingEverywhere_42 : decode zm_S_givingEverywhere.2.1 42 = .ok (.istore_n 1, 1) := by decide +kernel
theorem dz_S_givingEverywhere_43 : decode zm_S_givingEverywhere.2.1 43 = .ok (.iinc 2 1, 3) := by decide +kernel
theorem dz_S_givingEverywhere_46 : decode zm_S_givingEverywhere.2.1 46 = .ok (.goto (-36), 3) := by decide +kernel
theorem dz_S_givingEverywhere_49 : decode zm_S_givingEverywhere.2.1 49 = .ok (.iload_n 1, 1) := by decide +kernel
theorem dz_S_givingEverywhere_50 : decode zm_S_givingEverywhere.2.1 50 = .ok (.ireturn, 1) := by decide +kernel
theorem dz_S_rulesAtWork_0 : decode zm_S_rulesAtWork.2.1 0 = .ok (.iconst 0, 1) := by decide +kernel
theorem dz_S_rulesAtWork_1 : decode zm_S_rulesAtWork.2.1 1 = .ok (.istore_n 3, 1) := by decide +kernel
theorem dz_S_rulesAtWork_2 : decode zm_S_rulesAtWork.2.1 2 = .ok (.iconst 0, 1) := by decide +kernel
theorem dz_S_rulesAtWork_3 : decode zm_S_rulesAtWork.2.1 3 = .ok (.istore 4, 2) := by decide +kernel
theorem dz_S_rulesAtWork_5 : decode zm_S_rulesAtWork.2.1 5 = .ok (.iload 4, 2) := by decide +kernel
theorem dz_S_rulesAtWork_7 : decode zm_S_rulesAtWork.2.1 7 = .ok (.aload_n 0, 1) := by decide +kernel
theorem dz_S_rulesAtWork_8 : decode zm_S_rulesAtWork.2.1 8 = .ok (.getfield 53, 3) := by decide +kernel
theorem dz_S_rulesAtWork_11 : decode zm_S_rulesAtWork.2.1 11 = .ok (.invokevirtual 206, 3) := by decide +kernel
theorem dz_S_rulesAtWork_14 : decode zm_S_rulesAtWork.2.1 14 = .ok (.if_icmp .ge 89, 3) := by decide +kernel
theorem dz_S_rulesAtWork_17 : decode zm_S_rulesAtWork.2.1 17 = .ok (.iconst 0, 1) := by decide +kernel
theorem dz_S_rulesAtWork_18 : decode zm_S_rulesAtWork.2.1 18 = .ok (.istore 5, 2) := by decide +kernel
theorem dz_S_rulesAtWork_20 : decode zm_S_rulesAtWork.2.1 20 = .ok (.iload 5, 2) := by decide +kernel
theorem dz_S_rulesAtWork_22 : decode zm_S_rulesAtWork.2.1 22 = .ok (.iconst 4, 1) := by decide +kernel
theorem dz_S_rulesAtWork_23 : decode zm_S_rulesAtWork.2.1 23 = .ok (.if_icmp .ge 74, 3) := by decide +kernel
theorem dz_S_rulesAtWork_26 : decode zm_S_rulesAtWork.2.1 26 = .ok (.aload_n 0, 1) := by decide +kernel
theorem dz_S_rulesAtWork_27 : decode zm_S_rulesAtWork.2.1 27 = .ok (.getfield 53, 3) := by decide +kernel
theorem dz_S_rulesAtWork_30 : decode zm_S_rulesAtWork.2.1 30 = .ok (.iload 5, 2) := by decide +kernel
theorem dz_S_rulesAtWork_32 : decode zm_S_rulesAtWork.2.1 32 = .ok (.iload 4, 2) := by decide +kernel
theorem dz_S_rulesAtWork_34 : decode zm_S_rulesAtWork.2.1 34 = .ok (.bipush 31, 2) := by decide +kernel
theorem dz_S_rulesAtWork_36 : decode zm_S_rulesAtWork.2.1 36 = .ok (.invokevirtual 154, 3) := by decide +kernel
theorem dz_S_rulesAtWork_39 : decode zm_S_rulesAtWork.2.1 39 = .ok (.istore 6, 2) := by decide +kernel
theorem dz_S_rulesAtWork_41 : decode zm_S_rulesAtWork.2.1 41 = .ok (.iload 6, 2) := by decide +kernel
theorem dz_S_rulesAtWork_43 : decode zm_S_rulesAtWork.2.1 43 = .ok (.bipush (-4), 2) := by decide +kernel
theorem dz_S_rulesAtWork_45 : decode zm_S_rulesAtWork.2.1 45 = .ok (.if_icmp .eq 46, 3) := by decide +kernel
theorem dz_S_rulesAtWork_48 : decode zm_S_rulesAtWork.2.1 48 = .ok (.iload_n 2, 1) := by decide +kernel
theorem dz_S_rulesAtWork_49 : decode zm_S_rulesAtWork.2.1 49 = .ok (.bipush (-4), 2) := by decide +kernel
theorem dz_S_rulesAtWork_51 : decode zm_S_rulesAtWork.2.1 51 = .ok (.if_icmp .eq 12, 3) := by decide +kernel
theorem dz_S_rulesAtWork_54 : decode zm_S_rulesAtWork.2.1 54 = .ok (.iload 5, 2) := by decide +kernel
theorem dz_S_rulesAtWork_56 : decode zm_S_rulesAtWork.2.1 56 = .ok (.iload_n 2, 1) := by decide +kernel
theorem dz_S_rulesAtWork_57 : decode zm_S_rulesAtWork.2.1 57 = .ok (.if_icmp .eq 6, 3) := by decide +kernel
theorem dz_S_rulesAtWork_60 : decode zm_S_rulesAtWork.2.1 60 = .ok (.goto 31, 3) := by decide +kernel
theorem dz_S_rulesAtWork_63 : decode zm_S_rulesAtWork.2.1 63 = .ok (.iload_n 1, 1) := by decide +kernel
theorem dz_S_rulesAtWork_64 : decode zm_S_rulesAtWork.2.1 64 = .ok (.bipush (-4), 2) := by decide +kernel
theorem dz_S_rulesAtWork_66 : decode zm_S_rulesAtWork.2.1 66 = .ok (.if_icmp .eq 18, 3) := by decide +kernel
theorem dz_S_rulesAtWork_69 : decode zm_S_rulesAtWork.2.1 69 = .ok (.aload_n 0, 1) := by decide +kernel
theorem dz_S_rulesAtWork_70 : decode zm_S_rulesAtWork.2.1 70 = .ok (.getfield 53, 3) := by decide +kernel
theorem dz_S_rulesAtWork_73 : decode zm_S_rulesAtWork.2.1 73 = .ok (.iload 6, 2) := by decide +kernel
theorem dz_S_rulesAtWork_75 : decode zm_S_rulesAtWork.2.1 75 = .ok (.iload 4, 2) := by decide +kernel
theorem dz_S_rulesAtWork_77 : decode zm_S_rulesAtWork.2.1 77 = .ok (.invokevirtual 144, 3) := by decide +kernel
theorem dz_S_rulesAtWork_80 : decode zm_S_rulesAtWork.2.1 80 = .ok (.iload_n 1, 1) := by decide +kernel
theorem dz_S_rulesAtWork_81 : decode zm_S_rulesAtWork.2.1 81 = .ok (.if_icmp .ne 10, 3) := by decide +kernel
theorem dz_S_rulesAtWork_84 : decode zm_S_rulesAtWork.2.1 84 = .ok (.iload_n 3, 1) := by decide +kernel
theorem dz_S_rulesAtWork_85 : decode zm_S_rulesAtWork.2.1 85 = .ok (.iconst 1, 1) := by decide +kernel
theorem dz_S_rulesAtWork_86 : decode zm_S_rulesAtWork.2.1 86 = .ok (.iload 6, 2) := by decide +kernel
theorem dz_S_rulesAtWork_88 : decode zm_S_rulesAtWork.2.1 88 = .ok (.ishl, 1) := by decide +kernel
theorem dz_S_rulesAtWork_89 : decode zm_S_rulesAtWork.2.1 89 = .ok (.ior, 1) := by decide +kernel
theorem dz_S_rulesAtWork_90 : decode zm_S_rulesAtWork.2.1 90 = .ok (.istore_n 3, 1) := by decide +kernel
theorem dz_S_rulesAtWork_91 : decode zm_S_rulesAtWork.2.1 91 = .ok (.iinc 5 1, 3) := by decide +kernel
theorem dz_S_rulesAtWork_94 : decode zm_S_rulesAtWork.2.1 94 = .ok (.goto (-74), 3) := by decide +kernel
theorem dz_S_rulesAtWork_97 : decode zm_S_rulesAtWork.2.1 97 = .ok (.iinc 4 1, 3) := by decide +kernel
theorem dz_S_rulesAtWork_100 : decode zm_S_rulesAtWork.2.1 100 = .ok (.goto (-95), 3) := by decide +kernel
theorem dz_S_rulesAtWork_103 : decode zm_S_rulesAtWork.2.1 103 = .ok (.iload_n 3, 1) := by decide +kernel
theorem dz_S_rulesAtWork_104 : decode zm_S_rulesAtWork.2.1 104 = .ok (.ireturn, 1) := by decide +kernel
theorem dz_S_sameOwnersBy_0 : decode zm_S_sameOwnersBy.2.1 0 = .ok (.iconst 0, 1) := by decide +kernel
theorem dz_S_sameOwnersBy_1 : decode zm_S_sameOwnersBy.2.1 1 = .ok (.istore_n 2, 1) := by decide +kernel
theorem dz_S_sameOwnersBy_2 : decode zm_S_sameOwnersBy.2.1 2 = .ok (.iload_n 2, 1) := by decide +kernel
theorem dz_S_sameOwnersBy_3 : decode zm_S_sameOwnersBy.2.1 3 = .ok (.aload_n 0, 1) := by decide +kernel
theorem dz_S_sameOwnersBy_4 : decode zm_S_sameOwnersBy.2.1 4 = .ok (.getfield 53, 3) := by decide +kernel
theorem dz_S_sameOwnersBy_7 : decode zm_S_sameOwnersBy.2.1 7 = .ok (.invokevirtual 206, 3) := by decide +kernel
theorem dz_S_sameOwnersBy_10 : decode zm_S_sameOwnersBy.2.1 10 = .ok (.if_icmp .ge 48, 3) := by decide +kernel
theorem dz_S_sameOwnersBy_13 : decode zm_S_sameOwnersBy.2.1 13 = .ok (.iconst 0, 1) := by decide +kernel
theorem dz_S_sameOwnersBy_14 : decode zm_S_sameOwnersBy.2.1 14 = .ok (.istore_n 3, 1) := by decide +kernel
theorem dz_S_sameOwnersBy_15 : decode zm_S_sameOwnersBy.2.1 15 = .ok (.iload_n 3, 1) := by decide +kernel
theorem dz_S_sameOwnersBy_16 : decode zm_S_sameOwnersBy.2.1 16 = .ok (.iconst 4, 1) := by decide +kernel
theorem dz_S_sameOwnersBy_17 : decode zm_S_sameOwnersBy.2.1 17 = .ok (.if_icmp .ge 35, 3) := by decide +kernel
theorem dz_S_sameOwnersBy_20 : decode zm_S_sameOwnersBy.2.1 20 = .ok (.aload_n 0, 1) := by decide +kernel
theorem dz_S_sameOwnersBy_21 : decode zm_S_sameOwnersBy.2.1 21 = .ok (.getfield 53, 3) := by decide +kernel
theorem dz_S_sameOwnersBy_24 : decode zm_S_sameOwnersBy.2.1 24 = .ok (.iload_n 3, 1) := by decide +kernel
theorem dz_S_sameOwnersBy_25 : decode zm_S_sameOwnersBy.2.1 25 = .ok (.iload_n 2, 1) := by decide +kernel
theorem dz_S_sameOwnersBy_26 : decode zm_S_sameOwnersBy.2.1 26 = .ok (.iload_n 1, 1) := by decide +kernel
theorem dz_S_sameOwnersBy_27 : decode zm_S_sameOwnersBy.2.1 27 = .ok (.invokevirtual 171, 3) := by decide +kernel
theorem dz_S_sameOwnersBy_30 : decode zm_S_sameOwnersBy.2.1 30 = .ok (.aload_n 0, 1) := by decide +kernel
theorem dz_S_sameOwnersBy_31 : decode zm_S_sameOwnersBy.2.1 31 = .ok (.getfield 53, 3) := by decide +kernel
theorem dz_S_sameOwnersBy_34 : decode zm_S_sameOwnersBy.2.1 34 = .ok (.iload_n 3, 1) := by decide +kernel
theorem dz_S_sameOwnersBy_35 : decode zm_S_sameOwnersBy.2.1 35 = .ok (.iload_n 2, 1) := by decide +kernel
theorem dz_S_sameOwnersBy_36 : decode zm_S_sameOwnersBy.2.1 36 = .ok (.bipush 31, 2) := by decide +kernel
theorem dz_S_sameOwnersBy_38 : decode zm_S_sameOwnersBy.2.1 38 = .ok (.invokevirtual 171, 3) := by decide +kernel
theorem dz_S_sameOwnersBy_41 : decode zm_S_sameOwnersBy.2.1 41 = .ok (.if_icmp .eq 5, 3) := by decide +kernel
theorem dz_S_sameOwnersBy_44 : decode zm_S_sameOwnersBy.2.1 44 = .ok (.iconst 0, 1) := by decide +kernel
theorem dz_S_sameOwnersBy_45 : decode zm_S_sameOwnersBy.2.1 45 = .ok (.ireturn, 1) := by decide +kernel
theorem dz_S_sameOwnersBy_46 : decode zm_S_sameOwnersBy.2.1 46 = .ok (.iinc 3 1, 3) := by decide +kernel
theorem dz_S_sameOwnersBy_49 : decode zm_S_sameOwnersBy.2.1 49 = .ok (.goto (-34), 3) := by decide +kernel
theorem dz_S_sameOwnersBy_52 : decode zm_S_sameOwnersBy.2.1 52 = .ok (.iinc 2 1, 3) := by decide +kernel
theorem dz_S_sameOwnersBy_55 : decode zm_S_sameOwnersBy.2.1 55 = .ok (.goto (-53), 3) := by decide +kernel
theorem dz_S_sameOwnersBy_58 : decode zm_S_sameOwnersBy.2.1 58 = .ok (.iconst 1, 1) := by decide +kernel
theorem dz_S_sameOwnersBy_59 : decode zm_S_sameOwnersBy.2.1 59 = .ok (.ireturn, 1) := by decide +kernel
theorem dz_S_waysTo_0 : decode zm_S_waysTo.2.1 0 = .ok (.iload_n 1, 1) := by decide +kernel
theorem dz_S_waysTo_1 : decode zm_S_waysTo.2.1 1 = .ok (.aload_n 0, 1) := by decide +kernel
theorem dz_S_waysTo_2 : decode zm_S_waysTo.2.1 2 = .ok (.getfield 53, 3) := by decide +kernel
theorem dz_S_waysTo_5 : decode zm_S_waysTo.2.1 5 = .ok (.getfield 92, 3) := by decide +kernel
theorem dz_S_waysTo_8 : decode zm_S_waysTo.2.1 8 = .ok (.iconst (-1), 1) := by decide +kernel
theorem dz_S_waysTo_9 : decode zm_S_waysTo.2.1 9 = .ok (.ixor, 1) := by decide +kernel
theorem dz_S_waysTo_10 : decode zm_S_waysTo.2.1 10 = .ok (.iand, 1) := by decide +kernel
theorem dz_S_waysTo_11 : decode zm_S_waysTo.2.1 11 = .ok (.invokestatic 198, 3) := by decide +kernel
theorem dz_S_waysTo_14 : decode zm_S_waysTo.2.1 14 = .ok (.istore_n 3, 1) := by decide +kernel
theorem dz_S_waysTo_15 : decode zm_S_waysTo.2.1 15 = .ok (.aload_n 0, 1) := by decide +kernel
theorem dz_S_waysTo_16 : decode zm_S_waysTo.2.1 16 = .ok (.getfield 53, 3) := by decide +kernel
theorem dz_S_waysTo_19 : decode zm_S_waysTo.2.1 19 = .ok (.getfield 86, 3) := by decide +kernel
theorem dz_S_waysTo_22 : decode zm_S_waysTo.2.1 22 = .ok (.iload_n 1, 1) := by decide +kernel
theorem dz_S_waysTo_23 : decode zm_S_waysTo.2.1 23 = .ok (.invokestatic 198, 3) := by decide +kernel
theorem dz_S_waysTo_26 : decode zm_S_waysTo.2.1 26 = .ok (.isub, 1) := by decide +kernel
theorem dz_S_waysTo_27 : decode zm_S_waysTo.2.1 27 = .ok (.istore 4, 2) := by decide +kernel
theorem dz_S_waysTo_29 : decode zm_S_waysTo.2.1 29 = .ok (.iload_n 2, 1) := by decide +kernel
theorem dz_S_waysTo_30 : decode zm_S_waysTo.2.1 30 = .ok (.iload_n 3, 1) := by decide +kernel
theorem dz_S_waysTo_31 : decode zm_S_waysTo.2.1 31 = .ok (.invokestatic 215, 3) := by decide +kernel
theorem dz_S_waysTo_34 : decode zm_S_waysTo.2.1 34 = .ok (.bipush 10, 2) := by decide +kernel
theorem dz_S_waysTo_36 : decode zm_S_waysTo.2.1 36 = .ok (.iload_n 2, 1) := by decide +kernel
theorem dz_S_waysTo_37 : decode zm_S_waysTo.2.1 37 = .ok (.isub, 1) := by decide +kernel
theorem dz_S_waysTo_38 : decode zm_S_waysTo.2.1 38 = .ok (.iload 4, 2) := by decide +kernel
theorem dz_S_waysTo_40 : decode zm_S_waysTo.2.1 40 = .ok (.invokestatic 215, 3) := by decide +kernel
theorem dz_S_waysTo_43 : decode zm_S_waysTo.2.1 43 = .ok (.lmul, 1) := by decide +kernel
theorem dz_S_waysTo_44 : decode zm_S_waysTo.2.1 44 = .ok (.lreturn, 1) := by decide +kernel
theorem dz_S_isAsSeen_0 : decode zm_S_isAsSeen.2.1 0 = .ok (.iconst 0, 1) := by decide +kernel
theorem dz_S_isAsSeen_1 : decode zm_S_isAsSeen.2.1 1 = .ok (.istore_n 2, 1) := by decide +kernel
theorem dz_S_isAsSeen_2 : decode zm_S_isAsSeen.2.1 2 = .ok (.iload_n 2, 1) := by decide +kernel
theorem dz_S_isAsSeen_3 : decode zm_S_isAsSeen.2.1 3 = .ok (.aload_n 0, 1) := by decide +kernel
theorem dz_S_isAsSeen_4 : decode zm_S_isAsSeen.2.1 4 = .ok (.getfield 80, 3) := by decide +kernel
theorem dz_S_isAsSeen_7 : decode zm_S_isAsSeen.2.1 7 = .ok (.if_icmp .ge 42, 3) := by decide +kernel
theorem dz_S_isAsSeen_10 : decode zm_S_isAsSeen.2.1 10 = .ok (.iload_n 2, 1) := by decide +kernel
theorem dz_S_isAsSeen_11 : decode zm_S_isAsSeen.2.1 11 = .ok (.bipush 6, 2) := by decide +kernel
theorem dz_S_isAsSeen_13 : decode zm_S_isAsSeen.2.1 13 = .ok (.if_icmp .ge 36, 3) := by decide +kernel
theorem dz_S_isAsSeen_16 : decode zm_S_isAsSeen.2.1 16 = .ok (.aload_n 0, 1) := by decide +kernel
theorem dz_S_isAsSeen_17 : decode zm_S_isAsSeen.2.1 17 = .ok (.getfield 53, 3) := by decide +kernel
theorem dz_S_isAsSeen_20 : decode zm_S_isAsSeen.2.1 20 = .ok (.aload_n 0, 1) := by decide +kernel
theorem dz_S_isAsSeen_21 : decode zm_S_isAsSeen.2.1 21 = .ok (.getfield 47, 3) := by decide +kernel
theorem dz_S_isAsSeen_24 : decode zm_S_isAsSeen.2.1 24 = .ok (.iload_n 2, 1) := by decide +kernel
theorem dz_S_isAsSeen_25 : decode zm_S_isAsSeen.2.1 25 = .ok (.iaload, 1) := by decide +kernel
theorem dz_S_isAsSeen_26 : decode zm_S_isAsSeen.2.1 26 = .ok (.iload_n 1, 1) := by decide +kernel
theorem dz_S_isAsSeen_27 : decode zm_S_isAsSeen.2.1 27 = .ok (.bipush 31, 2) := by decide +kernel
theorem dz_S_isAsSeen_29 : decode zm_S_isAsSeen.2.1 29 = .ok (.invokevirtual 171, 3) := by decide +kernel
theorem dz_S_isAsSeen_32 : decode zm_S_isAsSeen.2.1 32 = .ok (.aload_n 0, 1) := by decide +kernel
theorem dz_S_isAsSeen_33 : decode zm_S_isAsSeen.2.1 33 = .ok (.getfield 50, 3) := by decide +kernel
theorem dz_S_isAsSeen_36 : decode zm_S_isAsSeen.2.1 36 = .ok (.iload_n 2, 1) := by decide +kernel
theorem dz_S_isAsSeen_37 : decode zm_S_isAsSeen.2.1 37 = .ok (.iaload, 1) := by decide +kernel
theorem dz_S_isAsSeen_38 : decode zm_S_isAsSeen.2.1 38 = .ok (.if_icmp .eq 5, 3) := by decide +kernel
theorem dz_S_isAsSeen_41 : decode zm_S_isAsSeen.2.1 41 = .ok (.iconst 0, 1) := by decide +kernel
theorem dz_S_isAsSeen_42 : decode zm_S_isAsSeen.2.1 42 = .ok (.ireturn, 1) := by decide +kernel
theorem dz_S_isAsSeen_43 : decode zm_S_isAsSeen.2.1 43 = .ok (.iinc 2 1, 3) := by decide +kernel
theorem dz_S_isAsSeen_46 : decode zm_S_isAsSeen.2.1 46 = .ok (.goto (-44), 3) := by decide +kernel
theorem dz_S_isAsSeen_49 : decode zm_S_isAsSeen.2.1 49 = .ok (.iconst 1, 1) := by decide +kernel
theorem dz_S_isAsSeen_50 : decode zm_S_isAsSeen.2.1 50 = .ok (.ireturn, 1) := by decide +kernel
theorem dz_S_waysAtBest_0 : decode zm_S_waysAtBest.2.1 0 = .ok (.aload_n 0, 1) := by decide +kernel
theorem dz_S_waysAtBest_1 : decode zm_S_waysAtBest.2.1 1 = .ok (.getfield 40, 3) := by decide +kernel
theorem dz_S_waysAtBest_4 : decode zm_S_waysAtBest.2.1 4 = .ok (.iload_n 2, 1) := by decide +kernel
theorem dz_S_waysAtBest_5 : decode zm_S_waysAtBest.2.1 5 = .ok (.aload_n 0, 1) := by decide +kernel
theorem dz_S_waysAtBest_6 : decode zm_S_waysAtBest.2.1 6 = .ok (.getfield 40, 3) := by decide +kernel
theorem dz_S_waysAtBest_9 : decode zm_S_waysAtBest.2.1 9 = .ok (.getfield 92, 3) := by decide +kernel
theorem dz_S_waysAtBest_12 : decode zm_S_waysAtBest.2.1 12 = .ok (.bipush 31, 2) := by decide +kernel
theorem dz_S_waysAtBest_14 : decode zm_S_waysAtBest.2.1 14 = .ok (.invokevirtual 171, 3) := by decide +kernel
theorem dz_S_waysAtBest_17 : decode zm_S_waysAtBest.2.1 17 = .ok (.iload_n 1, 1) := by decide +kernel
theorem dz_S_waysAtBest_18 : decode zm_S_waysAtBest.2.1 18 = .ok (.if_icmp .ne 7, 3) := by decide +kernel
theorem dz_S_waysAtBest_21 : decode zm_S_waysAtBest.2.1 21 = .ok (.iconst 1, 1) := by decide +kernel
theorem dz_S_waysAtBest_22 : decode zm_S_waysAtBest.2.1 22 = .ok (.goto 4, 3) := by decide +kernel
theorem dz_S_waysAtBest_25 : decode zm_S_waysAtBest.2.1 25 = .ok (.iconst 0, 1) := by decide +kernel
theorem dz_S_waysAtBest_26 : decode zm_S_waysAtBest.2.1 26 = .ok (.istore 4, 2) := by decide +kernel
theorem dz_S_waysAtBest_28 : decode zm_S_waysAtBest.2.1 28 = .ok (.iload 4, 2) := by decide +kernel
theorem dz_S_waysAtBest_30 : decode zm_S_waysAtBest.2.1 30 = .ok (.ifCond .eq 12, 3) := by decide +kernel
theorem dz_S_waysAtBest_33 : decode zm_S_waysAtBest.2.1 33 = .ok (.bipush 10, 2) := by decide +kernel
theorem dz_S_waysAtBest_35 : decode zm_S_waysAtBest.2.1 35 = .ok (.iload_n 3, 1) := by decide +kernel
theorem dz_S_waysAtBest_36 : decode zm_S_waysAtBest.2.1 36 = .ok (.invokestatic 215, 3) := by decide +kernel
theorem dz_S_waysAtBest_39 : decode zm_S_waysAtBest.2.1 39 = .ok (.goto 4, 3) := by decide +kernel
theorem dz_S_waysAtBest_42 : decode zm_S_waysAtBest.2.1 42 = .ok (.lconst 0, 1) := by decide +kernel
theorem dz_S_waysAtBest_43 : decode zm_S_waysAtBest.2.1 43 = .ok (.lstore 5, 2) := by decide +kernel
theorem dz_S_waysAtBest_45 : decode zm_S_waysAtBest.2.1 45 = .ok (.iconst 0, 1) := by decide +kernel
theorem dz_S_waysAtBest_46 : decode zm_S_waysAtBest.2.1 46 = .ok (.istore 7, 2) := by decide +kernel
theorem dz_S_waysAtBest_48 : decode zm_S_waysAtBest.2.1 48 = .ok (.iload 7, 2) := by decide +kernel
theorem dz_S_waysAtBest_50 : decode zm_S_waysAtBest.2.1 50 = .ok (.iconst 5, 1) := by decide +kernel
theorem dz_S_waysAtBest_51 : decode zm_S_waysAtBest.2.1 51 = .ok (.if_icmp .ge 25, 3) := by decide +kernel
theorem dz_S_waysAtBest_54 : decode zm_S_waysAtBest.2.1 54 = .ok (.lload 5, 2) := by decide +kernel
theorem dz_S_waysAtBest_56 : decode zm_S_waysAtBest.2.1 56 = .ok (.aload_n 0, 1) := by decide +kernel
theorem dz_S_waysAtBest_57 : decode zm_S_waysAtBest.2.1 57 = .ok (.iload 7, 2) := by decide +kernel
theorem dz_S_waysAtBest_59 : decode zm_S_waysAtBest.2.1 59 = .ok (.iload_n 1, 1) := by decide +kernel
theorem dz_S_waysAtBest_60 : decode zm_S_waysAtBest.2.1 60 = .ok (.iload_n 2, 1) := by decide +kernel
theorem dz_S_waysAtBest_61 : decode zm_S_waysAtBest.2.1 61 = .ok (.iload_n 3, 1) := by decide +kernel
theorem dz_S_waysAtBest_62 : decode zm_S_waysAtBest.2.1 62 = .ok (.invokevirtual 222, 3) := by decide +kernel
theorem dz_S_waysAtBest_65 : decode zm_S_waysAtBest.2.1 65 = .ok (.invokestatic 286, 3) := by decide +kernel
theorem dz_S_waysAtBest_68 : decode zm_S_waysAtBest.2.1 68 = .ok (.lstore 5, 2) := by decide +kernel
theorem dz_S_waysAtBest_70 : decode zm_S_waysAtBest.2.1 70 = .ok (.iinc 7 1, 3) := by decide +kernel
theorem dz_S_waysAtBest_73 : decode zm_S_waysAtBest.2.1 73 = .ok (.goto (-25), 3) := by decide +kernel
theorem dz_S_waysAtBest_76 : decode zm_S_waysAtBest.2.1 76 = .ok (.lload 5, 2) := by decide +kernel
theorem dz_S_waysAtBest_78 : decode zm_S_waysAtBest.2.1 78 = .ok (.lreturn, 1) := by decide +kernel
theorem dz_S_waysTryingFor_0 : decode zm_S_waysTryingFor.2.1 0 = .ok (.iload 4, 2) := by decide +kernel
theorem dz_S_waysTryingFor_2 : decode zm_S_waysTryingFor.2.1 2 = .ok (.ifCond .le 39, 3) := by decide +kernel
theorem dz_S_waysTryingFor_5 : decode zm_S_waysTryingFor.2.1 5 = .ok (.aload_n 0, 1) := by decide +kernel
theorem dz_S_waysTryingFor_6 : decode zm_S_waysTryingFor.2.1 6 = .ok (.getfield 40, 3) := by decide +kernel
theorem dz_S_waysTryingFor_9 : decode zm_S_waysTryingFor.2.1 9 = .ok (.iload_n 2, 1) := by decide +kernel
theorem dz_S_waysTryingFor_10 : decode zm_S_waysTryingFor.2.1 10 = .ok (.invokevirtual 95, 3) := by decide +kernel
theorem dz_S_waysTryingFor_13 : decode zm_S_waysTryingFor.2.1 13 = .ok (.ifCond .eq 28, 3) := by decide +kernel
theorem dz_S_waysTryingFor_16 : decode zm_S_waysTryingFor.2.1 16 = .ok (.aload_n 0, 1) := by decide +kernel
theorem dz_S_waysTryingFor_17 : decode zm_S_waysTryingFor.2.1 17 = .ok (.getfield 40, 3) := by decide +kernel
theorem dz_S_waysTryingFor_20 : decode zm_S_waysTryingFor.2.1 20 = .ok (.getfield 104, 3) := by decide +kernel
theorem dz_S_waysTryingFor_23 : decode zm_S_waysTryingFor.2.1 23 = .ok (.iload_n 2, 1) := by decide +kernel
theorem dz_S_waysTryingFor_24 : decode zm_S_waysTryingFor.2.1 24 = .ok (.iaload, 1) := by decide +kernel
theorem dz_S_waysTryingFor_25 : decode zm_S_waysTryingFor.2.1 25 = .ok (.iconst 3, 1) := by decide +kernel
theorem dz_S_waysTryingFor_26 : decode zm_S_waysTryingFor.2.1 26 = .ok (.if_icmp .ge 15, 3) := by decide +kernel
theorem dz_S_waysTryingFor_29 : decode zm_S_waysTryingFor.2.1 29 = .ok (.aload_n 0, 1) := by decide +kernel
theorem dz_S_waysTryingFor_30 : decode zm_S_waysTryingFor.2.1 30 = .ok (.getfield 40, 3) := by decide +kernel
theorem dz_S_waysTryingFor_33 : decode zm_S_waysTryingFor.2.1 33 = .ok (.iload_n 2, 1) := by decide +kernel
theorem dz_S_waysTryingFor_34 : decode zm_S_waysTryingFor.2.1 34 = .ok (.iload_n 1, 1) := by decide +kernel
theorem dz_S_waysTryingFor_35 : decode zm_S_waysTryingFor.2.1 35 = .ok (.invokevirtual 161, 3) := by decide +kernel
theorem dz_S_waysTryingFor_38 : decode zm_S_waysTryingFor.2.1 38 = .ok (.ifCond .eq 7, 3) := by decide +kernel
theorem dz_S_waysTryingFor_41 : decode zm_S_waysTryingFor.2.1 41 = .ok (.ldc2_w 292, 3) := by decide +kernel
theorem dz_S_waysTryingFor_44 : decode zm_S_waysTryingFor.2.1 44 = .ok (.lreturn, 1) := by decide +kernel
theorem dz_S_waysTryingFor_45 : decode zm_S_waysTryingFor.2.1 45 = .ok (.aload_n 0, 1) := by decide +kernel
theorem dz_S_waysTryingFor_46 : decode zm_S_waysTryingFor.2.1 46 = .ok (.getfield 40, 3) := by decide +kernel
theorem dz_S_waysTryingFor_49 : decode zm_S_waysTryingFor.2.1 49 = .ok (.getfield 104, 3) := by decide +kernel
theorem dz_S_waysTryingFor_52 : decode zm_S_waysTryingFor.2.1 52 = .ok (.iload_n 2, 1) := by decide +kernel
theorem dz_S_waysTryingFor_53 : decode zm_S_waysTryingFor.2.1 53 = .ok (.dup2, 1) := by decide +kernel
theorem dz_S_waysTryingFor_54 : decode zm_S_waysTryingFor.2.1 54 = .ok (.iaload, 1) := by decide +kernel
theorem dz_S_waysTryingFor_55 : decode zm_S_waysTryingFor.2.1 55 = .ok (.iconst 1, 1) := by decide +kernel
theorem dz_S_waysTryingFor_56 : decode zm_S_waysTryingFor.2.1 56 = .ok (.iadd, 1) := by decide +kernel
theorem dz_S_waysTryingFor_57 : decode zm_S_waysTryingFor.2.1 57 = .ok (.iastore, 1) := by decide +kernel
theorem dz_S_waysTryingFor_58 : decode zm_S_waysTryingFor.2.1 58 = .ok (.aload_n 0, 1) := by decide +kernel
theorem dz_S_waysTryingFor_59 : decode zm_S_waysTryingFor.2.1 59 = .ok (.iload_n 2, 1) := by decide +kernel
theorem dz_S_waysTryingFor_60 : decode zm_S_waysTryingFor.2.1 60 = .ok (.iload_n 3, 1) := by decide +kernel
theorem dz_S_waysTryingFor_61 : decode zm_S_waysTryingFor.2.1 61 = .ok (.iload 4, 2) := by decide +kernel
theorem dz_S_waysTryingFor_63 : decode zm_S_waysTryingFor.2.1 63 = .ok (.iconst 1, 1) := by decide +kernel
theorem dz_S_waysTryingFor_64 : decode zm_S_waysTryingFor.2.1 64 = .ok (.isub, 1) := by decide +kernel
theorem dz_S_waysTryingFor_65 : decode zm_S_waysTryingFor.2.1 65 = .ok (.invokevirtual 294, 3) := by decide +kernel
theorem dz_S_waysTryingFor_68 : decode zm_S_waysTryingFor.2.1 68 = .ok (.lstore 5, 2) := by decide +kernel
theorem dz_S_waysTryingFor_70 : decode zm_S_waysTryingFor.2.1 70 = .ok (.aload_n 0, 1) := by decide +kernel
theorem dz_S_waysTryingFor_71 : decode zm_S_waysTryingFor.2.1 71 = .ok (.getfield 40, 3) := by decide +kernel
theorem dz_S_waysTryingFor_74 : decode zm_S_waysTryingFor.2.1 74 = .ok (.getfield 101, 3) := by decide +kernel
theorem dz_S_waysTryingFor_77 : decode zm_S_waysTryingFor.2.1 77 = .ok (.iload_n 2, 1) := by decide +kernel
theorem dz_S_waysTryingFor_78 : decode zm_S_waysTryingFor.2.1 78 = .ok (.dup2, 1) := by decide +kernel
theorem dz_S_waysTryingFor_79 : decode zm_S_waysTryingFor.2.1 79 = .ok (.iaload, 1) := by decide +kernel
theorem dz_S_waysTryingFor_80 : decode zm_S_waysTryingFor.2.1 80 = .ok (.iconst 1, 1) := by decide +kernel
theorem dz_S_waysTryingFor_81 : decode zm_S_waysTryingFor.2.1 81 = .ok (.iload_n 1, 1) := by decide +kernel
theorem dz_S_waysTryingFor_82 : decode zm_S_waysTryingFor.2.1 82 = .ok (.ishl, 1) := by decide +kernel
theorem dz_S_waysTryingFor_83 : decode zm_S_waysTryingFor.2.1 83 = .ok (.ior, 1) := by decide +kernel
theorem dz_S_waysTryingFor_84 : decode zm_S_waysTryingFor.2.1 84 = .ok (.iastore, 1) := by decide +kernel
theorem dz_S_waysTryingFor_85 : decode zm_S_waysTryingFor.2.1 85 = .ok (.aload_n 0, 1) := by decide +kernel
theorem dz_S_waysTryingFor_86 : decode zm_S_waysTryingFor.2.1 86 = .ok (.iload_n 2, 1) := by decide +kernel
theorem dz_S_waysTryingFor_87 : decode zm_S_waysTryingFor.2.1 87 = .ok (.iload_n 3, 1) := by decide +kernel
theorem dz_S_waysTryingFor_88 : decode zm_S_waysTryingFor.2.1 88 = .ok (.iload 4, 2) := by decide +kernel
theorem dz_S_waysTryingFor_90 : decode zm_S_waysTryingFor.2.1 90 = .ok (.iconst 1, 1) := by decide +kernel
theorem dz_S_waysTryingFor_91 : decode zm_S_waysTryingFor.2.1 91 = .ok (.isub, 1) := by decide +kernel
theorem dz_S_waysTryingFor_92 : decode zm_S_waysTryingFor.2.1 92 = .ok (.invokevirtual 294, 3) := by decide +kernel
theorem dz_S_waysTryingFor_95 : decode zm_S_waysTryingFor.2.1 95 = .ok (.lstore 7, 2) := by decide +kernel
theorem dz_S_waysTryingFor_97 : decode zm_S_waysTryingFor.2.1 97 = .ok (.aload_n 0, 1) := by decide +kernel
theorem dz_S_waysTryingFor_98 : decode zm_S_waysTryingFor.2.1 98 = .ok (.getfield 40, 3) := by decide +kernel
theorem dz_S_waysTryingFor_101 : decode zm_S_waysTryingFor.2.1 101 = .ok (.getfield 101, 3) := by decide +kernel
theorem dz_S_waysTryingFor_104 : decode zm_S_waysTryingFor.2.1 104 = .ok (.iload_n 2, 1) := by decide +kernel
theorem dz_S_waysTryingFor_105 : decode zm_S_waysTryingFor.2.1 105 = .ok (.dup2, 1) := by decide +kernel
theorem dz_S_waysTryingFor_106 : decode zm_S_waysTryingFor.2.1 106 = .ok (.iaload, 1) := by decide +kernel
theorem dz_S_waysTryingFor_107 : decode zm_S_waysTryingFor.2.1 107 = .ok (.iconst 1, 1) := by decide +kernel
theorem dz_S_waysTryingFor_108 : decode zm_S_waysTryingFor.2.1 108 = .ok (.iload_n 1, 1) := by decide +kernel
theorem dz_S_waysTryingFor_109 : decode zm_S_waysTryingFor.2.1 109 = .ok (.ishl, 1) := by decide +kernel
theorem dz_S_waysTryingFor_110 : decode zm_S_waysTryingFor.2.1 110 = .ok (.iconst (-1), 1) := by decide +kernel
theorem dz_S_waysTryingFor_111 : decode zm_S_waysTryingFor.2.1 111 = .ok (.ixor, 1) := by decide +kernel
theorem dz_S_waysTryingFor_112 : decode zm_S_waysTryingFor.2.1 112 = .ok (.iand, 1) := by decide +kernel
theorem dz_S_waysTryingFor_113 : decode zm_S_waysTryingFor.2.1 113 = .ok (.iastore, 1) := by decide +kernel
theorem dz_S_waysTryingFor_114 : decode zm_S_waysTryingFor.2.1 114 = .ok (.aload_n 0, 1) := by decide +kernel
theorem dz_S_waysTryingFor_115 : decode zm_S_waysTryingFor.2.1 115 = .ok (.getfield 40, 3) := by decide +kernel
theorem dz_S_waysTryingFor_118 : decode zm_S_waysTryingFor.2.1 118 = .ok (.getfield 104, 3) := by decide +kernel
theorem dz_S_waysTryingFor_121 : decode zm_S_waysTryingFor.2.1 121 = .ok (.iload_n 2, 1) := by decide +kernel
theorem dz_S_waysTryingFor_122 : decode zm_S_waysTryingFor.2.1 122 = .ok (.dup2, 1) := by decide +kernel
theorem dz_S_waysTryingFor_123 : decode zm_S_waysTryingFor.2.1 123 = .ok (.iaload, 1) := by decide +kernel
theorem dz_S_waysTryingFor_124 : decode zm_S_waysTryingFor.2.1 124 = .ok (.iconst 1, 1) := by decide +kernel
theorem dz_S_waysTryingFor_125 : decode zm_S_waysTryingFor.2.1 125 = .ok (.isub, 1) := by decide +kernel
theorem dz_S_waysTryingFor_126 : decode zm_S_waysTryingFor.2.1 126 = .ok (.iastore, 1) := by decide +kernel
theorem dz_S_waysTryingFor_127 : decode zm_S_waysTryingFor.2.1 127 = .ok (.aload_n 0, 1) := by decide +kernel
theorem dz_S_waysTryingFor_128 : decode zm_S_waysTryingFor.2.1 128 = .ok (.getfield 40, 3) := by decide +kernel
theorem dz_S_waysTryingFor_131 : decode zm_S_waysTryingFor.2.1 131 = .ok (.getfield 120, 3) := by decide +kernel
theorem dz_S_waysTryingFor_134 : decode zm_S_waysTryingFor.2.1 134 = .ok (.iload_n 1, 1) := by decide +kernel
theorem dz_S_waysTryingFor_135 : decode zm_S_waysTryingFor.2.1 135 = .ok (.iaload, 1) := by decide +kernel
theorem dz_S_waysTryingFor_136 : decode zm_S_waysTryingFor.2.1 136 = .ok (.istore 9, 2) := by decide +kernel
theorem dz_S_waysTryingFor_138 : decode zm_S_waysTryingFor.2.1 138 = .ok (.iload 9, 2) := by decide +kernel
theorem dz_S_waysTryingFor_140 : decode zm_S_waysTryingFor.2.1 140 = .ok (.i2l, 1) := by decide +kernel
theorem dz_S_waysTryingFor_141 : decode zm_S_waysTryingFor.2.1 141 = .ok (.lload 7, 2) := by decide +kernel
theorem dz_S_waysTryingFor_143 : decode zm_S_waysTryingFor.2.1 143 = .ok (.lmul, 1) := by decide +kernel
theorem dz_S_waysTryingFor_144 : decode zm_S_waysTryingFor.2.1 144 = .ok (.bipush 10, 2) := by decide +kernel
theorem dz_S_waysTryingFor_146 : decode zm_S_waysTryingFor.2.1 146 = .ok (.iload 9, 2) := by decide +kernel
theorem dz_S_waysTryingFor_148 : decode zm_S_waysTryingFor.2.1 148 = .ok (.isub, 1) := by decide +kernel
theorem dz_S_waysTryingFor_149 : decode zm_S_waysTryingFor.2.1 149 = .ok (.i2l, 1) := by decide +kernel
theorem dz_S_waysTryingFor_150 : decode zm_S_waysTryingFor.2.1 150 = .ok (.lload 5, 2) := by decide +kernel
theorem dz_S_waysTryingFor_152 : decode zm_S_waysTryingFor.2.1 152 = .ok (.lmul, 1) := by decide +kernel
theorem dz_S_waysTryingFor_153 : decode zm_S_waysTryingFor.2.1 153 = .ok (.ladd, 1) := by decide +kernel
theorem dz_S_waysTryingFor_154 : decode zm_S_waysTryingFor.2.1 154 = .ok (.lreturn, 1) := by decide +kernel
theorem dz_S_image_0 : decode zm_S_image.2.1 0 = .ok (.iload_n 1, 1) := by decide +kernel
theorem dz_S_image_1 : decode zm_S_image.2.1 1 = .ok (.ifCond .ne 10, 3) := by decide +kernel
theorem dz_S_image_4 : decode zm_S_image.2.1 4 = .ok (.aload_n 0, 1) := by decide +kernel
theorem dz_S_image_5 : decode zm_S_image.2.1 5 = .ok (.getfield 33, 3) := by decide +kernel
theorem dz_S_image_8 : decode zm_S_image.2.1 8 = .ok (.goto 7, 3) := by decide +kernel
theorem dz_S_image_11 : decode zm_S_image.2.1 11 = .ok (.aload_n 0, 1) := by decide +kernel
theorem dz_S_image_12 : decode zm_S_image.2.1 12 = .ok (.getfield 37, 3) := by decide +kernel
theorem dz_S_image_15 : decode zm_S_image.2.1 15 = .ok (.areturn, 1) := by decide +kernel
theorem dz_S_nextSeed_0 : decode zm_S_nextSeed.2.1 0 = .ok (.iload_n 0, 1) := by decide +kernel
theorem dz_S_nextSeed_1 : decode zm_S_nextSeed.2.1 1 = .ok (.ldc_w 298, 3) := by decide +kernel
theorem dz_S_nextSeed_4 : decode zm_S_nextSeed.2.1 4 = .ok (.imul, 1) := by decide +kernel
theorem dz_S_nextSeed_5 : decode zm_S_nextSeed.2.1 5 = .ok (.sipush 12345, 3) := by decide +kernel
theorem dz_S_nextSeed_8 : decode zm_S_nextSeed.2.1 8 = .ok (.iadd, 1) := by decide +kernel
theorem dz_S_nextSeed_9 : decode zm_S_nextSeed.2.1 9 = .ok (.ireturn, 1) := by decide +kernel
theorem dz_S_drawn_0 : decode zm_S_drawn.2.1 0 = .ok (.iload_n 0, 1) := by decide +kernel
theorem dz_S_drawn_1 : decode zm_S_drawn.2.1 1 = .ok (.bipush 16, 2) := by decide +kernel
theorem dz_S_drawn_3 : decode zm_S_drawn.2.1 3 = .ok (.iushr, 1) := by decide +kernel
theorem dz_S_drawn_4 : decode zm_S_drawn.2.1 4 = .ok (.sipush 32767, 3) := by decide +kernel
theorem dz_S_drawn_7 : decode zm_S_drawn.2.1 7 = .ok (.iand, 1) := by decide +kernel
theorem dz_S_drawn_8 : decode zm_S_drawn.2.1 8 = .ok (.ireturn, 1) := by decide +kernel
theorem dz_S_power_0 : decode zm_S_power.2.1 0 = .ok (.lconst 1, 1) := by decide +kernel
theorem dz_S_power_1 : decode zm_S_power.2.1 1 = .ok (.lstore_n 2, 1) := by decide +kernel
theorem dz_S_power_2 : decode zm_S_power.2.1 2 = .ok (.iconst 0, 1) := by decide +kernel
theorem dz_S_power_3 : decode zm_S_power.2.1 3 = .ok (.istore 4, 2) := by decide +kernel
theorem dz_S_power_5 : decode zm_S_power.2.1 5 = .ok (.iload 4, 2) := by decide +kernel
theorem dz_S_power_7 : decode zm_S_power.2.1 7 = .ok (.iload_n 1, 1) := by decide +kernel
theorem dz_S_power_8 : decode zm_S_power.2.1 8 = .ok (.if_icmp .ge 14, 3) := by decide +kernel
theorem dz_S_power_11 : decode zm_S_power.2.1 11 = .ok (.lload_n 2, 1) := by decide +kernel
theorem dz_S_power_12 : decode zm_S_power.2.1 12 = .ok (.iload_n 0, 1) := by decide +kernel
theorem dz_S_power_13 : decode zm_S_power.2.1 13 = .ok (.i2l, 1) := by decide +kernel
theorem dz_S_power_14 : decode zm_S_power.2.1 14 = .ok (.lmul, 1) := by decide +kernel
theorem dz_S_power_15 : decode zm_S_power.2.1 15 = .ok (.lstore_n 2, 1) := by decide +kernel
theorem dz_S_power_16 : decode zm_S_power.2.1 16 = .ok (.iinc 4 1, 3) := by decide +kernel
theorem dz_S_power_19 : decode zm_S_power.2.1 19 = .ok (.goto (-14), 3) := by decide +kernel
theorem dz_S_power_22 : decode zm_S_power.2.1 22 = .ok (.lload_n 2, 1) := by decide +kernel
theorem dz_S_power_23 : decode zm_S_power.2.1 23 = .ok (.lreturn, 1) := by decide +kernel
theorem dz_S_lowestTerms_0 : decode zm_S_lowestTerms.2.1 0 = .ok (.lload_n 2, 1) := by decide +kernel
theorem dz_S_lowestTerms_1 : decode zm_S_lowestTerms.2.1 1 = .ok (.lstore 5, 2) := by decide +kernel
theorem dz_S_lowestTerms_3 : decode zm_S_lowestTerms.2.1 3 = .ok (.lload_n 0, 1) := by decide +kernel
theorem dz_S_lowestTerms_4 : decode zm_S_lowestTerms.2.1 4 = .ok (.lstore 7, 2) := by decide +kernel
theorem dz_S_lowestTerms_6 : decode zm_S_lowestTerms.2.1 6 = .ok (.iconst 0, 1) := by decide +kernel
theorem dz_S_lowestTerms_7 : decode zm_S_lowestTerms.2.1 7 = .ok (.istore 9, 2) := by decide +kernel
theorem dz_S_lowestTerms_9 : decode zm_S_lowestTerms.2.1 9 = .ok (.iload 9, 2) := by decide +kernel
theorem dz_S_lowestTerms_11 : decode zm_S_lowestTerms.2.1 11 = .ok (.bipush 100, 2) := by decide +kernel
theorem dz_S_lowestTerms_13 : decode zm_S_lowestTerms.2.1 13 = .ok (.if_icmp .ge 31, 3) := by decide +kernel
theorem dz_S_lowestTerms_16 : decode zm_S_lowestTerms.2.1 16 = .ok (.lload 7, 2) := by decide +kernel
theorem dz_S_lowestTerms_18 : decode zm_S_lowestTerms.2.1 18 = .ok (.lconst 0, 1) := by decide +kernel
theorem dz_S_lowestTerms_19 : decode zm_S_lowestTerms.2.1 19 = .ok (.lcmp, 1) := by decide +kernel
theorem dz_S_lowestTerms_20 : decode zm_S_lowestTerms.2.1 20 = .ok (.ifCond .eq 24, 3) := by decide +kernel
theorem dz_S_lowestTerms_23 : decode zm_S_lowestTerms.2.1 23 = .ok (.lload 5, 2) := by decide +kernel
theorem dz_S_lowestTerms_25 : decode zm_S_lowestTerms.2.1 25 = .ok (.lload 7, 2) := by decide +kernel
theorem dz_S_lowestTerms_27 : decode zm_S_lowestTerms.2.1 27 = .ok (.lrem, 1) := by decide +kernel
theorem dz_S_lowestTerms_28 : decode zm_S_lowestTerms.2.1 28 = .ok (.lstore 10, 2) := by decide +kernel
theorem dz_S_lowestTerms_30 : decode zm_S_lowestTerms.2.1 30 = .ok (.lload 7, 2) := by decide +kernel
theorem dz_S_lowestTerms_32 : decode zm_S_lowestTerms.2.1 32 = .ok (.lstore 5, 2) := by decide +kernel
theorem dz_S_lowestTerms_34 : decode zm_S_lowestTerms.2.1 34 = .ok (.lload 10, 2) := by decide +kernel
theorem dz_S_lowestTerms_36 : decode zm_S_lowestTerms.2.1 36 = .ok (.lstore 7, 2) := by decide +kernel
theorem dz_S_lowestTerms_38 : decode zm_S_lowestTerms.2.1 38 = .ok (.iinc 9 1, 3) := by decide +kernel
theorem dz_S_lowestTerms_41 : decode zm_S_lowestTerms.2.1 41 = .ok (.goto (-32), 3) := by decide +kernel
theorem dz_S_lowestTerms_44 : decode zm_S_lowestTerms.2.1 44 = .ok (.lload 5, 2) := by decide +kernel
theorem dz_S_lowestTerms_46 : decode zm_S_lowestTerms.2.1 46 = .ok (.lconst 0, 1) := by decide +kernel
theorem dz_S_lowestTerms_47 : decode zm_S_lowestTerms.2.1 47 = .ok (.lcmp, 1) := by decide +kernel
theorem dz_S_lowestTerms_48 : decode zm_S_lowestTerms.2.1 48 = .ok (.ifCond .gt 7, 3) := by decide +kernel
theorem dz_S_lowestTerms_51 : decode zm_S_lowestTerms.2.1 51 = .ok (.ldc2_w 209, 3) := by decide +kernel
theorem dz_S_lowestTerms_54 : decode zm_S_lowestTerms.2.1 54 = .ok (.lreturn, 1) := by decide +kernel
theorem dz_S_lowestTerms_55 : decode zm_S_lowestTerms.2.1 55 = .ok (.iload 4, 2) := by decide +kernel
theorem dz_S_lowestTerms_57 : decode zm_S_lowestTerms.2.1 57 = .ok (.ifCond .ne 7, 3) := by decide +kernel
theorem dz_S_lowestTerms_60 : decode zm_S_lowestTerms.2.1 60 = .ok (.lload_n 0, 1) := by decide +kernel
theorem dz_S_lowestTerms_61 : decode zm_S_lowestTerms.2.1 61 = .ok (.goto 4, 3) := by decide +kernel
theorem dz_S_lowestTerms_64 : decode zm_S_lowestTerms.2.1 64 = .ok (.lload_n 2, 1) := by decide +kernel
theorem dz_S_lowestTerms_65 : decode zm_S_lowestTerms.2.1 65 = .ok (.lload 5, 2) := by decide +kernel
theorem dz_S_lowestTerms_67 : decode zm_S_lowestTerms.2.1 67 = .ok (.ldiv, 1) := by decide +kernel
theorem dz_S_lowestTerms_68 : decode zm_S_lowestTerms.2.1 68 = .ok (.lreturn, 1) := by decide +kernel
theorem dz_JI_bitCount_0 : decode zm_JI_bitCount.2.1 0 = .ok (.iload_n 0, 1) := by decide +kernel
theorem dz_JI_bitCount_1 : decode zm_JI_bitCount.2.1 1 = .ok (.iload_n 0, 1) := by decide +kernel
theorem dz_JI_bitCount_2 : decode zm_JI_bitCount.2.1 2 = .ok (.iconst 1, 1) := by decide +kernel
theorem dz_JI_bitCount_3 : decode zm_JI_bitCount.2.1 3 = .ok (.iushr, 1) := by decide +kernel
theorem dz_JI_bitCount_4 : decode zm_JI_bitCount.2.1 4 = .ok (.ldc_w 265, 3) := by decide +kernel
theorem dz_JI_bitCount_7 : decode zm_JI_bitCount.2.1 7 = .ok (.iand, 1) := by decide +kernel
theorem dz_JI_bitCount_8 : decode zm_JI_bitCount.2.1 8 = .ok (.isub, 1) := by decide +kernel
theorem dz_JI_bitCount_9 : decode zm_JI_bitCount.2.1 9 = .ok (.istore_n 0, 1) := by decide +kernel
theorem dz_JI_bitCount_10 : decode zm_JI_bitCount.2.1 10 = .ok (.iload_n 0, 1) := by decide +kernel
theorem dz_JI_bitCount_11 : decode zm_JI_bitCount.2.1 11 = .ok (.ldc_w 266, 3) := by decide +kernel
theorem dz_JI_bitCount_14 : decode zm_JI_bitCount.2.1 14 = .ok (.iand, 1) := by decide +kernel
theorem dz_JI_bitCount_15 : decode zm_JI_bitCount.2.1 15 = .ok (.iload_n 0, 1) := by decide +kernel
theorem dz_JI_bitCount_16 : decode zm_JI_bitCount.2.1 16 = .ok (.iconst 2, 1) := by decide +kernel
theorem dz_JI_bitCount_17 : decode zm_JI_bitCount.2.1 17 = .ok (.iushr, 1) := by decide +kernel
theorem dz_JI_bitCount_18 : decode zm_JI_bitCount.2.1 18 = .ok (.ldc_w 266, 3) := by decide +kernel
theorem dz_JI_bitCount_21 : decode zm_JI_bitCount.2.1 21 = .ok (.iand, 1) := by decide +kernel
theorem dz_JI_bitCount_22 : decode zm_JI_bitCount.2.1 22 = .ok (.iadd, 1) := by decide +kernel
theorem dz_JI_bitCount_23 : decode zm_JI_bitCount.2.1 23 = .ok (.istore_n 0, 1) := by decide +kernel
theorem dz_JI_bitCount_24 : decode zm_JI_bitCount.2.1 24 = .ok (.iload_n 0, 1) := by decide +kernel
theorem dz_JI_bitCount_25 : decode zm_JI_bitCount.2.1 25 = .ok (.iload_n 0, 1) := by decide +kernel
theorem dz_JI_bitCount_26 : decode zm_JI_bitCount.2.1 26 = .ok (.iconst 4, 1) := by decide +kernel
theorem dz_JI_bitCount_27 : decode zm_JI_bitCount.2.1 27 = .ok (.iushr, 1) := by decide +kernel
theorem dz_JI_bitCount_28 : decode zm_JI_bitCount.2.1 28 = .ok (.iadd, 1) := by decide +kernel
theorem dz_JI_bitCount_29 : decode zm_JI_bitCount.2.1 29 = .ok (.ldc_w 267, 3) := by decide +kernel
theorem dz_JI_bitCount_32 : decode zm_JI_bitCount.2.1 32 = .ok (.iand, 1) := by decide +kernel
theorem dz_JI_bitCount_33 : decode zm_JI_bitCount.2.1 33 = .ok (.istore_n 0, 1) := by decide +kernel
theorem dz_JI_bitCount_34 : decode zm_JI_bitCount.2.1 34 = .ok (.iload_n 0, 1) := by decide +kernel
theorem dz_JI_bitCount_35 : decode zm_JI_bitCount.2.1 35 = .ok (.iload_n 0, 1) := by decide +kernel
theorem dz_JI_bitCount_36 : decode zm_JI_bitCount.2.1 36 = .ok (.bipush 8, 2) := by decide +kernel
theorem dz_JI_bitCount_38 : decode zm_JI_bitCount.2.1 38 = .ok (.iushr, 1) := by decide +kernel
theorem dz_JI_bitCount_39 : decode zm_JI_bitCount.2.1 39 = .ok (.iadd, 1) := by decide +kernel
theorem dz_JI_bitCount_40 : decode zm_JI_bitCount.2.1 40 = .ok (.istore_n 0, 1) := by decide +kernel
theorem dz_JI_bitCount_41 : decode zm_JI_bitCount.2.1 41 = .ok (.iload_n 0, 1) := by decide +kernel
theorem dz_JI_bitCount_42 : decode zm_JI_bitCount.2.1 42 = .ok (.iload_n 0, 1) := by decide +kernel
theorem dz_JI_bitCount_43 : decode zm_JI_bitCount.2.1 43 = .ok (.bipush 16, 2) := by decide +kernel
theorem dz_JI_bitCount_45 : decode zm_JI_bitCount.2.1 45 = .ok (.iushr, 1) := by decide +kernel
theorem dz_JI_bitCount_46 : decode zm_JI_bitCount.2.1 46 = .ok (.iadd, 1) := by decide +kernel
theorem dz_JI_bitCount_47 : decode zm_JI_bitCount.2.1 47 = .ok (.istore_n 0, 1) := by decide +kernel
theorem dz_JI_bitCount_48 : decode zm_JI_bitCount.2.1 48 = .ok (.iload_n 0, 1) := by decide +kernel
theorem dz_JI_bitCount_49 : decode zm_JI_bitCount.2.1 49 = .ok (.bipush 63, 2) := by decide +kernel
theorem dz_JI_bitCount_51 : decode zm_JI_bitCount.2.1 51 = .ok (.iand, 1) := by decide +kernel
theorem dz_JI_bitCount_52 : decode zm_JI_bitCount.2.1 52 = .ok (.ireturn, 1) := by decide +kernel
theorem dz_JM_max_0 : decode zm_JM_max.2.1 0 = .ok (.lload_n 0, 1) := by decide +kernel
theorem dz_JM_max_1 : decode zm_JM_max.2.1 1 = .ok (.lload_n 2, 1) := by decide +kernel
theorem dz_JM_max_2 : decode zm_JM_max.2.1 2 = .ok (.lcmp, 1) := by decide +kernel
theorem dz_JM_max_3 : decode zm_JM_max.2.1 3 = .ok (.ifCond .lt 7, 3) := by decide +kernel
theorem dz_JM_max_6 : decode zm_JM_max.2.1 6 = .ok (.lload_n 0, 1) := by decide +kernel
theorem dz_JM_max_7 : decode zm_JM_max.2.1 7 = .ok (.goto 4, 3) := by decide +kernel
theorem dz_JM_max_10 : decode zm_JM_max.2.1 10 = .ok (.lload_n 2, 1) := by decide +kernel
theorem dz_JM_max_11 : decode zm_JM_max.2.1 11 = .ok (.lreturn, 1) := by decide +kernel
theorem dz_JS_length_0 : decode zm_JS_length.2.1 0 = .ok (.aload_n 0, 1) := by decide +kernel
theorem dz_JS_length_1 : decode zm_JS_length.2.1 1 = .ok (.getfield 9, 3) := by decide +kernel
theorem dz_JS_length_4 : decode zm_JS_length.2.1 4 = .ok (.arraylength, 1) := by decide +kernel
theorem dz_JS_length_5 : decode zm_JS_length.2.1 5 = .ok (.aload_n 0, 1) := by decide +kernel
theorem dz_JS_length_6 : decode zm_JS_length.2.1 6 = .ok (.invokevirtual 335, 3) := by decide +kernel
theorem dz_JS_length_9 : decode zm_JS_length.2.1 9 = .ok (.ishr, 1) := by decide +kernel
theorem dz_JS_length_10 : decode zm_JS_length.2.1 10 = .ok (.ireturn, 1) := by decide +kernel
theorem dz_JS_charAt_0 : decode zm_JS_charAt.2.1 0 = .ok (.aload_n 0, 1) := by decide +kernel
theorem dz_JS_charAt_1 : decode zm_JS_charAt.2.1 1 = .ok (.invokevirtual 492, 3) := by decide +kernel
theorem dz_JS_charAt_4 : decode zm_JS_charAt.2.1 4 = .ok (.ifCond .eq 12, 3) := by decide +kernel
theorem dz_JS_charAt_7 : decode zm_JS_charAt.2.1 7 = .ok (.aload_n 0, 1) := by decide +kernel
theorem dz_JS_charAt_8 : decode zm_JS_charAt.2.1 8 = .ok (.getfield 9, 3) := by decide +kernel
theorem dz_JS_charAt_11 : decode zm_JS_charAt.2.1 11 = .ok (.iload_n 1, 1) := by decide +kernel
theorem dz_JS_charAt_12 : decode zm_JS_charAt.2.1 12 = .ok (.invokestatic 495, 3) := by decide +kernel
theorem dz_JS_charAt_15 : decode zm_JS_charAt.2.1 15 = .ok (.ireturn, 1) := by decide +kernel
theorem dz_JS_charAt_16 : decode zm_JS_charAt.2.1 16 = .ok (.aload_n 0, 1) := by decide +kernel
theorem dz_JS_charAt_17 : decode zm_JS_charAt.2.1 17 = .ok (.getfield 9, 3) := by decide +kernel
theorem dz_JS_charAt_20 : decode zm_JS_charAt.2.1 20 = .ok (.iload_n 1, 1) := by decide +kernel
theorem dz_JS_charAt_21 : decode zm_JS_charAt.2.1 21 = .ok (.invokestatic 498, 3) := by decide +kernel
theorem dz_JS_charAt_24 : decode zm_JS_charAt.2.1 24 = .ok (.ireturn, 1) := by decide +kernel
theorem dz_JS_coder_0 : decode zm_JS_coder.2.1 0 = .ok (.getstatic 38, 3) := by decide +kernel
theorem dz_JS_coder_3 : decode zm_JS_coder.2.1 3 = .ok (.ifCond .eq 10, 3) := by decide +kernel
theorem dz_JS_coder_6 : decode zm_JS_coder.2.1 6 = .ok (.aload_n 0, 1) := by decide +kernel
theorem dz_JS_coder_7 : decode zm_JS_coder.2.1 7 = .ok (.getfield 15, 3) := by decide +kernel
theorem dz_JS_coder_10 : decode zm_JS_coder.2.1 10 = .ok (.goto 4, 3) := by decide +kernel
theorem dz_JS_coder_13 : decode zm_JS_coder.2.1 13 = .ok (.iconst 1, 1) := by decide +kernel
theorem dz_JS_coder_14 : decode zm_JS_coder.2.1 14 = .ok (.ireturn, 1) := by decide +kernel
theorem dz_JS_isLatin1_0 : decode zm_JS_isLatin1.2.1 0 = .ok (.getstatic 38, 3) := by decide +kernel
theorem dz_JS_isLatin1_3 : decode zm_JS_isLatin1.2.1 3 = .ok (.ifCond .eq 14, 3) := by decide +kernel
theorem dz_JS_isLatin1_6 : decode zm_JS_isLatin1.2.1 6 = .ok (.aload_n 0, 1) := by decide +kernel
theorem dz_JS_isLatin1_7 : decode zm_JS_isLatin1.2.1 7 = .ok (.getfield 15, 3) := by decide +kernel
theorem dz_JS_isLatin1_10 : decode zm_JS_isLatin1.2.1 10 = .ok (.ifCond .ne 7, 3) := by decide +kernel
theorem dz_JS_isLatin1_13 : decode zm_JS_isLatin1.2.1 13 = .ok (.iconst 1, 1) := by decide +kernel
theorem dz_JS_isLatin1_14 : decode zm_JS_isLatin1.2.1 14 = .ok (.goto 4, 3) := by decide +kernel
theorem dz_JS_isLatin1_17 : decode zm_JS_isLatin1.2.1 17 = .ok (.iconst 0, 1) := by decide +kernel
theorem dz_JS_isLatin1_18 : decode zm_JS_isLatin1.2.1 18 = .ok (.ireturn, 1) := by decide +kernel
theorem dz_JS_checkIndex_0 : decode zm_JS_checkIndex.2.1 0 = .ok (.iload_n 0, 1) := by decide +kernel
theorem dz_JS_checkIndex_1 : decode zm_JS_checkIndex.2.1 1 = .ok (.iload_n 1, 1) := by decide +kernel
theorem dz_JS_checkIndex_2 : decode zm_JS_checkIndex.2.1 2 = .ok (.getstatic 1053, 3) := by decide +kernel
theorem dz_JS_checkIndex_5 : decode zm_JS_checkIndex.2.1 5 = .ok (.invokestatic 1059, 3) := by decide +kernel
theorem dz_JS_checkIndex_8 : decode zm_JS_checkIndex.2.1 8 = .ok (.pop, 1) := by decide +kernel
theorem dz_JS_checkIndex_9 : decode zm_JS_checkIndex.2.1 9 = .ok (.return_, 1) := by decide +kernel
theorem dz_JA_charAt_0 : decode zm_JA_charAt.2.1 0 = .ok (.iload_n 1, 1) := by decide +kernel
theorem dz_JA_charAt_1 : decode zm_JA_charAt.2.1 1 = .ok (.aload_n 0, 1) := by decide +kernel
theorem dz_JA_charAt_2 : decode zm_JA_charAt.2.1 2 = .ok (.arraylength, 1) := by decide +kernel
theorem dz_JA_charAt_3 : decode zm_JA_charAt.2.1 3 = .ok (.invokestatic 9, 3) := by decide +kernel
theorem dz_JA_charAt_6 : decode zm_JA_charAt.2.1 6 = .ok (.aload_n 0, 1) := by decide +kernel
theorem dz_JA_charAt_7 : decode zm_JA_charAt.2.1 7 = .ok (.iload_n 1, 1) := by decide +kernel
theorem dz_JA_charAt_8 : decode zm_JA_charAt.2.1 8 = .ok (.baload, 1) := by decide +kernel
theorem dz_JA_charAt_9 : decode zm_JA_charAt.2.1 9 = .ok (.sipush 255, 3) := by decide +kernel
theorem dz_JA_charAt_12 : decode zm_JA_charAt.2.1 12 = .ok (.iand, 1) := by decide +kernel
theorem dz_JA_charAt_13 : decode zm_JA_charAt.2.1 13 = .ok (.i2c, 1) := by decide +kernel
theorem dz_JA_charAt_14 : decode zm_JA_charAt.2.1 14 = .ok (.ireturn, 1) := by decide +kernel
theorem dz_JU_getChar_0 : decode zm_JU_getChar.2.1 0 = .ok (.getstatic 44, 3) := by decide +kernel
theorem dz_JU_getChar_3 : decode zm_JU_getChar.2.1 3 = .ok (.ifCond .ne 25, 3) := by decide +kernel
theorem dz_JU_getChar_6 : decode zm_JU_getChar.2.1 6 = .ok (.iload_n 1, 1) := by decide +kernel
theorem dz_JU_getChar_7 : decode zm_JU_getChar.2.1 7 = .ok (.ifCond .lt 11, 3) := by decide +kernel
theorem dz_JU_getChar_10 : decode zm_JU_getChar.2.1 10 = .ok (.iload_n 1, 1) := by decide +kernel
theorem dz_JU_getChar_11 : decode zm_JU_getChar.2.1 11 = .ok (.aload_n 0, 1) := by decide +kernel
theorem dz_JU_getChar_12 : decode zm_JU_getChar.2.1 12 = .ok (.invokestatic 48, 3) := by decide +kernel
theorem dz_JU_getChar_15 : decode zm_JU_getChar.2.1 15 = .ok (.if_icmp .lt 13, 3) := by decide +kernel
theorem dz_JU_getChar_18 : decode zm_JU_getChar.2.1 18 = .ok (.new 52, 3) := by decide +kernel
theorem dz_JU_getChar_21 : decode zm_JU_getChar.2.1 21 = .ok (.dup, 1) := by decide +kernel
theorem dz_JU_getChar_22 : decode zm_JU_getChar.2.1 22 = .ok (.ldc 54, 2) := by decide +kernel
theorem dz_JU_getChar_24 : decode zm_JU_getChar.2.1 24 = .ok (.invokespecial 56, 3) := by decide +kernel
theorem dz_JU_getChar_27 : decode zm_JU_getChar.2.1 27 = .ok (.athrow, 1) := by decide +kernel
theorem dz_JU_getChar_28 : decode zm_JU_getChar.2.1 28 = .ok (.iload_n 1, 1) := by decide +kernel
theorem dz_JU_getChar_29 : decode zm_JU_getChar.2.1 29 = .ok (.iconst 1, 1) := by decide +kernel
theorem dz_JU_getChar_30 : decode zm_JU_getChar.2.1 30 = .ok (.ishl, 1) := by decide +kernel
theorem dz_JU_getChar_31 : decode zm_JU_getChar.2.1 31 = .ok (.istore_n 1, 1) := by decide +kernel
theorem dz_JU_getChar_32 : decode zm_JU_getChar.2.1 32 = .ok (.aload_n 0, 1) := by decide +kernel
theorem dz_JU_getChar_33 : decode zm_JU_getChar.2.1 33 = .ok (.iload_n 1, 1) := by decide +kernel
theorem dz_JU_getChar_34 : decode zm_JU_getChar.2.1 34 = .ok (.iinc 1 1, 3) := by decide +kernel
theorem dz_JU_getChar_37 : decode zm_JU_getChar.2.1 37 = .ok (.baload, 1) := by decide +kernel
theorem dz_JU_getChar_38 : decode zm_JU_getChar.2.1 38 = .ok (.sipush 255, 3) := by decide +kernel
theorem dz_JU_getChar_41 : decode zm_JU_getChar.2.1 41 = .ok (.iand, 1) := by decide +kernel
theorem dz_JU_getChar_42 : decode zm_JU_getChar.2.1 42 = .ok (.getstatic 59, 3) := by decide +kernel
theorem dz_JU_getChar_45 : decode zm_JU_getChar.2.1 45 = .ok (.ishl, 1) := by decide +kernel
theorem dz_JU_getChar_46 : decode zm_JU_getChar.2.1 46 = .ok (.aload_n 0, 1) := by decide +kernel
theorem dz_JU_getChar_47 : decode zm_JU_getChar.2.1 47 = .ok (.iload_n 1, 1) := by decide +kernel
theorem dz_JU_getChar_48 : decode zm_JU_getChar.2.1 48 = .ok (.baload, 1) := by decide +kernel
theorem dz_JU_getChar_49 : decode zm_JU_getChar.2.1 49 = .ok (.sipush 255, 3) := by decide +kernel
theorem dz_JU_getChar_52 : decode zm_JU_getChar.2.1 52 = .ok (.iand, 1) := by decide +kernel
theorem dz_JU_getChar_53 : decode zm_JU_getChar.2.1 53 = .ok (.getstatic 63, 3) := by decide +kernel
theorem dz_JU_getChar_56 : decode zm_JU_getChar.2.1 56 = .ok (.ishl, 1) := by decide +kernel
theorem dz_JU_getChar_57 : decode zm_JU_getChar.2.1 57 = .ok (.ior, 1) := by decide +kernel
theorem dz_JU_getChar_58 : decode zm_JU_getChar.2.1 58 = .ok (.i2c, 1) := by decide +kernel
theorem dz_JU_getChar_59 : decode zm_JU_getChar.2.1 59 = .ok (.ireturn, 1) := by decide +kernel
theorem dz_JU_length_0 : decode zm_JU_length.2.1 0 = .ok (.aload_n 0, 1) := by decide +kernel
theorem dz_JU_length_1 : decode zm_JU_length.2.1 1 = .ok (.arraylength, 1) := by decide +kernel
theorem dz_JU_length_2 : decode zm_JU_length.2.1 2 = .ok (.iconst 1, 1) := by decide +kernel
theorem dz_JU_length_3 : decode zm_JU_length.2.1 3 = .ok (.ishr, 1) := by decide +kernel
theorem dz_JU_length_4 : decode zm_JU_length.2.1 4 = .ok (.ireturn, 1) := by decide +kernel
theorem dz_JU_charAt_0 : decode zm_JU_charAt.2.1 0 = .ok (.iload_n 1, 1) := by decide +kernel
theorem dz_JU_charAt_1 : decode zm_JU_charAt.2.1 1 = .ok (.aload_n 0, 1) := by decide +kernel
theorem dz_JU_charAt_2 : decode zm_JU_charAt.2.1 2 = .ok (.invokestatic 67, 3) := by decide +kernel
theorem dz_JU_charAt_5 : decode zm_JU_charAt.2.1 5 = .ok (.aload_n 0, 1) := by decide +kernel
theorem dz_JU_charAt_6 : decode zm_JU_charAt.2.1 6 = .ok (.iload_n 1, 1) := by decide +kernel
theorem dz_JU_charAt_7 : decode zm_JU_charAt.2.1 7 = .ok (.invokestatic 71, 3) := by decide +kernel
theorem dz_JU_charAt_10 : decode zm_JU_charAt.2.1 10 = .ok (.ireturn, 1) := by decide +kernel
theorem dz_JU_checkIndex_0 : decode zm_JU_checkIndex.2.1 0 = .ok (.iload_n 0, 1) := by decide +kernel
theorem dz_JU_checkIndex_1 : decode zm_JU_checkIndex.2.1 1 = .ok (.aload_n 1, 1) := by decide +kernel
theorem dz_JU_checkIndex_2 : decode zm_JU_checkIndex.2.1 2 = .ok (.invokestatic 48, 3) := by decide +kernel
theorem dz_JU_checkIndex_5 : decode zm_JU_checkIndex.2.1 5 = .ok (.invokestatic 414, 3) := by decide +kernel
theorem dz_JU_checkIndex_8 : decode zm_JU_checkIndex.2.1 8 = .ok (.return_, 1) := by decide +kernel
theorem dz_JP_checkIndex_0 : decode zm_JP_checkIndex.2.1 0 = .ok (.iload_n 0, 1) := by decide +kernel
theorem dz_JP_checkIndex_1 : decode zm_JP_checkIndex.2.1 1 = .ok (.ifCond .lt 8, 3) := by decide +kernel
theorem dz_JP_checkIndex_4 : decode zm_JP_checkIndex.2.1 4 = .ok (.iload_n 0, 1) := by decide +kernel
theorem dz_JP_checkIndex_5 : decode zm_JP_checkIndex.2.1 5 = .ok (.iload_n 1, 1) := by decide +kernel
theorem dz_JP_checkIndex_6 : decode zm_JP_checkIndex.2.1 6 = .ok (.if_icmp .lt 10, 3) := by decide +kernel
theorem dz_JP_checkIndex_9 : decode zm_JP_checkIndex.2.1 9 = .ok (.aload_n 2, 1) := by decide +kernel
theorem dz_JP_checkIndex_10 : decode zm_JP_checkIndex.2.1 10 = .ok (.iload_n 0, 1) := by decide +kernel
theorem dz_JP_checkIndex_11 : decode zm_JP_checkIndex.2.1 11 = .ok (.iload_n 1, 1) := by decide +kernel
theorem dz_JP_checkIndex_12 : decode zm_JP_checkIndex.2.1 12 = .ok (.invokestatic 95, 3) := by decide +kernel
theorem dz_JP_checkIndex_15 : decode zm_JP_checkIndex.2.1 15 = .ok (.athrow, 1) := by decide +kernel
theorem dz_JP_checkIndex_16 : decode zm_JP_checkIndex.2.1 16 = .ok (.iload_n 0, 1) := by decide +kernel
theorem dz_JP_checkIndex_17 : decode zm_JP_checkIndex.2.1 17 = .ok (.ireturn, 1) := by decide +kernel
end
section
theorem dz_M_in_0 : decode zm_M_in.2.1 0 = .ok (.lload_n 0, 1) := by decide +kernel
theorem dz_M_in_1 : decode zm_M_in.2.1 1 = .ok (.lload_n 2, 1) := by decide +kernel
theorem dz_M_in_2 : decode zm_M_in.2.1 2 = .ok (.lcmp, 1) := by decide +kernel
theorem dz_M_in_3 : decode zm_M_in.2.1 3 = .ok (.ifCond .lt 14, 3) := by decide +kernel
theorem dz_M_in_6 : decode zm_M_in.2.1 6 = .ok (.lload_n 0, 1) := by decide +kernel
theorem dz_M_in_7 : decode zm_M_in.2.1 7 = .ok (.lload 4, 2) := by decide +kernel
theorem dz_M_in_9 : decode zm_M_in.2.1 9 = .ok (.lcmp, 1) := by decide +kernel
theorem dz_M_in_10 : decode zm_M_in.2.1 10 = .ok (.ifCond .gt 7, 3) := by decide +kernel
theorem dz_M_in_13 : decode zm_M_in.2.1 13 = .ok (.iconst 1, 1) := by decide +kernel
theorem dz_M_in_14 : decode zm_M_in.2.1 14 = .ok (.goto 4, 3) := by decide +kernel
theorem dz_M_in_17 : decode zm_M_in.2.1 17 = .ok (.iconst 0, 1) := by decide +kernel
theorem dz_M_in_18 : decode zm_M_in.2.1 18 = .ok (.ireturn, 1) := by decide +kernel
theorem dz_M_feed_0 : decode zm_M_feed.2.1 0 = .ok (.iload_n 1, 1) := by decide +kernel
theorem dz_M_feed_1 : decode zm_M_feed.2.1 1 = .ok (.i2l, 1) := by decide +kernel
theorem dz_M_feed_2 : decode zm_M_feed.2.1 2 = .ok (.lconst 0, 1) := by decide +kernel
theorem dz_M_feed_3 : decode zm_M_feed.2.1 3 = .ok (.ldc2_w 63, 3) := by decide +kernel
theorem dz_M_feed_6 : decode zm_M_feed.2.1 6 = .ok (.invokestatic 65, 3) := by decide +kernel
theorem dz_M_feed_9 : decode zm_M_feed.2.1 9 = .ok (.ifCond .ne 5, 3) := by decide +kernel
theorem dz_M_feed_12 : decode zm_M_feed.2.1 12 = .ok (.iconst (-1), 1) := by decide +kernel
theorem dz_M_feed_13 : decode zm_M_feed.2.1 13 = .ok (.ireturn, 1) := by decide +kernel
theorem dz_M_feed_14 : decode zm_M_feed.2.1 14 = .ok (.aload_n 0, 1) := by decide +kernel
theorem dz_M_feed_15 : decode zm_M_feed.2.1 15 = .ok (.getfield 69, 3) := by decide +kernel
theorem dz_M_feed_18 : decode zm_M_feed.2.1 18 = .ok (.sipush 160, 3) := by decide +kernel
theorem dz_M_feed_21 : decode zm_M_feed.2.1 21 = .ok (.if_icmp .ne 6, 3) := by decide +kernel
theorem dz_M_feed_24 : decode zm_M_feed.2.1 24 = .ok (.bipush (-3), 2) := by decide +kernel
theorem dz_M_feed_26 : decode zm_M_feed.2.1 26 = .ok (.ireturn, 1) := by decide +kernel
theorem dz_M_feed_27 : decode zm_M_feed.2.1 27 = .ok (.aload_n 0, 1) := by decide +kernel
theorem dz_M_feed_28 : decode zm_M_feed.2.1 28 = .ok (.getfield 28, 3) := by decide +kernel
theorem dz_M_feed_31 : decode zm_M_feed.2.1 31 = .ok (.aload_n 0, 1) := by decide +kernel
theorem dz_M_feed_32 : decode zm_M_feed.2.1 32 = .ok (.getfield 69, 3) := by decide +kernel
theorem dz_M_feed_35 : decode zm_M_feed.2.1 35 = .ok (.iload_n 1, 1) := by decide +kernel
theorem dz_M_feed_36 : decode zm_M_feed.2.1 36 = .ok (.iastore, 1) := by decide +kernel
theorem dz_M_feed_37 : decode zm_M_feed.2.1 37 = .ok (.aload_n 0, 1) := by decide +kernel
theorem dz_M_feed_38 : decode zm_M_feed.2.1 38 = .ok (.dup, 1) := by decide +kernel
theorem dz_M_feed_39 : decode zm_M_feed.2.1 39 = .ok (.getfield 69, 3) := by decide +kernel
theorem dz_M_feed_42 : decode zm_M_feed.2.1 42 = .ok (.iconst 1, 1) := by decide +kernel
theorem dz_M_feed_43 : decode zm_M_feed.2.1 43 = .ok (.iadd, 1) := by decide +kernel
theorem dz_M_feed_44 : decode zm_M_feed.2.1 44 = .ok (.putfield 69, 3) := by decide +kernel
theorem dz_M_feed_47 : decode zm_M_feed.2.1 47 = .ok (.aload_n 0, 1) := by decide +kernel
theorem dz_M_feed_48 : decode zm_M_feed.2.1 48 = .ok (.getfield 69, 3) := by decide +kernel
theorem dz_M_feed_51 : decode zm_M_feed.2.1 51 = .ok (.ireturn, 1) := by decide +kernel
theorem dz_M_end_0 : decode zm_M_end.2.1 0 = .ok (.iload_n 1, 1) := by decide +kernel
theorem dz_M_end_1 : decode zm_M_end.2.1 1 = .ok (.i2l, 1) := by decide +kernel
theorem dz_M_end_2 : decode zm_M_end.2.1 2 = .ok (.lconst 0, 1) := by decide +kernel
theorem dz_M_end_3 : decode zm_M_end.2.1 3 = .ok (.aload_n 0, 1) := by decide +kernel
theorem dz_M_end_4 : decode zm_M_end.2.1 4 = .ok (.getfield 69, 3) := by decide +kernel
theorem dz_M_end_7 : decode zm_M_end.2.1 7 = .ok (.i2l, 1) := by decide +kernel
theorem dz_M_end_8 : decode zm_M_end.2.1 8 = .ok (.invokestatic 65, 3) := by decide +kernel
theorem dz_M_end_11 : decode zm_M_end.2.1 11 = .ok (.ifCond .ne 5, 3) := by decide +kernel
theorem dz_M_end_14 : decode zm_M_end.2.1 14 = .ok (.iconst (-1), 1) := by decide +kernel
theorem dz_M_end_15 : decode zm_M_end.2.1 15 = .ok (.ireturn, 1) := by decide +kernel
theorem dz_M_end_16 : decode zm_M_end.2.1 16 = .ok (.aload_n 0, 1) := by decide +kernel
theorem dz_M_end_17 : decode zm_M_end.2.1 17 = .ok (.getfield 69, 3) := by decide +kernel
theorem dz_M_end_20 : decode zm_M_end.2.1 20 = .ok (.istore_n 2, 1) := by decide +kernel
theorem dz_M_end_21 : decode zm_M_end.2.1 21 = .ok (.aload_n 0, 1) := by decide +kernel
theorem dz_M_end_22 : decode zm_M_end.2.1 22 = .ok (.iload_n 1, 1) := by decide +kernel
theorem dz_M_end_23 : decode zm_M_end.2.1 23 = .ok (.putfield 69, 3) := by decide +kernel
theorem dz_M_end_26 : decode zm_M_end.2.1 26 = .ok (.iload_n 2, 1) := by decide +kernel
theorem dz_M_end_27 : decode zm_M_end.2.1 27 = .ok (.ireturn, 1) := by decide +kernel
theorem dz_M_byteAt_0 : decode zm_M_byteAt.2.1 0 = .ok (.iload_n 1, 1) := by decide +kernel
theorem dz_M_byteAt_1 : decode zm_M_byteAt.2.1 1 = .ok (.aload_n 0, 1) := by decide +kernel
theorem dz_M_byteAt_2 : decode zm_M_byteAt.2.1 2 = .ok (.getfield 69, 3) := by decide +kernel
theorem dz_M_byteAt_5 : decode zm_M_byteAt.2.1 5 = .ok (.if_icmp .ge 12, 3) := by decide +kernel
theorem dz_M_byteAt_8 : decode zm_M_byteAt.2.1 8 = .ok (.aload_n 0, 1) := by decide +kernel
theorem dz_M_byteAt_9 : decode zm_M_byteAt.2.1 9 = .ok (.getfield 28, 3) := by decide +kernel
theorem dz_M_byteAt_12 : decode zm_M_byteAt.2.1 12 = .ok (.iload_n 1, 1) := by decide +kernel
theorem dz_M_byteAt_13 : decode zm_M_byteAt.2.1 13 = .ok (.iaload, 1) := by decide +kernel
theorem dz_M_byteAt_14 : decode zm_M_byteAt.2.1 14 = .ok (.goto 5, 3) := by decide +kernel
theorem dz_M_byteAt_17 : decode zm_M_byteAt.2.1 17 = .ok (.bipush (-4), 2) := by decide +kernel
theorem dz_M_byteAt_19 : decode zm_M_byteAt.2.1 19 = .ok (.ireturn, 1) := by decide +kernel
theorem dz_M_fails_0 : decode zm_M_fails.2.1 0 = .ok (.aload_n 0, 1) := by decide +kernel
theorem dz_M_fails_1 : decode zm_M_fails.2.1 1 = .ok (.getfield 73, 3) := by decide +kernel
theorem dz_M_fails_4 : decode zm_M_fails.2.1 4 = .ok (.ifCond .ne 16, 3) := by decide +kernel
theorem dz_M_fails_7 : decode zm_M_fails.2.1 7 = .ok (.aload_n 0, 1) := by decide +kernel
theorem dz_M_fails_8 : decode zm_M_fails.2.1 8 = .ok (.iload_n 1, 1) := by decide +kernel
theorem dz_M_fails_9 : decode zm_M_fails.2.1 9 = .ok (.putfield 73, 3) := by decide +kernel
theorem dz_M_fails_12 : decode zm_M_fails.2.1 12 = .ok (.aload_n 0, 1) := by decide +kernel
theorem dz_M_fails_13 : decode zm_M_fails.2.1 13 = .ok (.aload_n 0, 1) := by decide +kernel
theorem dz_M_fails_14 : decode zm_M_fails.2.1 14 = .ok (.getfield 76, 3) := by decide +kernel
theorem dz_M_fails_17 : decode zm_M_fails.2.1 17 = .ok (.putfield 79, 3) := by decide +kernel
theorem dz_M_fails_20 : decode zm_M_fails.2.1 20 = .ok (.return_, 1) := by decide +kernel
theorem dz_M_nameHere_0 : decode zm_M_nameHere.2.1 0 = .ok (.iconst 0, 1) := by decide +kernel
theorem dz_M_nameHere_1 : decode zm_M_nameHere.2.1 1 = .ok (.istore_n 1, 1) := by decide +kernel
theorem dz_M_nameHere_2 : decode zm_M_nameHere.2.1 2 = .ok (.iload_n 1, 1) := by decide +kernel
theorem dz_M_nameHere_3 : decode zm_M_nameHere.2.1 3 = .ok (.bipush 13, 2) := by decide +kernel
theorem dz_M_nameHere_5 : decode zm_M_nameHere.2.1 5 = .ok (.if_icmp .ge 113, 3) := by decide +kernel
theorem dz_M_nameHere_8 : decode zm_M_nameHere.2.1 8 = .ok (.aload_n 0, 1) := by decide +kernel
theorem dz_M_nameHere_9 : decode zm_M_nameHere.2.1 9 = .ok (.getfield 82, 3) := by decide +kernel
theorem dz_M_nameHere_12 : decode zm_M_nameHere.2.1 12 = .ok (.iconst 1, 1) := by decide +kernel
theorem dz_M_nameHere_13 : decode zm_M_nameHere.2.1 13 = .ok (.if_icmp .ne 105, 3) := by decide +kernel
theorem dz_M_nameHere_16 : decode zm_M_nameHere.2.1 16 = .ok (.aload_n 0, 1) := by decide +kernel
theorem dz_M_nameHere_17 : decode zm_M_nameHere.2.1 17 = .ok (.getfield 85, 3) := by decide +kernel
theorem dz_M_nameHere_20 : decode zm_M_nameHere.2.1 20 = .ok (.aload_n 0, 1) := by decide +kernel
theorem dz_M_nameHere_21 : decode zm_M_nameHere.2.1 21 = .ok (.getfield 76, 3) := by decide +kernel
theorem dz_M_nameHere_24 : decode zm_M_nameHere.2.1 24 = .ok (.isub, 1) := by decide +kernel
theorem dz_M_nameHere_25 : decode zm_M_nameHere.2.1 25 = .ok (.aload_n 0, 1) := by decide +kernel
theorem dz_M_nameHere_26 : decode zm_M_nameHere.2.1 26 = .ok (.getfield 31, 3) := by decide +kernel
theorem dz_M_nameHere_29 : decode zm_M_nameHere.2.1 29 = .ok (.iload_n 1, 1) := by decide +kernel
theorem dz_M_nameHere_30 : decode zm_M_nameHere.2.1 30 = .ok (.iconst 1, 1) := by decide +kernel
theorem dz_M_nameHere_31 : decode zm_M_nameHere.2.1 31 = .ok (.iadd, 1) := by decide +kernel
theorem dz_M_nameHere_32 : decode zm_M_nameHere.2.1 32 = .ok (.iaload, 1) := by decide +kernel
theorem dz_M_nameHere_33 : decode zm_M_nameHere.2.1 33 = .ok (.aload_n 0, 1) := by decide +kernel
theorem dz_M_nameHere_34 : decode zm_M_nameHere.2.1 34 = .ok (.getfield 31, 3) := by decide +kernel
theorem dz_M_nameHere_37 : decode zm_M_nameHere.2.1 37 = .ok (.iload_n 1, 1) := by decide +kernel
theorem dz_M_nameHere_38 : decode zm_M_nameHere.2.1 38 = .ok (.iaload, 1) := by decide +kernel
theorem dz_M_nameHere_39 : decode zm_M_nameHere.2.1 39 = .ok (.isub, 1) := by decide +kernel
theorem dz_M_nameHere_40 : decode zm_M_nameHere.2.1 40 = .ok (.if_icmp .ne 7, 3) := by decide +kernel
theorem dz_M_nameHere_43 : decode zm_M_nameHere.2.1 43 = .ok (.iconst 1, 1) := by decide +kernel
theorem dz_M_nameHere_44 : decode zm_M_nameHere.2.1 44 = .ok (.goto 4, 3) := by decide +kernel
theorem dz_M_nameHere_47 : decode zm_M_nameHere.2.1 47 = .ok (.iconst 0, 1) := by decide +kernel
theorem dz_M_nameHere_48 : decode zm_M_nameHere.2.1 48 = .ok (.istore_n 2, 1) := by decide +kernel
theorem dz_M_nameHere_49 : decode zm_M_nameHere.2.1 49 = .ok (.iconst 0, 1) := by decide +kernel
theorem dz_M_nameHere_50 : decode zm_M_nameHere.2.1 50 = .ok (.istore_n 3, 1) := by decide +kernel
theorem dz_M_nameHere_51 : decode zm_M_nameHere.2.1 51 = .ok (.iload_n 2, 1) := by decide +kernel
theorem dz_M_nameHere_52 : decode zm_M_nameHere.2.1 52 = .ok (.ifCond .eq 54, 3) := by decide +kernel
theorem dz_M_nameHere_55 : decode zm_M_nameHere.2.1 55 = .ok (.iload_n 3, 1) := by decide +kernel
theorem dz_M_nameHere_56 : decode zm_M_nameHere.2.1 56 = .ok (.aload_n 0, 1) := by decide +kernel
theorem dz_M_nameHere_57 : decode zm_M_nameHere.2.1 57 = .ok (.getfield 85, 3) := by decide +kernel
theorem dz_M_nameHere_60 : decode zm_M_nameHere.2.1 60 = .ok (.aload_n 0, 1) := by decide +kernel
theorem dz_M_nameHere_61 : decode zm_M_nameHere.2.1 61 = .ok (.getfield 76, 3) := by decide +kernel
theorem dz_M_nameHere_64 : decode zm_M_nameHere.2.1 64 = .ok (.isub, 1) := by decide +kernel
theorem dz_M_nameHere_65 : decode zm_M_nameHere.2.1 65 = .ok (.if_icmp .ge 41, 3) := by decide +kernel
theorem dz_M_nameHere_68 : decode zm_M_nameHere.2.1 68 = .ok (.aload_n 0, 1) := by decide +kernel
theorem dz_M_nameHere_69 : decode zm_M_nameHere.2.1 69 = .ok (.aload_n 0, 1) := by decide +kernel
theorem dz_M_nameHere_70 : decode zm_M_nameHere.2.1 70 = .ok (.getfield 76, 3) := by decide +kernel
theorem dz_M_nameHere_73 : decode zm_M_nameHere.2.1 73 = .ok (.iload_n 3, 1) := by decide +kernel
theorem dz_M_nameHere_74 : decode zm_M_nameHere.2.1 74 = .ok (.iadd, 1) := by decide +kernel
theorem dz_M_nameHere_75 : decode zm_M_nameHere.2.1 75 = .ok (.invokevirtual 88, 3) := by decide +kernel
theorem dz_M_nameHere_78 : decode zm_M_nameHere.2.1 78 = .ok (.aload_n 0, 1) := by decide +kernel
theorem dz_M_nameHere_79 : decode zm_M_nameHere.2.1 79 = .ok (.getfield 34, 3) := by decide +kernel
theorem dz_M_nameHere_82 : decode zm_M_nameHere.2.1 82 = .ok (.aload_n 0, 1) := by decide +kernel
theorem dz_M_nameHere_83 : decode zm_M_nameHere.2.1 83 = .ok (.getfield 31, 3) := by decide +kernel
theorem dz_M_nameHere_86 : decode zm_M_nameHere.2.1 86 = .ok (.iload_n 1, 1) := by decide +kernel
theorem dz_M_nameHere_87 : decode zm_M_nameHere.2.1 87 = .ok (.iaload, 1) := by decide +kernel
theorem dz_M_nameHere_88 : decode zm_M_nameHere.2.1 88 = .ok (.iload_n 3, 1) := by decide +kernel
theorem dz_M_nameHere_89 : decode zm_M_nameHere.2.1 89 = .ok (.iadd, 1) := by decide +kernel
theorem dz_M_nameHere_90 : decode zm_M_nameHere.2.1 90 = .ok (.iaload, 1) := by decide +kernel
theorem dz_M_nameHere_91 : decode zm_M_nameHere.2.1 91 = .ok (.if_icmp .ne 7, 3) := by decide +kernel
theorem dz_M_nameHere_94 : decode zm_M_nameHere.2.1 94 = .ok (.iconst 1, 1) := by decide +kernel
theorem dz_M_nameHere_95 : decode zm_M_nameHere.2.1 95 = .ok (.goto 4, 3) := by decide +kernel
theorem dz_M_nameHere_98 : decode zm_M_nameHere.2.1 98 = .ok (.iconst 0, 1) := by decide +kernel
theorem dz_M_nameHere_99 : decode zm_M_nameHere.2.1 99 = .ok (.istore_n 2, 1) := by decide +kernel
theorem dz_M_nameHere_100 : decode zm_M_nameHere.2.1 100 = .ok (.iinc 3 1, 3) := by decide +kernel
theorem dz_M_nameHere_103 : decode zm_M_nameHere.2.1 103 = .ok (.goto (-52), 3) := by decide +kernel
theorem dz_M_nameHere_106 : decode zm_M_nameHere.2.1 106 = .ok (.iload_n 2, 1) := by decide +kernel
theorem dz_M_nameHere_107 : decode zm_M_nameHere.2.1 107 = .ok (.ifCond .eq 5, 3) := by decide +kernel
theorem dz_M_nameHere_110 : decode zm_M_nameHere.2.1 110 = .ok (.iload_n 1, 1) := by decide +kernel
theorem dz_M_nameHere_111 : decode zm_M_nameHere.2.1 111 = .ok (.ireturn, 1) := by decide +kernel
theorem dz_M_nameHere_112 : decode zm_M_nameHere.2.1 112 = .ok (.iinc 1 1, 3) := by decide +kernel
theorem dz_M_nameHere_115 : decode zm_M_nameHere.2.1 115 = .ok (.goto (-113), 3) := by decide +kernel
theorem dz_M_nameHere_118 : decode zm_M_nameHere.2.1 118 = .ok (.bipush (-4), 2) := by decide +kernel
theorem dz_M_nameHere_120 : decode zm_M_nameHere.2.1 120 = .ok (.ireturn, 1) := by decide +kernel
theorem dz_M_step_0 : decode zm_M_step.2.1 0 = .ok (.aload_n 0, 1) := by decide +kernel
theorem dz_M_step_1 : decode zm_M_step.2.1 1 = .ok (.getfield 73, 3) := by decide +kernel
theorem dz_M_step_4 : decode zm_M_step.2.1 4 = .ok (.ifCond .le 4, 3) := by decide +kernel
theorem dz_M_step_7 : decode zm_M_step.2.1 7 = .ok (.return_, 1) := by decide +kernel
theorem dz_M_step_8 : decode zm_M_step.2.1 8 = .ok (.aload_n 0, 1) := by decide +kernel
theorem dz_M_step_9 : decode zm_M_step.2.1 9 = .ok (.aload_n 0, 1) := by decide +kernel
theorem dz_M_step_10 : decode zm_M_step.2.1 10 = .ok (.getfield 85, 3) := by decide +kernel
theorem dz_M_step_13 : decode zm_M_step.2.1 13 = .ok (.invokevirtual 88, 3) := by decide +kernel
theorem dz_M_step_16 : decode zm_M_step.2.1 16 = .ok (.bipush 32, 2) := by decide +kernel
theorem dz_M_step_18 : decode zm_M_step.2.1 18 = .ok (.if_icmp .ne 16, 3) := by decide +kernel
theorem dz_M_step_21 : decode zm_M_step.2.1 21 = .ok (.aload_n 0, 1) := by decide +kernel
theorem dz_M_step_22 : decode zm_M_step.2.1 22 = .ok (.dup, 1) := by decide +kernel
theorem dz_M_step_23 : decode zm_M_step.2.1 23 = .ok (.getfield 85, 3) := by decide +kernel
theorem dz_M_step_26 : decode zm_M_step.2.1 26 = .ok (.iconst 1, 1) := by decide +kernel
theorem dz_M_step_27 : decode zm_M_step.2.1 27 = .ok (.iadd, 1) := by decide +kernel
theorem dz_M_step_28 : decode zm_M_step.2.1 28 = .ok (.putfield 85, 3) := by decide +kernel
theorem dz_M_step_31 : decode zm_M_step.2.1 31 = .ok (.goto (-23), 3) := by decide +kernel
theorem dz_M_step_34 : decode zm_M_step.2.1 34 = .ok (.aload_n 0, 1) := by decide +kernel
theorem dz_M_step_35 : decode zm_M_step.2.1 35 = .ok (.aload_n 0, 1) := by decide +kernel
theorem dz_M_step_36 : decode zm_M_step.2.1 36 = .ok (.getfield 85, 3) := by decide +kernel
theorem dz_M_step_39 : decode zm_M_step.2.1 39 = .ok (.putfield 76, 3) := by decide +kernel
theorem dz_M_step_42 : decode zm_M_step.2.1 42 = .ok (.aload_n 0, 1) := by decide +kernel
theorem dz_M_step_43 : decode zm_M_step.2.1 43 = .ok (.aload_n 0, 1) := by decide +kernel
theorem dz_M_step_44 : decode zm_M_step.2.1 44 = .ok (.getfield 85, 3) := by decide +kernel
theorem dz_M_step_47 : decode zm_M_step.2.1 47 = .ok (.invokevirtual 88, 3) := by decide +kernel
theorem dz_M_step_50 : decode zm_M_step.2.1 50 = .ok (.istore_n 1, 1) := by decide +kernel
theorem dz_M_step_51 : decode zm_M_step.2.1 51 = .ok (.aload_n 0, 1) := by decide +kernel
theorem dz_M_step_52 : decode zm_M_step.2.1 52 = .ok (.iconst 0, 1) := by decide +kernel
theorem dz_M_step_53 : decode zm_M_step.2.1 53 = .ok (.putfield 92, 3) := by decide +kernel
theorem dz_M_step_56 : decode zm_M_step.2.1 56 = .ok (.iload_n 1, 1) := by decide +kernel
theorem dz_M_step_57 : decode zm_M_step.2.1 57 = .ok (.bipush (-4), 2) := by decide +kernel
theorem dz_M_step_59 : decode zm_M_step.2.1 59 = .ok (.if_icmp .ne 11, 3) := by decide +kernel
theorem dz_M_step_62 : decode zm_M_step.2.1 62 = .ok (.aload_n 0, 1) := by decide +kernel
theorem dz_M_step_63 : decode zm_M_step.2.1 63 = .ok (.iconst 0, 1) := by decide +kernel
theorem dz_M_step_64 : decode zm_M_step.2.1 64 = .ok (.putfield 82, 3) := by decide +kernel
theorem dz_M_step_67 : decode zm_M_step.2.1 67 = .ok (.goto 202, 3) := by decide +kernel
theorem dz_M_step_70 : decode zm_M_step.2.1 70 = .ok (.iload_n 1, 1) := by decide +kernel
theorem dz_M_step_71 : decode zm_M_step.2.1 71 = .ok (.i2l, 1) := by decide +kernel
theorem dz_M_step_72 : decode zm_M_step.2.1 72 = .ok (.ldc2_w 95, 3) := by decide +kernel
theorem dz_M_step_75 : decode zm_M_step.2.1 75 = .ok (.ldc2_w 97, 3) := by decide +kernel
theorem dz_M_step_78 : decode zm_M_step.2.1 78 = .ok (.invokestatic 65, 3) := by decide +kernel
theorem dz_M_step_81 : decode zm_M_step.2.1 81 = .ok (.ifCond .eq 45, 3) := by decide +kernel
theorem dz_M_step_84 : decode zm_M_step.2.1 84 = .ok (.aload_n 0, 1) := by decide +kernel
theorem dz_M_step_85 : decode zm_M_step.2.1 85 = .ok (.aload_n 0, 1) := by decide +kernel
theorem dz_M_step_86 : decode zm_M_step.2.1 86 = .ok (.getfield 85, 3) := by decide +kernel
theorem dz_M_step_89 : decode zm_M_step.2.1 89 = .ok (.invokevirtual 88, 3) := by decide +kernel
theorem dz_M_step_92 : decode zm_M_step.2.1 92 = .ok (.i2l, 1) := by decide +kernel
theorem dz_M_step_93 : decode zm_M_step.2.1 93 = .ok (.ldc2_w 95, 3) := by decide +kernel
theorem dz_M_step_96 : decode zm_M_step.2.1 96 = .ok (.ldc2_w 97, 3) := by decide +kernel
theorem dz_M_step_99 : decode zm_M_step.2.1 99 = .ok (.invokestatic 65, 3) := by decide +kernel
theorem dz_M_step_102 : decode zm_M_step.2.1 102 = .ok (.ifCond .eq 16, 3) := by decide +kernel
theorem dz_M_step_105 : decode zm_M_step.2.1 105 = .ok (.aload_n 0, 1) := by decide +kernel
theorem dz_M_step_106 : decode zm_M_step.2.1 106 = .ok (.dup, 1) := by decide +kernel
theorem dz_M_step_107 : decode zm_M_step.2.1 107 = .ok (.getfield 85, 3) := by decide +kernel
theorem dz_M_step_110 : decode zm_M_step.2.1 110 = .ok (.iconst 1, 1) := by decide +kernel
theorem dz_M_step_111 : decode zm_M_step.2.1 111 = .ok (.iadd, 1) := by decide +kernel
theorem dz_M_step_112 : decode zm_M_step.2.1 112 = .ok (.putfield 85, 3) := by decide +kernel
theorem dz_M_step_115 : decode zm_M_step.2.1 115 = .ok (.goto (-31), 3) := by decide +kernel
theorem dz_M_step_118 : decode zm_M_step.2.1 118 = .ok (.aload_n 0, 1) := by decide +kernel
theorem dz_M_step_119 : decode zm_M_step.2.1 119 = .ok (.iconst 1, 1) := by decide +kernel
theorem dz_M_step_120 : decode zm_M_step.2.1 120 = .ok (.putfield 82, 3) := by decide +kernel
theorem dz_M_step_123 : decode zm_M_step.2.1 123 = .ok (.goto 146, 3) := by decide +kernel
theorem dz_M_step_126 : decode zm_M_step.2.1 126 = .ok (.iload_n 1, 1) := by decide +kernel
theorem dz_M_step_127 : decode zm_M_step.2.1 127 = .ok (.i2l, 1) := by decide +kernel
theorem dz_M_step_128 : decode zm_M_step.2.1 128 = .ok (.ldc2_w 99, 3) := by decide +kernel
theorem dz_M_step_131 : decode zm_M_step.2.1 131 = .ok (.ldc2_w 101, 3) := by decide +kernel
theorem dz_M_step_134 : decode zm_M_step.2.1 134 = .ok (.invokestatic 65, 3) := by decide +kernel
theorem dz_M_step_137 : decode zm_M_step.2.1 137 = .ok (.ifCond .eq 106, 3) := by decide +kernel
theorem dz_M_step_140 : decode zm_M_step.2.1 140 = .ok (.aload_n 0, 1) := by decide +kernel
theorem dz_M_step_141 : decode zm_M_step.2.1 141 = .ok (.aload_n 0, 1) := by decide +kernel
theorem dz_M_step_142 : decode zm_M_step.2.1 142 = .ok (.getfield 85, 3) := by decide +kernel
theorem dz_M_step_145 : decode zm_M_step.2.1 145 = .ok (.invokevirtual 88, 3) := by decide +kernel
theorem dz_M_step_148 : decode zm_M_step.2.1 148 = .ok (.i2l, 1) := by decide +kernel
theorem dz_M_step_149 : decode zm_M_step.2.1 149 = .ok (.ldc2_w 99, 3) := by decide +kernel
theorem dz_M_step_152 : decode zm_M_step.2.1 152 = .ok (.ldc2_w 101, 3) := by decide +kernel
theorem dz_M_step_155 : decode zm_M_step.2.1 155 = .ok (.invokestatic 65, 3) := by decide +kernel
theorem dz_M_step_158 : decode zm_M_step.2.1 158 = .ok (.ifCond .eq 59, 3) := by decide +kernel
theorem dz_M_step_161 : decode zm_M_step.2.1 161 = .ok (.aload_n 0, 1) := by decide +kernel
theorem dz_M_step_162 : decode zm_M_step.2.1 162 = .ok (.aload_n 0, 1) := by decide +kernel
theorem dz_M_step_163 : decode zm_M_step.2.1 163 = .ok (.getfield 85, 3) := by decide +kernel
theorem dz_M_step_166 : decode zm_M_step.2.1 166 = .ok (.aload_n 0, 1) := by decide +kernel
theorem dz_M_step_167 : decode zm_M_step.2.1 167 = .ok (.getfield 76, 3) := by decide +kernel
theorem dz_M_step_170 : decode zm_M_step.2.1 170 = .ok (.isub, 1) := by decide +kernel
theorem dz_M_step_171 : decode zm_M_step.2.1 171 = .ok (.iconst 2, 1) := by decide +kernel
theorem dz_M_step_172 : decode zm_M_step.2.1 172 = .ok (.if_icmp .ge 25, 3) := by decide +kernel
theorem dz_M_step_175 : decode zm_M_step.2.1 175 = .ok (.bipush 10, 2) := by decide +kernel
theorem dz_M_step_177 : decode zm_M_step.2.1 177 = .ok (.aload_n 0, 1) := by decide +kernel
theorem dz_M_step_178 : decode zm_M_step.2.1 178 = .ok (.getfield 92, 3) := by decide +kernel
theorem dz_M_step_181 : decode zm_M_step.2.1 181 = .ok (.imul, 1) := by decide +kernel
theorem dz_M_step_182 : decode zm_M_step.2.1 182 = .ok (.aload_n 0, 1) := by decide +kernel
theorem dz_M_step_183 : decode zm_M_step.2.1 183 = .ok (.aload_n 0, 1) := by decide +kernel
theorem dz_M_step_184 : decode zm_M_step.2.1 184 = .ok (.getfield 85, 3) := by decide +kernel
theorem dz_M_step_187 : decode zm_M_step.2.1 187 = .ok (.invokevirtual 88, 3) := by decide +kernel
theorem dz_M_step_190 : decode zm_M_step.2.1 190 = .ok (.iadd, 1) := by decide +kernel
theorem dz_M_step_191 : decode zm_M_step.2.1 191 = .ok (.bipush 48, 2) := by decide +kernel
theorem dz_M_step_193 : decode zm_M_step.2.1 193 = .ok (.isub, 1) := by decide +kernel
theorem dz_M_step_194 : decode zm_M_step.2.1 194 = .ok (.goto 7, 3) := by decide +kernel
theorem dz_M_step_197 : decode zm_M_step.2.1 197 = .ok (.aload_n 0, 1) := by decide +kernel
theorem dz_M_step_198 : decode zm_M_step.2.1 198 = .ok (.getfield 92, 3) := by decide +kernel
theorem dz_M_step_201 : decode zm_M_step.2.1 201 = .ok (.putfield 92, 3) := by decide +kernel
theorem dz_M_step_204 : decode zm_M_step.2.1 204 = .ok (.aload_n 0, 1) := by decide +kernel
theorem dz_M_step_205 : decode zm_M_step.2.1 205 = .ok (.dup, 1) := by decide +kernel
theorem dz_M_step_206 : decode zm_M_step.2.1 206 = .ok (.getfield 85, 3) := by decide +kernel
theorem dz_M_step_209 : decode zm_M_step.2.1 209 = .ok (.iconst 1, 1) := by decide +kernel
theorem dz_M_step_210 : decode zm_M_step.2.1 210 = .ok (.iadd, 1) := by decide +kernel
theorem dz_M_step_211 : decode zm_M_step.2.1 211 = .ok (.putfield 85, 3) := by decide +kernel
theorem dz_M_step_214 : decode zm_M_step.2.1 214 = .ok (.goto (-74), 3) := by decide +kernel
theorem dz_M_step_217 : decode zm_M_step.2.1 217 = .ok (.aload_n 0, 1) := by decide +kernel
theorem dz_M_step_218 : decode zm_M_step.2.1 218 = .ok (.iconst 2, 1) := by decide +kernel
theorem dz_M_step_219 : decode zm_M_step.2.1 219 = .ok (.putfield 82, 3) := by decide +kernel
theorem dz_M_step_222 : decode zm_M_step.2.1 222 = .ok (.aload_n 0, 1) := by decide +kernel
theorem dz_M_step_223 : decode zm_M_step.2.1 223 = .ok (.getfield 85, 3) := by decide +kernel
theorem dz_M_step_226 : decode zm_M_step.2.1 226 = .ok (.aload_n 0, 1) := by decide +kernel
theorem dz_M_step_227 : decode zm_M_step.2.1 227 = .ok (.getfield 76, 3) := by decide +kernel
theorem dz_M_step_230 : decode zm_M_step.2.1 230 = .ok (.isub, 1) := by decide +kernel
theorem dz_M_step_231 : decode zm_M_step.2.1 231 = .ok (.iconst 2, 1) := by decide +kernel
theorem dz_M_step_232 : decode zm_M_step.2.1 232 = .ok (.if_icmp .le 37, 3) := by decide +kernel
theorem dz_M_step_235 : decode zm_M_step.2.1 235 = .ok (.aload_n 0, 1) := by decide +kernel
theorem dz_M_step_236 : decode zm_M_step.2.1 236 = .ok (.iconst 1, 1) := by decide +kernel
theorem dz_M_step_237 : decode zm_M_step.2.1 237 = .ok (.invokevirtual 103, 3) := by decide +kernel
theorem dz_M_step_240 : decode zm_M_step.2.1 240 = .ok (.goto 29, 3) := by decide +kernel
theorem dz_M_step_243 : decode zm_M_step.2.1 243 = .ok (.aload_n 0, 1) := by decide +kernel
theorem dz_M_step_244 : decode zm_M_step.2.1 244 = .ok (.iconst 3, 1) := by decide +kernel
theorem dz_M_step_245 : decode zm_M_step.2.1 245 = .ok (.putfield 82, 3) := by decide +kernel
theorem dz_M_step_248 : decode zm_M_step.2.1 248 = .ok (.aload_n 0, 1) := by decide +kernel
theorem dz_M_step_249 : decode zm_M_step.2.1 249 = .ok (.dup, 1) := by decide +kernel
theorem dz_M_step_250 : decode zm_M_step.2.1 250 = .ok (.getfield 85, 3) := by decide +kernel
theorem dz_M_step_253 : decode zm_M_step.2.1 253 = .ok (.iconst 1, 1) := by decide +kernel
theorem dz_M_step_254 : decode zm_M_step.2.1 254 = .ok (.iadd, 1) := by decide +kernel
theorem dz_M_step_255 : decode zm_M_step.2.1 255 = .ok (.putfield 85, 3) := by decide +kernel
theorem dz_M_step_258 : decode zm_M_step.2.1 258 = .ok (.iload_n 1, 1) := by decide +kernel
theorem dz_M_step_259 : decode zm_M_step.2.1 259 = .ok (.bipush 59, 2) := by decide +kernel
theorem dz_M_step_261 : decode zm_M_step.2.1 261 = .ok (.if_icmp .eq 8, 3) := by decide +kernel
theorem dz_M_step_264 : decode zm_M_step.2.1 264 = .ok (.aload_n 0, 1) := by decide +kernel
theorem dz_M_step_265 : decode zm_M_step.2.1 265 = .ok (.iconst 1, 1) := by decide +kernel
theorem dz_M_step_266 : decode zm_M_step.2.1 266 = .ok (.invokevirtual 103, 3) := by decide +kernel
theorem dz_M_step_269 : decode zm_M_step.2.1 269 = .ok (.return_, 1) := by decide +kernel
theorem dz_M_other_0 : decode zm_M_other.2.1 0 = .ok (.aload_n 0, 1) := by decide +kernel
theorem dz_M_other_1 : decode zm_M_other.2.1 1 = .ok (.getfield 73, 3) := by decide +kernel
theorem dz_M_other_4 : decode zm_M_other.2.1 4 = .ok (.ifCond .ne 16, 3) := by decide +kernel
theorem dz_M_other_7 : decode zm_M_other.2.1 7 = .ok (.aload_n 0, 1) := by decide +kernel
theorem dz_M_other_8 : decode zm_M_other.2.1 8 = .ok (.getfield 82, 3) := by decide +kernel
theorem dz_M_other_11 : decode zm_M_other.2.1 11 = .ok (.iconst 2, 1) := by decide +kernel
theorem dz_M_other_12 : decode zm_M_other.2.1 12 = .ok (.if_icmp .eq 8, 3) := by decide +kernel
theorem dz_M_other_15 : decode zm_M_other.2.1 15 = .ok (.aload_n 0, 1) := by decide +kernel
theorem dz_M_other_16 : decode zm_M_other.2.1 16 = .ok (.iconst 2, 1) := by decide +kernel
theorem dz_M_other_17 : decode zm_M_other.2.1 17 = .ok (.invokevirtual 103, 3) := by decide +kernel
theorem dz_M_other_20 : decode zm_M_other.2.1 20 = .ok (.aload_n 0, 1) := by decide +kernel
theorem dz_M_other_21 : decode zm_M_other.2.1 21 = .ok (.getfield 73, 3) := by decide +kernel
theorem dz_M_other_24 : decode zm_M_other.2.1 24 = .ok (.ifCond .ne 23, 3) := by decide +kernel
theorem dz_M_other_27 : decode zm_M_other.2.1 27 = .ok (.aload_n 0, 1) := by decide +kernel
theorem dz_M_other_28 : decode zm_M_other.2.1 28 = .ok (.getfield 92, 3) := by decide +kernel
theorem dz_M_other_31 : decode zm_M_other.2.1 31 = .ok (.i2l, 1) := by decide +kernel
theorem dz_M_other_32 : decode zm_M_other.2.1 32 = .ok (.iload_n 1, 1) := by decide +kernel
theorem dz_M_other_33 : decode zm_M_other.2.1 33 = .ok (.i2l, 1) := by decide +kernel
theorem dz_M_other_34 : decode zm_M_other.2.1 34 = .ok (.iload_n 2, 1) := by decide +kernel
theorem dz_M_other_35 : decode zm_M_other.2.1 35 = .ok (.i2l, 1) := by decide +kernel
theorem dz_M_other_36 : decode zm_M_other.2.1 36 = .ok (.invokestatic 65, 3) := by decide +kernel
theorem dz_M_other_39 : decode zm_M_other.2.1 39 = .ok (.ifCond .ne 8, 3) := by decide +kernel
theorem dz_M_other_42 : decode zm_M_other.2.1 42 = .ok (.aload_n 0, 1) := by decide +kernel
theorem dz_M_other_43 : decode zm_M_other.2.1 43 = .ok (.iconst 3, 1) := by decide +kernel
theorem dz_M_other_44 : decode zm_M_other.2.1 44 = .ok (.invokevirtual 103, 3) := by decide +kernel
theorem dz_M_other_47 : decode zm_M_other.2.1 47 = .ok (.aload_n 0, 1) := by decide +kernel
theorem dz_M_other_48 : decode zm_M_other.2.1 48 = .ok (.getfield 73, 3) := by decide +kernel
theorem dz_M_other_51 : decode zm_M_other.2.1 51 = .ok (.ifCond .ne 20, 3) := by decide +kernel
theorem dz_M_other_54 : decode zm_M_other.2.1 54 = .ok (.iload_n 3, 1) := by decide +kernel
theorem dz_M_other_55 : decode zm_M_other.2.1 55 = .ok (.aload_n 0, 1) := by decide +kernel
theorem dz_M_other_56 : decode zm_M_other.2.1 56 = .ok (.getfield 92, 3) := by decide +kernel
theorem dz_M_other_59 : decode zm_M_other.2.1 59 = .ok (.ishr, 1) := by decide +kernel
theorem dz_M_other_60 : decode zm_M_other.2.1 60 = .ok (.iconst 1, 1) := by decide +kernel
theorem dz_M_other_61 : decode zm_M_other.2.1 61 = .ok (.iand, 1) := by decide +kernel
theorem dz_M_other_62 : decode zm_M_other.2.1 62 = .ok (.iconst 1, 1) := by decide +kernel
theorem dz_M_other_63 : decode zm_M_other.2.1 63 = .ok (.if_icmp .ne 8, 3) := by decide +kernel
theorem dz_M_other_66 : decode zm_M_other.2.1 66 = .ok (.aload_n 0, 1) := by decide +kernel
theorem dz_M_other_67 : decode zm_M_other.2.1 67 = .ok (.iconst 4, 1) := by decide +kernel
theorem dz_M_other_68 : decode zm_M_other.2.1 68 = .ok (.invokevirtual 103, 3) := by decide +kernel
theorem dz_M_other_71 : decode zm_M_other.2.1 71 = .ok (.aload_n 0, 1) := by decide +kernel
theorem dz_M_other_72 : decode zm_M_other.2.1 72 = .ok (.getfield 73, 3) := by decide +kernel
theorem dz_M_other_75 : decode zm_M_other.2.1 75 = .ok (.ifCond .ne 10, 3) := by decide +kernel
theorem dz_M_other_78 : decode zm_M_other.2.1 78 = .ok (.aload_n 0, 1) := by decide +kernel
theorem dz_M_other_79 : decode zm_M_other.2.1 79 = .ok (.getfield 92, 3) := by decide +kernel
theorem dz_M_other_82 : decode zm_M_other.2.1 82 = .ok (.goto 4, 3) := by decide +kernel
theorem dz_M_other_85 : decode zm_M_other.2.1 85 = .ok (.iload_n 1, 1) := by decide +kernel
theorem dz_M_other_86 : decode zm_M_other.2.1 86 = .ok (.istore 4, 2) := by decide +kernel
theorem dz_M_other_88 : decode zm_M_other.2.1 88 = .ok (.aload_n 0, 1) := by decide +kernel
theorem dz_M_other_89 : decode zm_M_other.2.1 89 = .ok (.invokevirtual 107, 3) := by decide +kernel
theorem dz_M_other_92 : decode zm_M_other.2.1 92 = .ok (.iload 4, 2) := by decide +kernel
theorem dz_M_other_94 : decode zm_M_other.2.1 94 = .ok (.ireturn, 1) := by decide +kernel
theorem dz_M_person_0 : decode zm_M_person.2.1 0 = .ok (.aload_n 0, 1) := by decide +kernel
theorem dz_M_person_1 : decode zm_M_person.2.1 1 = .ok (.iconst 0, 1) := by decide +kernel
theorem dz_M_person_2 : decode zm_M_person.2.1 2 = .ok (.iconst 5, 1) := by decide +kernel
theorem dz_M_person_3 : decode zm_M_person.2.1 3 = .ok (.iload_n 1, 1) := by decide +kernel
theorem dz_M_person_4 : decode zm_M_person.2.1 4 = .ok (.invokevirtual 110, 3) := by decide +kernel
theorem dz_M_person_7 : decode zm_M_person.2.1 7 = .ok (.istore_n 2, 1) := by decide +kernel
theorem dz_M_person_8 : decode zm_M_person.2.1 8 = .ok (.aload_n 0, 1) := by decide +kernel
theorem dz_M_person_9 : decode zm_M_person.2.1 9 = .ok (.iload_n 2, 1) := by decide +kernel
theorem dz_M_person_10 : decode zm_M_person.2.1 10 = .ok (.aload_n 0, 1) := by decide +kernel
theorem dz_M_person_11 : decode zm_M_person.2.1 11 = .ok (.getfield 114, 3) := by decide +kernel
theorem dz_M_person_14 : decode zm_M_person.2.1 14 = .ok (.if_icmp .le 7, 3) := by decide +kernel
theorem dz_M_person_17 : decode zm_M_person.2.1 17 = .ok (.iload_n 2, 1) := by decide +kernel
theorem dz_M_person_18 : decode zm_M_person.2.1 18 = .ok (.goto 7, 3) := by decide +kernel
theorem dz_M_person_21 : decode zm_M_person.2.1 21 = .ok (.aload_n 0, 1) := by decide +kernel
theorem dz_M_person_22 : decode zm_M_person.2.1 22 = .ok (.getfield 114, 3) := by decide +kernel
theorem dz_M_person_25 : decode zm_M_person.2.1 25 = .ok (.putfield 114, 3) := by decide +kernel
theorem dz_M_person_28 : decode zm_M_person.2.1 28 = .ok (.iload_n 2, 1) := by decide +kernel
theorem dz_M_person_29 : decode zm_M_person.2.1 29 = .ok (.ireturn, 1) := by decide +kernel
theorem dz_M_claimHere_0 : decode zm_M_claimHere.2.1 0 = .ok (.aload_n 0, 1) := by decide +kernel
theorem dz_M_claimHere_1 : decode zm_M_claimHere.2.1 1 = .ok (.invokevirtual 117, 3) := by decide +kernel
theorem dz_M_claimHere_4 : decode zm_M_claimHere.2.1 4 = .ok (.istore_n 1, 1) := by decide +kernel
theorem dz_M_claimHere_5 : decode zm_M_claimHere.2.1 5 = .ok (.iload_n 1, 1) := by decide +kernel
theorem dz_M_claimHere_6 : decode zm_M_claimHere.2.1 6 = .ok (.iconst 1, 1) := by decide +kernel
theorem dz_M_claimHere_7 : decode zm_M_claimHere.2.1 7 = .ok (.if_icmp .ne 7, 3) := by decide +kernel
theorem dz_M_claimHere_10 : decode zm_M_claimHere.2.1 10 = .ok (.iconst 2, 1) := by decide +kernel
theorem dz_M_claimHere_11 : decode zm_M_claimHere.2.1 11 = .ok (.goto 44, 3) := by decide +kernel
theorem dz_M_claimHere_14 : decode zm_M_claimHere.2.1 14 = .ok (.iload_n 1, 1) := by decide +kernel
theorem dz_M_claimHere_15 : decode zm_M_claimHere.2.1 15 = .ok (.iconst 5, 1) := by decide +kernel
theorem dz_M_claimHere_16 : decode zm_M_claimHere.2.1 16 = .ok (.if_icmp .eq 9, 3) := by decide +kernel
theorem dz_M_claimHere_19 : decode zm_M_claimHere.2.1 19 = .ok (.iload_n 1, 1) := by decide +kernel
theorem dz_M_claimHere_20 : decode zm_M_claimHere.2.1 20 = .ok (.bipush 6, 2) := by decide +kernel
theorem dz_M_claimHere_22 : decode zm_M_claimHere.2.1 22 = .ok (.if_icmp .ne 9, 3) := by decide +kernel
theorem dz_M_claimHere_25 : decode zm_M_claimHere.2.1 25 = .ok (.iload_n 1, 1) := by decide +kernel
theorem dz_M_claimHere_26 : decode zm_M_claimHere.2.1 26 = .ok (.iconst 5, 1) := by decide +kernel
theorem dz_M_claimHere_27 : decode zm_M_claimHere.2.1 27 = .ok (.isub, 1) := by decide +kernel
theorem dz_M_claimHere_28 : decode zm_M_claimHere.2.1 28 = .ok (.goto 27, 3) := by decide +kernel
theorem dz_M_claimHere_31 : decode zm_M_claimHere.2.1 31 = .ok (.iload_n 1, 1) := by decide +kernel
theorem dz_M_claimHere_32 : decode zm_M_claimHere.2.1 32 = .ok (.i2l, 1) := by decide +kernel
theorem dz_M_claimHere_33 : decode zm_M_claimHere.2.1 33 = .ok (.ldc2_w 121, 3) := by decide +kernel
theorem dz_M_claimHere_36 : decode zm_M_claimHere.2.1 36 = .ok (.ldc2_w 123, 3) := by decide +kernel
theorem dz_M_claimHere_39 : decode zm_M_claimHere.2.1 39 = .ok (.invokestatic 65, 3) := by decide +kernel
theorem dz_M_claimHere_42 : decode zm_M_claimHere.2.1 42 = .ok (.ifCond .eq 11, 3) := by decide +kernel
theorem dz_M_claimHere_45 : decode zm_M_claimHere.2.1 45 = .ok (.iload_n 1, 1) := by decide +kernel
theorem dz_M_claimHere_46 : decode zm_M_claimHere.2.1 46 = .ok (.iconst 5, 1) := by decide +kernel
theorem dz_M_claimHere_47 : decode zm_M_claimHere.2.1 47 = .ok (.isub, 1) := by decide +kernel
theorem dz_M_claimHere_48 : decode zm_M_claimHere.2.1 48 = .ok (.iconst 1, 1) := by decide +kernel
theorem dz_M_claimHere_49 : decode zm_M_claimHere.2.1 49 = .ok (.iadd, 1) := by decide +kernel
theorem dz_M_claimHere_50 : decode zm_M_claimHere.2.1 50 = .ok (.goto 5, 3) := by decide +kernel
theorem dz_M_claimHere_53 : decode zm_M_claimHere.2.1 53 = .ok (.bipush (-4), 2) := by decide +kernel
theorem dz_M_claimHere_55 : decode zm_M_claimHere.2.1 55 = .ok (.istore_n 2, 1) := by decide +kernel
theorem dz_M_claimHere_56 : decode zm_M_claimHere.2.1 56 = .ok (.aload_n 0, 1) := by decide +kernel
theorem dz_M_claimHere_57 : decode zm_M_claimHere.2.1 57 = .ok (.getfield 73, 3) := by decide +kernel
theorem dz_M_claimHere_60 : decode zm_M_claimHere.2.1 60 = .ok (.ifCond .ne 14, 3) := by decide +kernel
theorem dz_M_claimHere_63 : decode zm_M_claimHere.2.1 63 = .ok (.iload_n 2, 1) := by decide +kernel
theorem dz_M_claimHere_64 : decode zm_M_claimHere.2.1 64 = .ok (.bipush (-4), 2) := by decide +kernel
theorem dz_M_claimHere_66 : decode zm_M_claimHere.2.1 66 = .ok (.if_icmp .ne 8, 3) := by decide +kernel
theorem dz_M_claimHere_69 : decode zm_M_claimHere.2.1 69 = .ok (.aload_n 0, 1) := by decide +kernel
theorem dz_M_claimHere_70 : decode zm_M_claimHere.2.1 70 = .ok (.iconst 2, 1) := by decide +kernel
theorem dz_M_claimHere_71 : decode zm_M_claimHere.2.1 71 = .ok (.invokevirtual 103, 3) := by decide +kernel
theorem dz_M_claimHere_74 : decode zm_M_claimHere.2.1 74 = .ok (.aload_n 0, 1) := by decide +kernel
theorem dz_M_claimHere_75 : decode zm_M_claimHere.2.1 75 = .ok (.invokevirtual 107, 3) := by decide +kernel
theorem dz_M_claimHere_78 : decode zm_M_claimHere.2.1 78 = .ok (.iload_n 2, 1) := by decide +kernel
theorem dz_M_claimHere_79 : decode zm_M_claimHere.2.1 79 = .ok (.bipush (-4), 2) := by decide +kernel
theorem dz_M_claimHere_81 : decode zm_M_claimHere.2.1 81 = .ok (.if_icmp .ne 7, 3) := by decide +kernel
theorem dz_M_claimHere_84 : decode zm_M_claimHere.2.1 84 = .ok (.iconst 0, 1) := by decide +kernel
theorem dz_M_claimHere_85 : decode zm_M_claimHere.2.1 85 = .ok (.goto 4, 3) := by decide +kernel
theorem dz_M_claimHere_88 : decode zm_M_claimHere.2.1 88 = .ok (.iload_n 2, 1) := by decide +kernel
theorem dz_M_claimHere_89 : decode zm_M_claimHere.2.1 89 = .ok (.ireturn, 1) := by decide +kernel
theorem dz_M_readRule_0 : decode zm_M_readRule.2.1 0 = .ok (.aload_n 0, 1) := by decide +kernel
theorem dz_M_readRule_1 : decode zm_M_readRule.2.1 1 = .ok (.getfield 125, 3) := by decide +kernel
theorem dz_M_readRule_4 : decode zm_M_readRule.2.1 4 = .ok (.istore_n 1, 1) := by decide +kernel
theorem dz_M_readRule_5 : decode zm_M_readRule.2.1 5 = .ok (.aload_n 0, 1) := by decide +kernel
theorem dz_M_readRule_6 : decode zm_M_readRule.2.1 6 = .ok (.getfield 19, 3) := by decide +kernel
theorem dz_M_readRule_9 : decode zm_M_readRule.2.1 9 = .ok (.bipush 18, 2) := by decide +kernel
theorem dz_M_readRule_11 : decode zm_M_readRule.2.1 11 = .ok (.iload_n 1, 1) := by decide +kernel
theorem dz_M_readRule_12 : decode zm_M_readRule.2.1 12 = .ok (.iadd, 1) := by decide +kernel
theorem dz_M_readRule_13 : decode zm_M_readRule.2.1 13 = .ok (.aload_n 0, 1) := by decide +kernel
theorem dz_M_readRule_14 : decode zm_M_readRule.2.1 14 = .ok (.iconst 1, 1) := by decide +kernel
theorem dz_M_readRule_15 : decode zm_M_readRule.2.1 15 = .ok (.bipush 9, 2) := by decide +kernel
theorem dz_M_readRule_17 : decode zm_M_readRule.2.1 17 = .ok (.iconst 0, 1) := by decide +kernel
theorem dz_M_readRule_18 : decode zm_M_readRule.2.1 18 = .ok (.invokevirtual 110, 3) := by decide +kernel
theorem dz_M_readRule_21 : decode zm_M_readRule.2.1 21 = .ok (.iastore, 1) := by decide +kernel
theorem dz_M_readRule_22 : decode zm_M_readRule.2.1 22 = .ok (.aload_n 0, 1) := by decide +kernel
theorem dz_M_readRule_23 : decode zm_M_readRule.2.1 23 = .ok (.getfield 25, 3) := by decide +kernel
theorem dz_M_readRule_26 : decode zm_M_readRule.2.1 26 = .ok (.iconst 3, 1) := by decide +kernel
theorem dz_M_readRule_27 : decode zm_M_readRule.2.1 27 = .ok (.iload_n 1, 1) := by decide +kernel
theorem dz_M_readRule_28 : decode zm_M_readRule.2.1 28 = .ok (.imul, 1) := by decide +kernel
theorem dz_M_readRule_29 : decode zm_M_readRule.2.1 29 = .ok (.aload_n 0, 1) := by decide +kernel
theorem dz_M_readRule_30 : decode zm_M_readRule.2.1 30 = .ok (.iconst 0, 1) := by decide +kernel
theorem dz_M_readRule_31 : decode zm_M_readRule.2.1 31 = .ok (.iconst 3, 1) := by decide +kernel
theorem dz_M_readRule_32 : decode zm_M_readRule.2.1 32 = .ok (.iconst 0, 1) := by decide +kernel
theorem dz_M_readRule_33 : decode zm_M_readRule.2.1 33 = .ok (.invokevirtual 110, 3) := by decide +kernel
theorem dz_M_readRule_36 : decode zm_M_readRule.2.1 36 = .ok (.iastore, 1) := by decide +kernel
theorem dz_M_readRule_37 : decode zm_M_readRule.2.1 37 = .ok (.aload_n 0, 1) := by decide +kernel
theorem dz_M_readRule_38 : decode zm_M_readRule.2.1 38 = .ok (.invokevirtual 128, 3) := by decide +kernel
theorem dz_M_readRule_41 : decode zm_M_readRule.2.1 41 = .ok (.istore_n 2, 1) := by decide +kernel
theorem dz_M_readRule_42 : decode zm_M_readRule.2.1 42 = .ok (.aload_n 0, 1) := by decide +kernel
theorem dz_M_readRule_43 : decode zm_M_readRule.2.1 43 = .ok (.getfield 25, 3) := by decide +kernel
theorem dz_M_readRule_46 : decode zm_M_readRule.2.1 46 = .ok (.iconst 3, 1) := by decide +kernel
theorem dz_M_readRule_47 : decode zm_M_readRule.2.1 47 = .ok (.iload_n 1, 1) := by decide +kernel
theorem dz_M_readRule_48 : decode zm_M_readRule.2.1 48 = .ok (.imul, 1) := by decide +kernel
theorem dz_M_readRule_49 : decode zm_M_readRule.2.1 49 = .ok (.iconst 1, 1) := by decide +kernel
theorem dz_M_readRule_50 : decode zm_M_readRule.2.1 50 = .ok (.iadd, 1) := by decide +kernel
theorem dz_M_readRule_51 : decode zm_M_readRule.2.1 51 = .ok (.iload_n 2, 1) := by decide +kernel
theorem dz_M_readRule_52 : decode zm_M_readRule.2.1 52 = .ok (.iastore, 1) := by decide +kernel
theorem dz_M_readRule_53 : decode zm_M_readRule.2.1 53 = .ok (.aload_n 0, 1) := by decide +kernel
theorem dz_M_readRule_54 : decode zm_M_readRule.2.1 54 = .ok (.getfield 25, 3) := by decide +kernel
theorem dz_M_readRule_57 : decode zm_M_readRule.2.1 57 = .ok (.iconst 3, 1) := by decide +kernel
theorem dz_M_readRule_58 : decode zm_M_readRule.2.1 58 = .ok (.iload_n 1, 1) := by decide +kernel
theorem dz_M_readRule_59 : decode zm_M_readRule.2.1 59 = .ok (.imul, 1) := by decide +kernel
theorem dz_M_readRule_60 : decode zm_M_readRule.2.1 60 = .ok (.iconst 2, 1) := by decide +kernel
theorem dz_M_readRule_61 : decode zm_M_readRule.2.1 61 = .ok (.iadd, 1) := by decide +kernel
theorem dz_M_readRule_62 : decode zm_M_readRule.2.1 62 = .ok (.iload_n 2, 1) := by decide +kernel
theorem dz_M_readRule_63 : decode zm_M_readRule.2.1 63 = .ok (.iconst 4, 1) := by decide +kernel
theorem dz_M_readRule_64 : decode zm_M_readRule.2.1 64 = .ok (.if_icmp .ne 11, 3) := by decide +kernel
theorem dz_M_readRule_67 : decode zm_M_readRule.2.1 67 = .ok (.aload_n 0, 1) := by decide +kernel
theorem dz_M_readRule_68 : decode zm_M_readRule.2.1 68 = .ok (.iconst 0, 1) := by decide +kernel
theorem dz_M_readRule_69 : decode zm_M_readRule.2.1 69 = .ok (.invokevirtual 131, 3) := by decide +kernel
theorem dz_M_readRule_72 : decode zm_M_readRule.2.1 72 = .ok (.goto 24, 3) := by decide +kernel
theorem dz_M_readRule_75 : decode zm_M_readRule.2.1 75 = .ok (.aload_n 0, 1) := by decide +kernel
theorem dz_M_readRule_76 : decode zm_M_readRule.2.1 76 = .ok (.iload_n 2, 1) := by decide +kernel
theorem dz_M_readRule_77 : decode zm_M_readRule.2.1 77 = .ok (.iconst 1, 1) := by decide +kernel
theorem dz_M_readRule_78 : decode zm_M_readRule.2.1 78 = .ok (.if_icmp .ne 7, 3) := by decide +kernel
theorem dz_M_readRule_81 : decode zm_M_readRule.2.1 81 = .ok (.iconst 1, 1) := by decide +kernel
theorem dz_M_readRule_82 : decode zm_M_readRule.2.1 82 = .ok (.goto 4, 3) := by decide +kernel
theorem dz_M_readRule_85 : decode zm_M_readRule.2.1 85 = .ok (.iconst 0, 1) := by decide +kernel
theorem dz_M_readRule_86 : decode zm_M_readRule.2.1 86 = .ok (.aload_n 0, 1) := by decide +kernel
theorem dz_M_readRule_87 : decode zm_M_readRule.2.1 87 = .ok (.getfield 37, 3) := by decide +kernel
theorem dz_M_readRule_90 : decode zm_M_readRule.2.1 90 = .ok (.iload_n 2, 1) := by decide +kernel
theorem dz_M_readRule_91 : decode zm_M_readRule.2.1 91 = .ok (.iaload, 1) := by decide +kernel
theorem dz_M_readRule_92 : decode zm_M_readRule.2.1 92 = .ok (.iconst 0, 1) := by decide +kernel
theorem dz_M_readRule_93 : decode zm_M_readRule.2.1 93 = .ok (.invokevirtual 110, 3) := by decide +kernel
theorem dz_M_readRule_96 : decode zm_M_readRule.2.1 96 = .ok (.iastore, 1) := by decide +kernel
theorem dz_M_readRule_97 : decode zm_M_readRule.2.1 97 = .ok (.aload_n 0, 1) := by decide +kernel
theorem dz_M_readRule_98 : decode zm_M_readRule.2.1 98 = .ok (.invokevirtual 117, 3) := by decide +kernel
theorem dz_M_readRule_101 : decode zm_M_readRule.2.1 101 = .ok (.bipush 10, 2) := by decide +kernel
theorem dz_M_readRule_103 : decode zm_M_readRule.2.1 103 = .ok (.isub, 1) := by decide +kernel
theorem dz_M_readRule_104 : decode zm_M_readRule.2.1 104 = .ok (.istore_n 3, 1) := by decide +kernel
theorem dz_M_readRule_105 : decode zm_M_readRule.2.1 105 = .ok (.aload_n 0, 1) := by decide +kernel
theorem dz_M_readRule_106 : decode zm_M_readRule.2.1 106 = .ok (.getfield 73, 3) := by decide +kernel
theorem dz_M_readRule_109 : decode zm_M_readRule.2.1 109 = .ok (.ifCond .ne 12, 3) := by decide +kernel
theorem dz_M_readRule_112 : decode zm_M_readRule.2.1 112 = .ok (.iload_n 3, 1) := by decide +kernel
theorem dz_M_readRule_113 : decode zm_M_readRule.2.1 113 = .ok (.ifCond .ge 8, 3) := by decide +kernel
theorem dz_M_readRule_116 : decode zm_M_readRule.2.1 116 = .ok (.aload_n 0, 1) := by decide +kernel
theorem dz_M_readRule_117 : decode zm_M_readRule.2.1 117 = .ok (.iconst 2, 1) := by decide +kernel
theorem dz_M_readRule_118 : decode zm_M_readRule.2.1 118 = .ok (.invokevirtual 103, 3) := by decide +kernel
theorem dz_M_readRule_121 : decode zm_M_readRule.2.1 121 = .ok (.aload_n 0, 1) := by decide +kernel
theorem dz_M_readRule_122 : decode zm_M_readRule.2.1 122 = .ok (.getfield 19, 3) := by decide +kernel
theorem dz_M_readRule_125 : decode zm_M_readRule.2.1 125 = .ok (.bipush 23, 2) := by decide +kernel
theorem dz_M_readRule_127 : decode zm_M_readRule.2.1 127 = .ok (.iload_n 1, 1) := by decide +kernel
theorem dz_M_readRule_128 : decode zm_M_readRule.2.1 128 = .ok (.iadd, 1) := by decide +kernel
theorem dz_M_readRule_129 : decode zm_M_readRule.2.1 129 = .ok (.iload_n 3, 1) := by decide +kernel
theorem dz_M_readRule_130 : decode zm_M_readRule.2.1 130 = .ok (.iastore, 1) := by decide +kernel
theorem dz_M_readRule_131 : decode zm_M_readRule.2.1 131 = .ok (.aload_n 0, 1) := by decide +kernel
theorem dz_M_readRule_132 : decode zm_M_readRule.2.1 132 = .ok (.invokevirtual 107, 3) := by decide +kernel
theorem dz_M_readRule_135 : decode zm_M_readRule.2.1 135 = .ok (.aload_n 0, 1) := by decide +kernel
theorem dz_M_readRule_136 : decode zm_M_readRule.2.1 136 = .ok (.dup, 1) := by decide +kernel
theorem dz_M_readRule_137 : decode zm_M_readRule.2.1 137 = .ok (.getfield 125, 3) := by decide +kernel
theorem dz_M_readRule_140 : decode zm_M_readRule.2.1 140 = .ok (.iconst 1, 1) := by decide +kernel
theorem dz_M_readRule_141 : decode zm_M_readRule.2.1 141 = .ok (.iadd, 1) := by decide +kernel
theorem dz_M_readRule_142 : decode zm_M_readRule.2.1 142 = .ok (.putfield 125, 3) := by decide +kernel
theorem dz_M_readRule_145 : decode zm_M_readRule.2.1 145 = .ok (.return_, 1) := by decide +kernel
theorem dz_M_readMore_0 : decode zm_M_readMore.2.1 0 = .ok (.iload_n 1, 1) := by decide +kernel
theorem dz_M_readMore_1 : decode zm_M_readMore.2.1 1 = .ok (.ifCond .ne 64, 3) := by decide +kernel
theorem dz_M_readMore_4 : decode zm_M_readMore.2.1 4 = .ok (.aload_n 0, 1) := by decide +kernel
theorem dz_M_readMore_5 : decode zm_M_readMore.2.1 5 = .ok (.getfield 22, 3) := by decide +kernel
theorem dz_M_readMore_8 : decode zm_M_readMore.2.1 8 = .ok (.aload_n 0, 1) := by decide +kernel
theorem dz_M_readMore_9 : decode zm_M_readMore.2.1 9 = .ok (.getfield 134, 3) := by decide +kernel
theorem dz_M_readMore_12 : decode zm_M_readMore.2.1 12 = .ok (.iconst 0, 1) := by decide +kernel
theorem dz_M_readMore_13 : decode zm_M_readMore.2.1 13 = .ok (.iastore, 1) := by decide +kernel
theorem dz_M_readMore_14 : decode zm_M_readMore.2.1 14 = .ok (.aload_n 0, 1) := by decide +kernel
theorem dz_M_readMore_15 : decode zm_M_readMore.2.1 15 = .ok (.getfield 73, 3) := by decide +kernel
theorem dz_M_readMore_18 : decode zm_M_readMore.2.1 18 = .ok (.ifCond .ne 34, 3) := by decide +kernel
theorem dz_M_readMore_21 : decode zm_M_readMore.2.1 21 = .ok (.aload_n 0, 1) := by decide +kernel
theorem dz_M_readMore_22 : decode zm_M_readMore.2.1 22 = .ok (.getfield 82, 3) := by decide +kernel
theorem dz_M_readMore_25 : decode zm_M_readMore.2.1 25 = .ok (.iconst 2, 1) := by decide +kernel
theorem dz_M_readMore_26 : decode zm_M_readMore.2.1 26 = .ok (.if_icmp .ne 26, 3) := by decide +kernel
theorem dz_M_readMore_29 : decode zm_M_readMore.2.1 29 = .ok (.aload_n 0, 1) := by decide +kernel
theorem dz_M_readMore_30 : decode zm_M_readMore.2.1 30 = .ok (.getfield 22, 3) := by decide +kernel
theorem dz_M_readMore_33 : decode zm_M_readMore.2.1 33 = .ok (.aload_n 0, 1) := by decide +kernel
theorem dz_M_readMore_34 : decode zm_M_readMore.2.1 34 = .ok (.getfield 134, 3) := by decide +kernel
theorem dz_M_readMore_37 : decode zm_M_readMore.2.1 37 = .ok (.aload_n 0, 1) := by decide +kernel
theorem dz_M_readMore_38 : decode zm_M_readMore.2.1 38 = .ok (.iconst 0, 1) := by decide +kernel
theorem dz_M_readMore_39 : decode zm_M_readMore.2.1 39 = .ok (.aload_n 0, 1) := by decide +kernel
theorem dz_M_readMore_40 : decode zm_M_readMore.2.1 40 = .ok (.getfield 134, 3) := by decide +kernel
theorem dz_M_readMore_43 : decode zm_M_readMore.2.1 43 = .ok (.iconst 1, 1) := by decide +kernel
theorem dz_M_readMore_44 : decode zm_M_readMore.2.1 44 = .ok (.isub, 1) := by decide +kernel
theorem dz_M_readMore_45 : decode zm_M_readMore.2.1 45 = .ok (.iconst 0, 1) := by decide +kernel
theorem dz_M_readMore_46 : decode zm_M_readMore.2.1 46 = .ok (.invokevirtual 110, 3) := by decide +kernel
theorem dz_M_readMore_49 : decode zm_M_readMore.2.1 49 = .ok (.iconst 1, 1) := by decide +kernel
theorem dz_M_readMore_50 : decode zm_M_readMore.2.1 50 = .ok (.iadd, 1) := by decide +kernel
theorem dz_M_readMore_51 : decode zm_M_readMore.2.1 51 = .ok (.iastore, 1) := by decide +kernel
theorem dz_M_readMore_52 : decode zm_M_readMore.2.1 52 = .ok (.aload_n 0, 1) := by decide +kernel
theorem dz_M_readMore_53 : decode zm_M_readMore.2.1 53 = .ok (.dup, 1) := by decide +kernel
theorem dz_M_readMore_54 : decode zm_M_readMore.2.1 54 = .ok (.getfield 134, 3) := by decide +kernel
theorem dz_M_readMore_57 : decode zm_M_readMore.2.1 57 = .ok (.iconst 1, 1) := by decide +kernel
theorem dz_M_readMore_58 : decode zm_M_readMore.2.1 58 = .ok (.iadd, 1) := by decide +kernel
theorem dz_M_readMore_59 : decode zm_M_readMore.2.1 59 = .ok (.putfield 134, 3) := by decide +kernel
theorem dz_M_readMore_62 : decode zm_M_readMore.2.1 62 = .ok (.goto 125, 3) := by decide +kernel
theorem dz_M_readMore_65 : decode zm_M_readMore.2.1 65 = .ok (.iload_n 1, 1) := by decide +kernel
theorem dz_M_readMore_66 : decode zm_M_readMore.2.1 66 = .ok (.iconst 1, 1) := by decide +kernel
theorem dz_M_readMore_67 : decode zm_M_readMore.2.1 67 = .ok (.if_icmp .ne 35, 3) := by decide +kernel
theorem dz_M_readMore_70 : decode zm_M_readMore.2.1 70 = .ok (.aload_n 0, 1) := by decide +kernel
theorem dz_M_readMore_71 : decode zm_M_readMore.2.1 71 = .ok (.iconst 0, 1) := by decide +kernel
theorem dz_M_readMore_72 : decode zm_M_readMore.2.1 72 = .ok (.invokevirtual 131, 3) := by decide +kernel
theorem dz_M_readMore_75 : decode zm_M_readMore.2.1 75 = .ok (.istore_n 2, 1) := by decide +kernel
theorem dz_M_readMore_76 : decode zm_M_readMore.2.1 76 = .ok (.aload_n 0, 1) := by decide +kernel
theorem dz_M_readMore_77 : decode zm_M_readMore.2.1 77 = .ok (.getfield 19, 3) := by decide +kernel
theorem dz_M_readMore_80 : decode zm_M_readMore.2.1 80 = .ok (.iload_n 2, 1) := by decide +kernel
theorem dz_M_readMore_81 : decode zm_M_readMore.2.1 81 = .ok (.dup2, 1) := by decide +kernel
theorem dz_M_readMore_82 : decode zm_M_readMore.2.1 82 = .ok (.iaload, 1) := by decide +kernel
theorem dz_M_readMore_83 : decode zm_M_readMore.2.1 83 = .ok (.iconst 1, 1) := by decide +kernel
theorem dz_M_readMore_84 : decode zm_M_readMore.2.1 84 = .ok (.aload_n 0, 1) := by decide +kernel
theorem dz_M_readMore_85 : decode zm_M_readMore.2.1 85 = .ok (.iconst 0, 1) := by decide +kernel
theorem dz_M_readMore_86 : decode zm_M_readMore.2.1 86 = .ok (.iconst 4, 1) := by decide +kernel
theorem dz_M_readMore_87 : decode zm_M_readMore.2.1 87 = .ok (.aload_n 0, 1) := by decide +kernel
theorem dz_M_readMore_88 : decode zm_M_readMore.2.1 88 = .ok (.getfield 19, 3) := by decide +kernel
theorem dz_M_readMore_91 : decode zm_M_readMore.2.1 91 = .ok (.iload_n 2, 1) := by decide +kernel
theorem dz_M_readMore_92 : decode zm_M_readMore.2.1 92 = .ok (.iaload, 1) := by decide +kernel
theorem dz_M_readMore_93 : decode zm_M_readMore.2.1 93 = .ok (.invokevirtual 110, 3) := by decide +kernel
theorem dz_M_readMore_96 : decode zm_M_readMore.2.1 96 = .ok (.ishl, 1) := by decide +kernel
theorem dz_M_readMore_97 : decode zm_M_readMore.2.1 97 = .ok (.ior, 1) := by decide +kernel
theorem dz_M_readMore_98 : decode zm_M_readMore.2.1 98 = .ok (.iastore, 1) := by decide +kernel
theorem dz_M_readMore_99 : decode zm_M_readMore.2.1 99 = .ok (.goto 88, 3) := by decide +kernel
theorem dz_M_readMore_102 : decode zm_M_readMore.2.1 102 = .ok (.iload_n 1, 1) := by decide +kernel
theorem dz_M_readMore_103 : decode zm_M_readMore.2.1 103 = .ok (.iconst 2, 1) := by decide +kernel
theorem dz_M_readMore_104 : decode zm_M_readMore.2.1 104 = .ok (.if_icmp .ne 29, 3) := by decide +kernel
theorem dz_M_readMore_107 : decode zm_M_readMore.2.1 107 = .ok (.aload_n 0, 1) := by decide +kernel
theorem dz_M_readMore_108 : decode zm_M_readMore.2.1 108 = .ok (.getfield 19, 3) := by decide +kernel
theorem dz_M_readMore_111 : decode zm_M_readMore.2.1 111 = .ok (.bipush 12, 2) := by decide +kernel
theorem dz_M_readMore_113 : decode zm_M_readMore.2.1 113 = .ok (.dup2, 1) := by decide +kernel
theorem dz_M_readMore_114 : decode zm_M_readMore.2.1 114 = .ok (.iaload, 1) := by decide +kernel
theorem dz_M_readMore_115 : decode zm_M_readMore.2.1 115 = .ok (.iconst 1, 1) := by decide +kernel
theorem dz_M_readMore_116 : decode zm_M_readMore.2.1 116 = .ok (.aload_n 0, 1) := by decide +kernel
theorem dz_M_readMore_117 : decode zm_M_readMore.2.1 117 = .ok (.aload_n 0, 1) := by decide +kernel
theorem dz_M_readMore_118 : decode zm_M_readMore.2.1 118 = .ok (.getfield 19, 3) := by decide +kernel
theorem dz_M_readMore_121 : decode zm_M_readMore.2.1 121 = .ok (.bipush 12, 2) := by decide +kernel
theorem dz_M_readMore_123 : decode zm_M_readMore.2.1 123 = .ok (.iaload, 1) := by decide +kernel
theorem dz_M_readMore_124 : decode zm_M_readMore.2.1 124 = .ok (.invokevirtual 131, 3) := by decide +kernel
theorem dz_M_readMore_127 : decode zm_M_readMore.2.1 127 = .ok (.ishl, 1) := by decide +kernel
theorem dz_M_readMore_128 : decode zm_M_readMore.2.1 128 = .ok (.ior, 1) := by decide +kernel
theorem dz_M_readMore_129 : decode zm_M_readMore.2.1 129 = .ok (.iastore, 1) := by decide +kernel
theorem dz_M_readMore_130 : decode zm_M_readMore.2.1 130 = .ok (.goto 57, 3) := by decide +kernel
theorem dz_M_readMore_133 : decode zm_M_readMore.2.1 133 = .ok (.iload_n 1, 1) := by decide +kernel
theorem dz_M_readMore_134 : decode zm_M_readMore.2.1 134 = .ok (.iconst 3, 1) := by decide +kernel
theorem dz_M_readMore_135 : decode zm_M_readMore.2.1 135 = .ok (.if_icmp .ne 48, 3) := by decide +kernel
theorem dz_M_readMore_138 : decode zm_M_readMore.2.1 138 = .ok (.aload_n 0, 1) := by decide +kernel
theorem dz_M_readMore_139 : decode zm_M_readMore.2.1 139 = .ok (.iconst 0, 1) := by decide +kernel
theorem dz_M_readMore_140 : decode zm_M_readMore.2.1 140 = .ok (.iconst 4, 1) := by decide +kernel
theorem dz_M_readMore_141 : decode zm_M_readMore.2.1 141 = .ok (.aload_n 0, 1) := by decide +kernel
theorem dz_M_readMore_142 : decode zm_M_readMore.2.1 142 = .ok (.getfield 137, 3) := by decide +kernel
theorem dz_M_readMore_145 : decode zm_M_readMore.2.1 145 = .ok (.invokevirtual 110, 3) := by decide +kernel
theorem dz_M_readMore_148 : decode zm_M_readMore.2.1 148 = .ok (.istore_n 2, 1) := by decide +kernel
theorem dz_M_readMore_149 : decode zm_M_readMore.2.1 149 = .ok (.aload_n 0, 1) := by decide +kernel
theorem dz_M_readMore_150 : decode zm_M_readMore.2.1 150 = .ok (.dup, 1) := by decide +kernel
theorem dz_M_readMore_151 : decode zm_M_readMore.2.1 151 = .ok (.getfield 137, 3) := by decide +kernel
theorem dz_M_readMore_154 : decode zm_M_readMore.2.1 154 = .ok (.iconst 1, 1) := by decide +kernel
theorem dz_M_readMore_155 : decode zm_M_readMore.2.1 155 = .ok (.iload_n 2, 1) := by decide +kernel
theorem dz_M_readMore_156 : decode zm_M_readMore.2.1 156 = .ok (.ishl, 1) := by decide +kernel
theorem dz_M_readMore_157 : decode zm_M_readMore.2.1 157 = .ok (.ior, 1) := by decide +kernel
theorem dz_M_readMore_158 : decode zm_M_readMore.2.1 158 = .ok (.putfield 137, 3) := by decide +kernel
theorem dz_M_readMore_161 : decode zm_M_readMore.2.1 161 = .ok (.aload_n 0, 1) := by decide +kernel
theorem dz_M_readMore_162 : decode zm_M_readMore.2.1 162 = .ok (.getfield 19, 3) := by decide +kernel
theorem dz_M_readMore_165 : decode zm_M_readMore.2.1 165 = .ok (.bipush 13, 2) := by decide +kernel
theorem dz_M_readMore_167 : decode zm_M_readMore.2.1 167 = .ok (.iload_n 2, 1) := by decide +kernel
theorem dz_M_readMore_168 : decode zm_M_readMore.2.1 168 = .ok (.iadd, 1) := by decide +kernel
theorem dz_M_readMore_169 : decode zm_M_readMore.2.1 169 = .ok (.aload_n 0, 1) := by decide +kernel
theorem dz_M_readMore_170 : decode zm_M_readMore.2.1 170 = .ok (.iconst 0, 1) := by decide +kernel
theorem dz_M_readMore_171 : decode zm_M_readMore.2.1 171 = .ok (.bipush 10, 2) := by decide +kernel
theorem dz_M_readMore_173 : decode zm_M_readMore.2.1 173 = .ok (.iconst 0, 1) := by decide +kernel
theorem dz_M_readMore_174 : decode zm_M_readMore.2.1 174 = .ok (.invokevirtual 110, 3) := by decide +kernel
theorem dz_M_readMore_177 : decode zm_M_readMore.2.1 177 = .ok (.iconst 5, 1) := by decide +kernel
theorem dz_M_readMore_178 : decode zm_M_readMore.2.1 178 = .ok (.isub, 1) := by decide +kernel
theorem dz_M_readMore_179 : decode zm_M_readMore.2.1 179 = .ok (.iastore, 1) := by decide +kernel
theorem dz_M_readMore_180 : decode zm_M_readMore.2.1 180 = .ok (.goto 7, 3) := by decide +kernel
theorem dz_M_readMore_183 : decode zm_M_readMore.2.1 183 = .ok (.aload_n 0, 1) := by decide +kernel
theorem dz_M_readMore_184 : decode zm_M_readMore.2.1 184 = .ok (.invokevirtual 140, 3) := by decide +kernel
theorem dz_M_readMore_187 : decode zm_M_readMore.2.1 187 = .ok (.return_, 1) := by decide +kernel
theorem dz_M_readLine_0 : decode zm_M_readLine.2.1 0 = .ok (.aload_n 0, 1) := by decide +kernel
theorem dz_M_readLine_1 : decode zm_M_readLine.2.1 1 = .ok (.invokevirtual 117, 3) := by decide +kernel
theorem dz_M_readLine_4 : decode zm_M_readLine.2.1 4 = .ok (.istore_n 1, 1) := by decide +kernel
theorem dz_M_readLine_5 : decode zm_M_readLine.2.1 5 = .ok (.iload_n 1, 1) := by decide +kernel
theorem dz_M_readLine_6 : decode zm_M_readLine.2.1 6 = .ok (.i2l, 1) := by decide +kernel
theorem dz_M_readLine_7 : decode zm_M_readLine.2.1 7 = .ok (.lconst 0, 1) := by decide +kernel
theorem dz_M_readLine_8 : decode zm_M_readLine.2.1 8 = .ok (.ldc2_w 143, 3) := by decide +kernel
theorem dz_M_readLine_11 : decode zm_M_readLine.2.1 11 = .ok (.invokestatic 65, 3) := by decide +kernel
theorem dz_M_readLine_14 : decode zm_M_readLine.2.1 14 = .ok (.ifCond .ne 9, 3) := by decide +kernel
theorem dz_M_readLine_17 : decode zm_M_readLine.2.1 17 = .ok (.aload_n 0, 1) := by decide +kernel
theorem dz_M_readLine_18 : decode zm_M_readLine.2.1 18 = .ok (.iconst 2, 1) := by decide +kernel
theorem dz_M_readLine_19 : decode zm_M_readLine.2.1 19 = .ok (.invokevirtual 103, 3) := by decide +kernel
theorem dz_M_readLine_22 : decode zm_M_readLine.2.1 22 = .ok (.return_, 1) := by decide +kernel
theorem dz_M_readLine_23 : decode zm_M_readLine.2.1 23 = .ok (.iload_n 1, 1) := by decide +kernel
theorem dz_M_readLine_24 : decode zm_M_readLine.2.1 24 = .ok (.ifCond .ne 12, 3) := by decide +kernel
theorem dz_M_readLine_27 : decode zm_M_readLine.2.1 27 = .ok (.aload_n 0, 1) := by decide +kernel
theorem dz_M_readLine_28 : decode zm_M_readLine.2.1 28 = .ok (.getfield 134, 3) := by decide +kernel
theorem dz_M_readLine_31 : decode zm_M_readLine.2.1 31 = .ok (.bipush 6, 2) := by decide +kernel
theorem dz_M_readLine_33 : decode zm_M_readLine.2.1 33 = .ok (.if_icmp .eq 16, 3) := by decide +kernel
theorem dz_M_readLine_36 : decode zm_M_readLine.2.1 36 = .ok (.iload_n 1, 1) := by decide +kernel
theorem dz_M_readLine_37 : decode zm_M_readLine.2.1 37 = .ok (.iconst 4, 1) := by decide +kernel
theorem dz_M_readLine_38 : decode zm_M_readLine.2.1 38 = .ok (.if_icmp .ne 16, 3) := by decide +kernel
theorem dz_M_readLine_41 : decode zm_M_readLine.2.1 41 = .ok (.aload_n 0, 1) := by decide +kernel
theorem dz_M_readLine_42 : decode zm_M_readLine.2.1 42 = .ok (.getfield 125, 3) := by decide +kernel
theorem dz_M_readLine_45 : decode zm_M_readLine.2.1 45 = .ok (.iconst 5, 1) := by decide +kernel
theorem dz_M_readLine_46 : decode zm_M_readLine.2.1 46 = .ok (.if_icmp .ne 8, 3) := by decide +kernel
theorem dz_M_readLine_49 : decode zm_M_readLine.2.1 49 = .ok (.aload_n 0, 1) := by decide +kernel
theorem dz_M_readLine_50 : decode zm_M_readLine.2.1 50 = .ok (.iconst 5, 1) := by decide +kernel
theorem dz_M_readLine_51 : decode zm_M_readLine.2.1 51 = .ok (.invokevirtual 103, 3) := by decide +kernel
theorem dz_M_readLine_54 : decode zm_M_readLine.2.1 54 = .ok (.aload_n 0, 1) := by decide +kernel
theorem dz_M_readLine_55 : decode zm_M_readLine.2.1 55 = .ok (.invokevirtual 107, 3) := by decide +kernel
theorem dz_M_readLine_58 : decode zm_M_readLine.2.1 58 = .ok (.aload_n 0, 1) := by decide +kernel
theorem dz_M_readLine_59 : decode zm_M_readLine.2.1 59 = .ok (.getfield 73, 3) := by decide +kernel
theorem dz_M_readLine_62 : decode zm_M_readLine.2.1 62 = .ok (.ifCond .le 4, 3) := by decide +kernel
theorem dz_M_readLine_65 : decode zm_M_readLine.2.1 65 = .ok (.return_, 1) := by decide +kernel
theorem dz_M_readLine_66 : decode zm_M_readLine.2.1 66 = .ok (.aload_n 0, 1) := by decide +kernel
theorem dz_M_readLine_67 : decode zm_M_readLine.2.1 67 = .ok (.iload_n 1, 1) := by decide +kernel
theorem dz_M_readLine_68 : decode zm_M_readLine.2.1 68 = .ok (.invokevirtual 145, 3) := by decide +kernel
theorem dz_M_readLine_71 : decode zm_M_readLine.2.1 71 = .ok (.aload_n 0, 1) := by decide +kernel
theorem dz_M_readLine_72 : decode zm_M_readLine.2.1 72 = .ok (.getfield 73, 3) := by decide +kernel
theorem dz_M_readLine_75 : decode zm_M_readLine.2.1 75 = .ok (.ifCond .ne 16, 3) := by decide +kernel
theorem dz_M_readLine_78 : decode zm_M_readLine.2.1 78 = .ok (.aload_n 0, 1) := by decide +kernel
theorem dz_M_readLine_79 : decode zm_M_readLine.2.1 79 = .ok (.getfield 82, 3) := by decide +kernel
theorem dz_M_readLine_82 : decode zm_M_readLine.2.1 82 = .ok (.iconst 3, 1) := by decide +kernel
theorem dz_M_readLine_83 : decode zm_M_readLine.2.1 83 = .ok (.if_icmp .eq 8, 3) := by decide +kernel
theorem dz_M_readLine_86 : decode zm_M_readLine.2.1 86 = .ok (.aload_n 0, 1) := by decide +kernel
theorem dz_M_readLine_87 : decode zm_M_readLine.2.1 87 = .ok (.iconst 2, 1) := by decide +kernel
theorem dz_M_readLine_88 : decode zm_M_readLine.2.1 88 = .ok (.invokevirtual 103, 3) := by decide +kernel
theorem dz_M_readLine_91 : decode zm_M_readLine.2.1 91 = .ok (.aload_n 0, 1) := by decide +kernel
theorem dz_M_readLine_92 : decode zm_M_readLine.2.1 92 = .ok (.invokevirtual 107, 3) := by decide +kernel
theorem dz_M_readLine_95 : decode zm_M_readLine.2.1 95 = .ok (.return_, 1) := by decide +kernel
theorem dz_M_areAlike_0 : decode zm_M_areAlike.2.1 0 = .ok (.iconst 0, 1) := by decide +kernel
theorem dz_M_areAlike_1 : decode zm_M_areAlike.2.1 1 = .ok (.istore_n 1, 1) := by decide +kernel
theorem dz_M_areAlike_2 : decode zm_M_areAlike.2.1 2 = .ok (.iconst 0, 1) := by decide +kernel
theorem dz_M_areAlike_3 : decode zm_M_areAlike.2.1 3 = .ok (.istore_n 2, 1) := by decide +kernel
theorem dz_M_areAlike_4 : decode zm_M_areAlike.2.1 4 = .ok (.iload_n 2, 1) := by decide +kernel
theorem dz_M_areAlike_5 : decode zm_M_areAlike.2.1 5 = .ok (.aload_n 0, 1) := by decide +kernel
theorem dz_M_areAlike_6 : decode zm_M_areAlike.2.1 6 = .ok (.getfield 125, 3) := by decide +kernel
theorem dz_M_areAlike_9 : decode zm_M_areAlike.2.1 9 = .ok (.if_icmp .ge 77, 3) := by decide +kernel
theorem dz_M_areAlike_12 : decode zm_M_areAlike.2.1 12 = .ok (.iload_n 2, 1) := by decide +kernel
theorem dz_M_areAlike_13 : decode zm_M_areAlike.2.1 13 = .ok (.iconst 1, 1) := by decide +kernel
theorem dz_M_areAlike_14 : decode zm_M_areAlike.2.1 14 = .ok (.iadd, 1) := by decide +kernel
theorem dz_M_areAlike_15 : decode zm_M_areAlike.2.1 15 = .ok (.istore_n 3, 1) := by decide +kernel
theorem dz_M_areAlike_16 : decode zm_M_areAlike.2.1 16 = .ok (.iload_n 3, 1) := by decide +kernel
theorem dz_M_areAlike_17 : decode zm_M_areAlike.2.1 17 = .ok (.aload_n 0, 1) := by decide +kernel
theorem dz_M_areAlike_18 : decode zm_M_areAlike.2.1 18 = .ok (.getfield 125, 3) := by decide +kernel
theorem dz_M_areAlike_21 : decode zm_M_areAlike.2.1 21 = .ok (.if_icmp .ge 59, 3) := by decide +kernel
theorem dz_M_areAlike_24 : decode zm_M_areAlike.2.1 24 = .ok (.iload_n 1, 1) := by decide +kernel
theorem dz_M_areAlike_25 : decode zm_M_areAlike.2.1 25 = .ok (.ifCond .ne 43, 3) := by decide +kernel
theorem dz_M_areAlike_28 : decode zm_M_areAlike.2.1 28 = .ok (.aload_n 0, 1) := by decide +kernel
theorem dz_M_areAlike_29 : decode zm_M_areAlike.2.1 29 = .ok (.getfield 25, 3) := by decide +kernel
theorem dz_M_areAlike_32 : decode zm_M_areAlike.2.1 32 = .ok (.iconst 3, 1) := by decide +kernel
theorem dz_M_areAlike_33 : decode zm_M_areAlike.2.1 33 = .ok (.iload_n 2, 1) := by decide +kernel
theorem dz_M_areAlike_34 : decode zm_M_areAlike.2.1 34 = .ok (.imul, 1) := by decide +kernel
theorem dz_M_areAlike_35 : decode zm_M_areAlike.2.1 35 = .ok (.iaload, 1) := by decide +kernel
theorem dz_M_areAlike_36 : decode zm_M_areAlike.2.1 36 = .ok (.aload_n 0, 1) := by decide +kernel
theorem dz_M_areAlike_37 : decode zm_M_areAlike.2.1 37 = .ok (.getfield 25, 3) := by decide +kernel
theorem dz_M_areAlike_40 : decode zm_M_areAlike.2.1 40 = .ok (.iconst 3, 1) := by decide +kernel
theorem dz_M_areAlike_41 : decode zm_M_areAlike.2.1 41 = .ok (.iload_n 3, 1) := by decide +kernel
theorem dz_M_areAlike_42 : decode zm_M_areAlike.2.1 42 = .ok (.imul, 1) := by decide +kernel
theorem dz_M_areAlike_43 : decode zm_M_areAlike.2.1 43 = .ok (.iaload, 1) := by decide +kernel
theorem dz_M_areAlike_44 : decode zm_M_areAlike.2.1 44 = .ok (.if_icmp .ne 28, 3) := by decide +kernel
theorem dz_M_areAlike_47 : decode zm_M_areAlike.2.1 47 = .ok (.aload_n 0, 1) := by decide +kernel
theorem dz_M_areAlike_48 : decode zm_M_areAlike.2.1 48 = .ok (.getfield 19, 3) := by decide +kernel
theorem dz_M_areAlike_51 : decode zm_M_areAlike.2.1 51 = .ok (.bipush 18, 2) := by decide +kernel
theorem dz_M_areAlike_53 : decode zm_M_areAlike.2.1 53 = .ok (.iload_n 2, 1) := by decide +kernel
theorem dz_M_areAlike_54 : decode zm_M_areAlike.2.1 54 = .ok (.iadd, 1) := by decide +kernel
theorem dz_M_areAlike_55 : decode zm_M_areAlike.2.1 55 = .ok (.iaload, 1) := by decide +kernel
theorem dz_M_areAlike_56 : decode zm_M_areAlike.2.1 56 = .ok (.aload_n 0, 1) := by decide +kernel
theorem dz_M_areAlike_57 : decode zm_M_areAlike.2.1 57 = .ok (.getfield 19, 3) := by decide +kernel
theorem dz_M_areAlike_60 : decode zm_M_areAlike.2.1 60 = .ok (.bipush 18, 2) := by decide +kernel
theorem dz_M_areAlike_62 : decode zm_M_areAlike.2.1 62 = .ok (.iload_n 3, 1) := by decide +kernel
theorem dz_M_areAlike_63 : decode zm_M_areAlike.2.1 63 = .ok (.iadd, 1) := by decide +kernel
theorem dz_M_areAlike_64 : decode zm_M_areAlike.2.1 64 = .ok (.iaload, 1) := by decide +kernel
theorem dz_M_areAlike_65 : decode zm_M_areAlike.2.1 65 = .ok (.if_icmp .ne 7, 3) := by decide +kernel
theorem dz_M_areAlike_68 : decode zm_M_areAlike.2.1 68 = .ok (.iconst 1, 1) := by decide +kernel
theorem dz_M_areAlike_69 : decode zm_M_areAlike.2.1 69 = .ok (.goto 4, 3) := by decide +kernel
theorem dz_M_areAlike_72 : decode zm_M_areAlike.2.1 72 = .ok (.iconst 0, 1) := by decide +kernel
theorem dz_M_areAlike_73 : decode zm_M_areAlike.2.1 73 = .ok (.istore_n 1, 1) := by decide +kernel
theorem dz_M_areAlike_74 : decode zm_M_areAlike.2.1 74 = .ok (.iinc 3 1, 3) := by decide +kernel
theorem dz_M_areAlike_77 : decode zm_M_areAlike.2.1 77 = .ok (.goto (-61), 3) := by decide +kernel
theorem dz_M_areAlike_80 : decode zm_M_areAlike.2.1 80 = .ok (.iinc 2 1, 3) := by decide +kernel
theorem dz_M_areAlike_83 : decode zm_M_areAlike.2.1 83 = .ok (.goto (-79), 3) := by decide +kernel
theorem dz_M_areAlike_86 : decode zm_M_areAlike.2.1 86 = .ok (.iload_n 1, 1) := by decide +kernel
theorem dz_M_areAlike_87 : decode zm_M_areAlike.2.1 87 = .ok (.ireturn, 1) := by decide +kernel
theorem dz_M_text_0 : decode zm_M_text.2.1 0 = .ok (.aload_n 0, 1) := by decide +kernel
theorem dz_M_text_1 : decode zm_M_text.2.1 1 = .ok (.iconst 0, 1) := by decide +kernel
theorem dz_M_text_2 : decode zm_M_text.2.1 2 = .ok (.putfield 73, 3) := by decide +kernel
theorem dz_M_text_5 : decode zm_M_text.2.1 5 = .ok (.aload_n 0, 1) := by decide +kernel
theorem dz_M_text_6 : decode zm_M_text.2.1 6 = .ok (.iconst 0, 1) := by decide +kernel
theorem dz_M_text_7 : decode zm_M_text.2.1 7 = .ok (.putfield 85, 3) := by decide +kernel
theorem dz_M_text_10 : decode zm_M_text.2.1 10 = .ok (.aload_n 0, 1) := by decide +kernel
theorem dz_M_text_11 : decode zm_M_text.2.1 11 = .ok (.iconst 0, 1) := by decide +kernel
theorem dz_M_text_12 : decode zm_M_text.2.1 12 = .ok (.putfield 134, 3) := by decide +kernel
theorem dz_M_text_15 : decode zm_M_text.2.1 15 = .ok (.aload_n 0, 1) := by decide +kernel
theorem dz_M_text_16 : decode zm_M_text.2.1 16 = .ok (.iconst 0, 1) := by decide +kernel
theorem dz_M_text_17 : decode zm_M_text.2.1 17 = .ok (.putfield 125, 3) := by decide +kernel
theorem dz_M_text_20 : decode zm_M_text.2.1 20 = .ok (.aload_n 0, 1) := by decide +kernel
theorem dz_M_text_21 : decode zm_M_text.2.1 21 = .ok (.iconst 0, 1) := by decide +kernel
theorem dz_M_text_22 : decode zm_M_text.2.1 22 = .ok (.putfield 137, 3) := by decide +kernel
theorem dz_M_text_25 : decode zm_M_text.2.1 25 = .ok (.aload_n 0, 1) := by decide +kernel
theorem dz_M_text_26 : decode zm_M_text.2.1 26 = .ok (.iconst (-1), 1) := by decide +kernel
theorem dz_M_text_27 : decode zm_M_text.2.1 27 = .ok (.putfield 114, 3) := by decide +kernel
theorem dz_M_text_30 : decode zm_M_text.2.1 30 = .ok (.iconst 0, 1) := by decide +kernel
theorem dz_M_text_31 : decode zm_M_text.2.1 31 = .ok (.istore_n 1, 1) := by decide +kernel
theorem dz_M_text_32 : decode zm_M_text.2.1 32 = .ok (.iconst 0, 1) := by decide +kernel
theorem dz_M_text_33 : decode zm_M_text.2.1 33 = .ok (.istore_n 2, 1) := by decide +kernel
theorem dz_M_text_34 : decode zm_M_text.2.1 34 = .ok (.iload_n 2, 1) := by decide +kernel
theorem dz_M_text_35 : decode zm_M_text.2.1 35 = .ok (.bipush 28, 2) := by decide +kernel
theorem dz_M_text_37 : decode zm_M_text.2.1 37 = .ok (.if_icmp .ge 16, 3) := by decide +kernel
theorem dz_M_text_40 : decode zm_M_text.2.1 40 = .ok (.aload_n 0, 1) := by decide +kernel
theorem dz_M_text_41 : decode zm_M_text.2.1 41 = .ok (.getfield 19, 3) := by decide +kernel
theorem dz_M_text_44 : decode zm_M_text.2.1 44 = .ok (.iload_n 2, 1) := by decide +kernel
theorem dz_M_text_45 : decode zm_M_text.2.1 45 = .ok (.iconst 0, 1) := by decide +kernel
theorem dz_M_text_46 : decode zm_M_text.2.1 46 = .ok (.iastore, 1) := by decide +kernel
theorem dz_M_text_47 : decode zm_M_text.2.1 47 = .ok (.iinc 2 1, 3) := by decide +kernel
theorem dz_M_text_50 : decode zm_M_text.2.1 50 = .ok (.goto (-16), 3) := by decide +kernel
theorem dz_M_text_53 : decode zm_M_text.2.1 53 = .ok (.aload_n 0, 1) := by decide +kernel
theorem dz_M_text_54 : decode zm_M_text.2.1 54 = .ok (.invokevirtual 107, 3) := by decide +kernel
theorem dz_M_text_57 : decode zm_M_text.2.1 57 = .ok (.aload_n 0, 1) := by decide +kernel
theorem dz_M_text_58 : decode zm_M_text.2.1 58 = .ok (.getfield 73, 3) := by decide +kernel
theorem dz_M_text_61 : decode zm_M_text.2.1 61 = .ok (.ifCond .ne 20, 3) := by decide +kernel
theorem dz_M_text_64 : decode zm_M_text.2.1 64 = .ok (.aload_n 0, 1) := by decide +kernel
theorem dz_M_text_65 : decode zm_M_text.2.1 65 = .ok (.getfield 82, 3) := by decide +kernel
theorem dz_M_text_68 : decode zm_M_text.2.1 68 = .ok (.ifCond .eq 13, 3) := by decide +kernel
theorem dz_M_text_71 : decode zm_M_text.2.1 71 = .ok (.aload_n 0, 1) := by decide +kernel
theorem dz_M_text_72 : decode zm_M_text.2.1 72 = .ok (.invokevirtual 148, 3) := by decide +kernel
theorem dz_M_text_75 : decode zm_M_text.2.1 75 = .ok (.iinc 1 1, 3) := by decide +kernel
theorem dz_M_text_78 : decode zm_M_text.2.1 78 = .ok (.goto (-21), 3) := by decide +kernel
theorem dz_M_text_81 : decode zm_M_text.2.1 81 = .ok (.aload_n 0, 1) := by decide +kernel
theorem dz_M_text_82 : decode zm_M_text.2.1 82 = .ok (.getfield 73, 3) := by decide +kernel
theorem dz_M_text_85 : decode zm_M_text.2.1 85 = .ok (.ifCond .ne 20, 3) := by decide +kernel
theorem dz_M_text_88 : decode zm_M_text.2.1 88 = .ok (.aload_n 0, 1) := by decide +kernel
theorem dz_M_text_89 : decode zm_M_text.2.1 89 = .ok (.getfield 114, 3) := by decide +kernel
theorem dz_M_text_92 : decode zm_M_text.2.1 92 = .ok (.aload_n 0, 1) := by decide +kernel
theorem dz_M_text_93 : decode zm_M_text.2.1 93 = .ok (.getfield 134, 3) := by decide +kernel
theorem dz_M_text_96 : decode zm_M_text.2.1 96 = .ok (.if_icmp .lt 9, 3) := by decide +kernel
theorem dz_M_text_99 : decode zm_M_text.2.1 99 = .ok (.aload_n 0, 1) := by decide +kernel
theorem dz_M_text_100 : decode zm_M_text.2.1 100 = .ok (.bipush 6, 2) := by decide +kernel
theorem dz_M_text_102 : decode zm_M_text.2.1 102 = .ok (.invokevirtual 103, 3) := by decide +kernel
theorem dz_M_text_105 : decode zm_M_text.2.1 105 = .ok (.aload_n 0, 1) := by decide +kernel
theorem dz_M_text_106 : decode zm_M_text.2.1 106 = .ok (.getfield 73, 3) := by decide +kernel
theorem dz_M_text_109 : decode zm_M_text.2.1 109 = .ok (.ifCond .ne 16, 3) := by decide +kernel
theorem dz_M_text_112 : decode zm_M_text.2.1 112 = .ok (.aload_n 0, 1) := by decide +kernel
theorem dz_M_text_113 : decode zm_M_text.2.1 113 = .ok (.invokevirtual 151, 3) := by decide +kernel
theorem dz_M_text_116 : decode zm_M_text.2.1 116 = .ok (.ifCond .eq 9, 3) := by decide +kernel
theorem dz_M_text_119 : decode zm_M_text.2.1 119 = .ok (.aload_n 0, 1) := by decide +kernel
theorem dz_M_text_120 : decode zm_M_text.2.1 120 = .ok (.bipush 7, 2) := by decide +kernel
theorem dz_M_text_122 : decode zm_M_text.2.1 122 = .ok (.invokevirtual 103, 3) := by decide +kernel
theorem dz_M_text_125 : decode zm_M_text.2.1 125 = .ok (.aload_n 0, 1) := by decide +kernel
theorem dz_M_text_126 : decode zm_M_text.2.1 126 = .ok (.iconst 0, 1) := by decide +kernel
theorem dz_M_text_127 : decode zm_M_text.2.1 127 = .ok (.putfield 69, 3) := by decide +kernel
theorem dz_M_text_130 : decode zm_M_text.2.1 130 = .ok (.aload_n 0, 1) := by decide +kernel
theorem dz_M_text_131 : decode zm_M_text.2.1 131 = .ok (.aload_n 0, 1) := by decide +kernel
theorem dz_M_text_132 : decode zm_M_text.2.1 132 = .ok (.getfield 73, 3) := by decide +kernel
theorem dz_M_text_135 : decode zm_M_text.2.1 135 = .ok (.putfield 155, 3) := by decide +kernel
theorem dz_M_text_138 : decode zm_M_text.2.1 138 = .ok (.aload_n 0, 1) := by decide +kernel
theorem dz_M_text_139 : decode zm_M_text.2.1 139 = .ok (.getfield 73, 3) := by decide +kernel
theorem dz_M_text_142 : decode zm_M_text.2.1 142 = .ok (.ifCond .le 11, 3) := by decide +kernel
theorem dz_M_text_145 : decode zm_M_text.2.1 145 = .ok (.bipush (-10), 2) := by decide +kernel
theorem dz_M_text_147 : decode zm_M_text.2.1 147 = .ok (.aload_n 0, 1) := by decide +kernel
theorem dz_M_text_148 : decode zm_M_text.2.1 148 = .ok (.getfield 79, 3) := by decide +kernel
theorem dz_M_text_151 : decode zm_M_text.2.1 151 = .ok (.isub, 1) := by decide +kernel
theorem dz_M_text_152 : decode zm_M_text.2.1 152 = .ok (.ireturn, 1) := by decide +kernel
theorem dz_M_text_153 : decode zm_M_text.2.1 153 = .ok (.iconst 0, 1) := by decide +kernel
theorem dz_M_text_154 : decode zm_M_text.2.1 154 = .ok (.istore_n 2, 1) := by decide +kernel
theorem dz_M_text_155 : decode zm_M_text.2.1 155 = .ok (.iload_n 2, 1) := by decide +kernel
theorem dz_M_text_156 : decode zm_M_text.2.1 156 = .ok (.bipush 28, 2) := by decide +kernel
theorem dz_M_text_158 : decode zm_M_text.2.1 158 = .ok (.if_icmp .ge 57, 3) := by decide +kernel
theorem dz_M_text_161 : decode zm_M_text.2.1 161 = .ok (.aload_n 0, 1) := by decide +kernel
theorem dz_M_text_162 : decode zm_M_text.2.1 162 = .ok (.getfield 7, 3) := by decide +kernel
theorem dz_M_text_165 : decode zm_M_text.2.1 165 = .ok (.iload_n 2, 1) := by decide +kernel
theorem dz_M_text_166 : decode zm_M_text.2.1 166 = .ok (.aload_n 0, 1) := by decide +kernel
theorem dz_M_text_167 : decode zm_M_text.2.1 167 = .ok (.getfield 19, 3) := by decide +kernel
theorem dz_M_text_170 : decode zm_M_text.2.1 170 = .ok (.iload_n 2, 1) := by decide +kernel
theorem dz_M_text_171 : decode zm_M_text.2.1 171 = .ok (.iaload, 1) := by decide +kernel
theorem dz_M_text_172 : decode zm_M_text.2.1 172 = .ok (.iastore, 1) := by decide +kernel
theorem dz_M_text_173 : decode zm_M_text.2.1 173 = .ok (.aload_n 0, 1) := by decide +kernel
theorem dz_M_text_174 : decode zm_M_text.2.1 174 = .ok (.getfield 13, 3) := by decide +kernel
theorem dz_M_text_177 : decode zm_M_text.2.1 177 = .ok (.iload_n 2, 1) := by decide +kernel
theorem dz_M_text_178 : decode zm_M_text.2.1 178 = .ok (.bipush 6, 2) := by decide +kernel
theorem dz_M_text_180 : decode zm_M_text.2.1 180 = .ok (.irem, 1) := by decide +kernel
theorem dz_M_text_181 : decode zm_M_text.2.1 181 = .ok (.aload_n 0, 1) := by decide +kernel
theorem dz_M_text_182 : decode zm_M_text.2.1 182 = .ok (.getfield 22, 3) := by decide +kernel
theorem dz_M_text_185 : decode zm_M_text.2.1 185 = .ok (.iload_n 2, 1) := by decide +kernel
theorem dz_M_text_186 : decode zm_M_text.2.1 186 = .ok (.bipush 6, 2) := by decide +kernel
theorem dz_M_text_188 : decode zm_M_text.2.1 188 = .ok (.irem, 1) := by decide +kernel
theorem dz_M_text_189 : decode zm_M_text.2.1 189 = .ok (.iaload, 1) := by decide +kernel
theorem dz_M_text_190 : decode zm_M_text.2.1 190 = .ok (.iastore, 1) := by decide +kernel
theorem dz_M_text_191 : decode zm_M_text.2.1 191 = .ok (.aload_n 0, 1) := by decide +kernel
theorem dz_M_text_192 : decode zm_M_text.2.1 192 = .ok (.getfield 16, 3) := by decide +kernel
theorem dz_M_text_195 : decode zm_M_text.2.1 195 = .ok (.iload_n 2, 1) := by decide +kernel
theorem dz_M_text_196 : decode zm_M_text.2.1 196 = .ok (.bipush 15, 2) := by decide +kernel
theorem dz_M_text_198 : decode zm_M_text.2.1 198 = .ok (.irem, 1) := by decide +kernel
theorem dz_M_text_199 : decode zm_M_text.2.1 199 = .ok (.aload_n 0, 1) := by decide +kernel
theorem dz_M_text_200 : decode zm_M_text.2.1 200 = .ok (.getfield 25, 3) := by decide +kernel
theorem dz_M_text_203 : decode zm_M_text.2.1 203 = .ok (.iload_n 2, 1) := by decide +kernel
theorem dz_M_text_204 : decode zm_M_text.2.1 204 = .ok (.bipush 15, 2) := by decide +kernel
theorem dz_M_text_206 : decode zm_M_text.2.1 206 = .ok (.irem, 1) := by decide +kernel
theorem dz_M_text_207 : decode zm_M_text.2.1 207 = .ok (.iaload, 1) := by decide +kernel
theorem dz_M_text_208 : decode zm_M_text.2.1 208 = .ok (.iastore, 1) := by decide +kernel
theorem dz_M_text_209 : decode zm_M_text.2.1 209 = .ok (.iinc 2 1, 3) := by decide +kernel
theorem dz_M_text_212 : decode zm_M_text.2.1 212 = .ok (.goto (-57), 3) := by decide +kernel
theorem dz_M_text_215 : decode zm_M_text.2.1 215 = .ok (.aload_n 0, 1) := by decide +kernel
theorem dz_M_text_216 : decode zm_M_text.2.1 216 = .ok (.aload_n 0, 1) := by decide +kernel
theorem dz_M_text_217 : decode zm_M_text.2.1 217 = .ok (.getfield 134, 3) := by decide +kernel
theorem dz_M_text_220 : decode zm_M_text.2.1 220 = .ok (.putfield 158, 3) := by decide +kernel
theorem dz_M_text_223 : decode zm_M_text.2.1 223 = .ok (.aload_n 0, 1) := by decide +kernel
theorem dz_M_text_224 : decode zm_M_text.2.1 224 = .ok (.aload_n 0, 1) := by decide +kernel
theorem dz_M_text_225 : decode zm_M_text.2.1 225 = .ok (.getfield 125, 3) := by decide +kernel
theorem dz_M_text_228 : decode zm_M_text.2.1 228 = .ok (.putfield 161, 3) := by decide +kernel
theorem dz_M_text_231 : decode zm_M_text.2.1 231 = .ok (.aload_n 0, 1) := by decide +kernel
theorem dz_M_text_232 : decode zm_M_text.2.1 232 = .ok (.iconst 0, 1) := by decide +kernel
theorem dz_M_text_233 : decode zm_M_text.2.1 233 = .ok (.putfield 164, 3) := by decide +kernel
theorem dz_M_text_236 : decode zm_M_text.2.1 236 = .ok (.aload_n 0, 1) := by decide +kernel
theorem dz_M_text_237 : decode zm_M_text.2.1 237 = .ok (.getfield 50, 3) := by decide +kernel
theorem dz_M_text_240 : decode zm_M_text.2.1 240 = .ok (.iconst 0, 1) := by decide +kernel
theorem dz_M_text_241 : decode zm_M_text.2.1 241 = .ok (.iconst 0, 1) := by decide +kernel
theorem dz_M_text_242 : decode zm_M_text.2.1 242 = .ok (.bastore, 1) := by decide +kernel
theorem dz_M_text_243 : decode zm_M_text.2.1 243 = .ok (.aload_n 0, 1) := by decide +kernel
theorem dz_M_text_244 : decode zm_M_text.2.1 244 = .ok (.getfield 50, 3) := by decide +kernel
theorem dz_M_text_247 : decode zm_M_text.2.1 247 = .ok (.iconst 1, 1) := by decide +kernel
theorem dz_M_text_248 : decode zm_M_text.2.1 248 = .ok (.iconst 0, 1) := by decide +kernel
theorem dz_M_text_249 : decode zm_M_text.2.1 249 = .ok (.bastore, 1) := by decide +kernel
theorem dz_M_text_250 : decode zm_M_text.2.1 250 = .ok (.iload_n 1, 1) := by decide +kernel
theorem dz_M_text_251 : decode zm_M_text.2.1 251 = .ok (.ireturn, 1) := by decide +kernel
theorem dz_M_fault_0 : decode zm_M_fault.2.1 0 = .ok (.aload_n 0, 1) := by decide +kernel
theorem dz_M_fault_1 : decode zm_M_fault.2.1 1 = .ok (.getfield 155, 3) := by decide +kernel
theorem dz_M_fault_4 : decode zm_M_fault.2.1 4 = .ok (.ireturn, 1) := by decide +kernel
theorem dz_M_isOne_0 : decode zm_M_isOne.2.1 0 = .ok (.iload_n 1, 1) := by decide +kernel
theorem dz_M_isOne_1 : decode zm_M_isOne.2.1 1 = .ok (.i2l, 1) := by decide +kernel
theorem dz_M_isOne_2 : decode zm_M_isOne.2.1 2 = .ok (.lconst 0, 1) := by decide +kernel
theorem dz_M_isOne_3 : decode zm_M_isOne.2.1 3 = .ok (.aload_n 0, 1) := by decide +kernel
theorem dz_M_isOne_4 : decode zm_M_isOne.2.1 4 = .ok (.getfield 158, 3) := by decide +kernel
theorem dz_M_isOne_7 : decode zm_M_isOne.2.1 7 = .ok (.iconst 1, 1) := by decide +kernel
theorem dz_M_isOne_8 : decode zm_M_isOne.2.1 8 = .ok (.isub, 1) := by decide +kernel
theorem dz_M_isOne_9 : decode zm_M_isOne.2.1 9 = .ok (.i2l, 1) := by decide +kernel
theorem dz_M_isOne_10 : decode zm_M_isOne.2.1 10 = .ok (.invokestatic 65, 3) := by decide +kernel
theorem dz_M_isOne_13 : decode zm_M_isOne.2.1 13 = .ok (.ireturn, 1) := by decide +kernel
theorem dz_M_isRule_0 : decode zm_M_isRule.2.1 0 = .ok (.iload_n 1, 1) := by decide +kernel
theorem dz_M_isRule_1 : decode zm_M_isRule.2.1 1 = .ok (.i2l, 1) := by decide +kernel
theorem dz_M_isRule_2 : decode zm_M_isRule.2.1 2 = .ok (.lconst 0, 1) := by decide +kernel
theorem dz_M_isRule_3 : decode zm_M_isRule.2.1 3 = .ok (.aload_n 0, 1) := by decide +kernel
theorem dz_M_isRule_4 : decode zm_M_isRule.2.1 4 = .ok (.getfield 161, 3) := by decide +kernel
theorem dz_M_isRule_7 : decode zm_M_isRule.2.1 7 = .ok (.iconst 1, 1) := by decide +kernel
theorem dz_M_isRule_8 : decode zm_M_isRule.2.1 8 = .ok (.isub, 1) := by decide +kernel
theorem dz_M_isRule_9 : decode zm_M_isRule.2.1 9 = .ok (.i2l, 1) := by decide +kernel
theorem dz_M_isRule_10 : decode zm_M_isRule.2.1 10 = .ok (.invokestatic 65, 3) := by decide +kernel
theorem dz_M_isRule_13 : decode zm_M_isRule.2.1 13 = .ok (.ireturn, 1) := by decide +kernel
theorem dz_M_isThing_0 : decode zm_M_isThing.2.1 0 = .ok (.iload_n 0, 1) := by decide +kernel
theorem dz_M_isThing_1 : decode zm_M_isThing.2.1 1 = .ok (.i2l, 1) := by decide +kernel
theorem dz_M_isThing_2 : decode zm_M_isThing.2.1 2 = .ok (.lconst 0, 1) := by decide +kernel
theorem dz_M_isThing_3 : decode zm_M_isThing.2.1 3 = .ok (.ldc2_w 167, 3) := by decide +kernel
theorem dz_M_isThing_6 : decode zm_M_isThing.2.1 6 = .ok (.invokestatic 65, 3) := by decide +kernel
theorem dz_M_isThing_9 : decode zm_M_isThing.2.1 9 = .ok (.ireturn, 1) := by decide +kernel
theorem dz_M_isFact_0 : decode zm_M_isFact.2.1 0 = .ok (.iload_n 0, 1) := by decide +kernel
theorem dz_M_isFact_1 : decode zm_M_isFact.2.1 1 = .ok (.i2l, 1) := by decide +kernel
theorem dz_M_isFact_2 : decode zm_M_isFact.2.1 2 = .ok (.lconst 0, 1) := by decide +kernel
theorem dz_M_isFact_3 : decode zm_M_isFact.2.1 3 = .ok (.ldc2_w 143, 3) := by decide +kernel
theorem dz_M_isFact_6 : decode zm_M_isFact.2.1 6 = .ok (.invokestatic 65, 3) := by decide +kernel
theorem dz_M_isFact_9 : decode zm_M_isFact.2.1 9 = .ok (.ireturn, 1) := by decide +kernel
theorem dz_M_isThere_0 : decode zm_M_isThere.2.1 0 = .ok (.iload_n 1, 1) := by decide +kernel
theorem dz_M_isThere_1 : decode zm_M_isThere.2.1 1 = .ok (.iload_n 0, 1) := by decide +kernel
theorem dz_M_isThere_2 : decode zm_M_isThere.2.1 2 = .ok (.ishr, 1) := by decide +kernel
theorem dz_M_isThere_3 : decode zm_M_isThere.2.1 3 = .ok (.iconst 1, 1) := by decide +kernel
theorem dz_M_isThere_4 : decode zm_M_isThere.2.1 4 = .ok (.iand, 1) := by decide +kernel
theorem dz_M_isThere_5 : decode zm_M_isThere.2.1 5 = .ok (.ifCond .ne 7, 3) := by decide +kernel
theorem dz_M_isThere_8 : decode zm_M_isThere.2.1 8 = .ok (.iconst 1, 1) := by decide +kernel
theorem dz_M_isThere_9 : decode zm_M_isThere.2.1 9 = .ok (.goto 4, 3) := by decide +kernel
theorem dz_M_isThere_12 : decode zm_M_isThere.2.1 12 = .ok (.iconst 0, 1) := by decide +kernel
theorem dz_M_isThere_13 : decode zm_M_isThere.2.1 13 = .ok (.ireturn, 1) := by decide +kernel
theorem dz_M_rule_0 : decode zm_M_rule.2.1 0 = .ok (.iload_n 1, 1) := by decide +kernel
theorem dz_M_rule_1 : decode zm_M_rule.2.1 1 = .ok (.ifCond .ne 10, 3) := by decide +kernel
theorem dz_M_rule_4 : decode zm_M_rule.2.1 4 = .ok (.aload_n 0, 1) := by decide +kernel
theorem dz_M_rule_5 : decode zm_M_rule.2.1 5 = .ok (.getfield 158, 3) := by decide +kernel
theorem dz_M_rule_8 : decode zm_M_rule.2.1 8 = .ok (.goto 31, 3) := by decide +kernel
theorem dz_M_rule_11 : decode zm_M_rule.2.1 11 = .ok (.iload_n 1, 1) := by decide +kernel
theorem dz_M_rule_12 : decode zm_M_rule.2.1 12 = .ok (.iconst 1, 1) := by decide +kernel
theorem dz_M_rule_13 : decode zm_M_rule.2.1 13 = .ok (.if_icmp .ne 10, 3) := by decide +kernel
theorem dz_M_rule_16 : decode zm_M_rule.2.1 16 = .ok (.aload_n 0, 1) := by decide +kernel
theorem dz_M_rule_17 : decode zm_M_rule.2.1 17 = .ok (.getfield 161, 3) := by decide +kernel
theorem dz_M_rule_20 : decode zm_M_rule.2.1 20 = .ok (.goto 19, 3) := by decide +kernel
theorem dz_M_rule_23 : decode zm_M_rule.2.1 23 = .ok (.iload_n 1, 1) := by decide +kernel
theorem dz_M_rule_24 : decode zm_M_rule.2.1 24 = .ok (.iconst 2, 1) := by decide +kernel
theorem dz_M_rule_25 : decode zm_M_rule.2.1 25 = .ok (.if_icmp .ne 13, 3) := by decide +kernel
theorem dz_M_rule_28 : decode zm_M_rule.2.1 28 = .ok (.aload_n 0, 1) := by decide +kernel
theorem dz_M_rule_29 : decode zm_M_rule.2.1 29 = .ok (.getfield 7, 3) := by decide +kernel
theorem dz_M_rule_32 : decode zm_M_rule.2.1 32 = .ok (.bipush 12, 2) := by decide +kernel
theorem dz_M_rule_34 : decode zm_M_rule.2.1 34 = .ok (.iaload, 1) := by decide +kernel
theorem dz_M_rule_35 : decode zm_M_rule.2.1 35 = .ok (.goto 4, 3) := by decide +kernel
theorem dz_M_rule_38 : decode zm_M_rule.2.1 38 = .ok (.iconst (-1), 1) := by decide +kernel
theorem dz_M_rule_39 : decode zm_M_rule.2.1 39 = .ok (.ireturn, 1) := by decide +kernel
theorem dz_M_bornAs_0 : decode zm_M_bornAs.2.1 0 = .ok (.iload_n 1, 1) := by decide +kernel
theorem dz_M_bornAs_1 : decode zm_M_bornAs.2.1 1 = .ok (.iload_n 2, 1) := by decide +kernel
theorem dz_M_bornAs_2 : decode zm_M_bornAs.2.1 2 = .ok (.invokestatic 169, 3) := by decide +kernel
theorem dz_M_bornAs_5 : decode zm_M_bornAs.2.1 5 = .ok (.ifCond .eq 7, 3) := by decide +kernel
theorem dz_M_bornAs_8 : decode zm_M_bornAs.2.1 8 = .ok (.iconst 1, 1) := by decide +kernel
theorem dz_M_bornAs_9 : decode zm_M_bornAs.2.1 9 = .ok (.goto 4, 3) := by decide +kernel
theorem dz_M_bornAs_12 : decode zm_M_bornAs.2.1 12 = .ok (.iconst 0, 1) := by decide +kernel
theorem dz_M_bornAs_13 : decode zm_M_bornAs.2.1 13 = .ok (.istore_n 3, 1) := by decide +kernel
theorem dz_M_bornAs_14 : decode zm_M_bornAs.2.1 14 = .ok (.iconst 0, 1) := by decide +kernel
theorem dz_M_bornAs_15 : decode zm_M_bornAs.2.1 15 = .ok (.istore 4, 2) := by decide +kernel
theorem dz_M_bornAs_17 : decode zm_M_bornAs.2.1 17 = .ok (.iload 4, 2) := by decide +kernel
theorem dz_M_bornAs_19 : decode zm_M_bornAs.2.1 19 = .ok (.iload_n 1, 1) := by decide +kernel
theorem dz_M_bornAs_20 : decode zm_M_bornAs.2.1 20 = .ok (.if_icmp .ge 46, 3) := by decide +kernel
theorem dz_M_bornAs_23 : decode zm_M_bornAs.2.1 23 = .ok (.iload_n 3, 1) := by decide +kernel
theorem dz_M_bornAs_24 : decode zm_M_bornAs.2.1 24 = .ok (.iload_n 3, 1) := by decide +kernel
theorem dz_M_bornAs_25 : decode zm_M_bornAs.2.1 25 = .ok (.ifCond .le 32, 3) := by decide +kernel
theorem dz_M_bornAs_28 : decode zm_M_bornAs.2.1 28 = .ok (.aload_n 0, 1) := by decide +kernel
theorem dz_M_bornAs_29 : decode zm_M_bornAs.2.1 29 = .ok (.getfield 13, 3) := by decide +kernel
theorem dz_M_bornAs_32 : decode zm_M_bornAs.2.1 32 = .ok (.iload 4, 2) := by decide +kernel
theorem dz_M_bornAs_34 : decode zm_M_bornAs.2.1 34 = .ok (.iaload, 1) := by decide +kernel
theorem dz_M_bornAs_35 : decode zm_M_bornAs.2.1 35 = .ok (.aload_n 0, 1) := by decide +kernel
theorem dz_M_bornAs_36 : decode zm_M_bornAs.2.1 36 = .ok (.getfield 13, 3) := by decide +kernel
theorem dz_M_bornAs_39 : decode zm_M_bornAs.2.1 39 = .ok (.iload_n 1, 1) := by decide +kernel
theorem dz_M_bornAs_40 : decode zm_M_bornAs.2.1 40 = .ok (.iaload, 1) := by decide +kernel
theorem dz_M_bornAs_41 : decode zm_M_bornAs.2.1 41 = .ok (.if_icmp .ne 16, 3) := by decide +kernel
theorem dz_M_bornAs_44 : decode zm_M_bornAs.2.1 44 = .ok (.iload 4, 2) := by decide +kernel
theorem dz_M_bornAs_46 : decode zm_M_bornAs.2.1 46 = .ok (.iload_n 2, 1) := by decide +kernel
theorem dz_M_bornAs_47 : decode zm_M_bornAs.2.1 47 = .ok (.invokestatic 169, 3) := by decide +kernel
theorem dz_M_bornAs_50 : decode zm_M_bornAs.2.1 50 = .ok (.ifCond .eq 7, 3) := by decide +kernel
theorem dz_M_bornAs_53 : decode zm_M_bornAs.2.1 53 = .ok (.iconst 1, 1) := by decide +kernel
theorem dz_M_bornAs_54 : decode zm_M_bornAs.2.1 54 = .ok (.goto 4, 3) := by decide +kernel
theorem dz_M_bornAs_57 : decode zm_M_bornAs.2.1 57 = .ok (.iconst 0, 1) := by decide +kernel
theorem dz_M_bornAs_58 : decode zm_M_bornAs.2.1 58 = .ok (.iadd, 1) := by decide +kernel
theorem dz_M_bornAs_59 : decode zm_M_bornAs.2.1 59 = .ok (.istore_n 3, 1) := by decide +kernel
theorem dz_M_bornAs_60 : decode zm_M_bornAs.2.1 60 = .ok (.iinc 4 1, 3) := by decide +kernel
theorem dz_M_bornAs_63 : decode zm_M_bornAs.2.1 63 = .ok (.goto (-46), 3) := by decide +kernel
theorem dz_M_bornAs_66 : decode zm_M_bornAs.2.1 66 = .ok (.iload_n 3, 1) := by decide +kernel
theorem dz_M_bornAs_67 : decode zm_M_bornAs.2.1 67 = .ok (.ireturn, 1) := by decide +kernel
theorem dz_M_childrenOf_0 : decode zm_M_childrenOf.2.1 0 = .ok (.iconst 0, 1) := by decide +kernel
theorem dz_M_childrenOf_1 : decode zm_M_childrenOf.2.1 1 = .ok (.istore_n 3, 1) := by decide +kernel
theorem dz_M_childrenOf_2 : decode zm_M_childrenOf.2.1 2 = .ok (.iconst 0, 1) := by decide +kernel
theorem dz_M_childrenOf_3 : decode zm_M_childrenOf.2.1 3 = .ok (.istore 4, 2) := by decide +kernel
theorem dz_M_childrenOf_5 : decode zm_M_childrenOf.2.1 5 = .ok (.iload 4, 2) := by decide +kernel
theorem dz_M_childrenOf_7 : decode zm_M_childrenOf.2.1 7 = .ok (.aload_n 0, 1) := by decide +kernel
theorem dz_M_childrenOf_8 : decode zm_M_childrenOf.2.1 8 = .ok (.getfield 158, 3) := by decide +kernel
theorem dz_M_childrenOf_11 : decode zm_M_childrenOf.2.1 11 = .ok (.if_icmp .ge 39, 3) := by decide +kernel
theorem dz_M_childrenOf_14 : decode zm_M_childrenOf.2.1 14 = .ok (.iload_n 3, 1) := by decide +kernel
theorem dz_M_childrenOf_15 : decode zm_M_childrenOf.2.1 15 = .ok (.aload_n 0, 1) := by decide +kernel
theorem dz_M_childrenOf_16 : decode zm_M_childrenOf.2.1 16 = .ok (.getfield 13, 3) := by decide +kernel
theorem dz_M_childrenOf_19 : decode zm_M_childrenOf.2.1 19 = .ok (.iload 4, 2) := by decide +kernel
theorem dz_M_childrenOf_21 : decode zm_M_childrenOf.2.1 21 = .ok (.iaload, 1) := by decide +kernel
theorem dz_M_childrenOf_22 : decode zm_M_childrenOf.2.1 22 = .ok (.iload_n 1, 1) := by decide +kernel
theorem dz_M_childrenOf_23 : decode zm_M_childrenOf.2.1 23 = .ok (.iconst 1, 1) := by decide +kernel
theorem dz_M_childrenOf_24 : decode zm_M_childrenOf.2.1 24 = .ok (.iadd, 1) := by decide +kernel
theorem dz_M_childrenOf_25 : decode zm_M_childrenOf.2.1 25 = .ok (.if_icmp .ne 16, 3) := by decide +kernel
theorem dz_M_childrenOf_28 : decode zm_M_childrenOf.2.1 28 = .ok (.iload 4, 2) := by decide +kernel
theorem dz_M_childrenOf_30 : decode zm_M_childrenOf.2.1 30 = .ok (.iload_n 2, 1) := by decide +kernel
theorem dz_M_childrenOf_31 : decode zm_M_childrenOf.2.1 31 = .ok (.invokestatic 169, 3) := by decide +kernel
theorem dz_M_childrenOf_34 : decode zm_M_childrenOf.2.1 34 = .ok (.ifCond .eq 7, 3) := by decide +kernel
theorem dz_M_childrenOf_37 : decode zm_M_childrenOf.2.1 37 = .ok (.iconst 1, 1) := by decide +kernel
theorem dz_M_childrenOf_38 : decode zm_M_childrenOf.2.1 38 = .ok (.goto 4, 3) := by decide +kernel
theorem dz_M_childrenOf_41 : decode zm_M_childrenOf.2.1 41 = .ok (.iconst 0, 1) := by decide +kernel
theorem dz_M_childrenOf_42 : decode zm_M_childrenOf.2.1 42 = .ok (.iadd, 1) := by decide +kernel
theorem dz_M_childrenOf_43 : decode zm_M_childrenOf.2.1 43 = .ok (.istore_n 3, 1) := by decide +kernel
theorem dz_M_childrenOf_44 : decode zm_M_childrenOf.2.1 44 = .ok (.iinc 4 1, 3) := by decide +kernel
theorem dz_M_childrenOf_47 : decode zm_M_childrenOf.2.1 47 = .ok (.goto (-42), 3) := by decide +kernel
theorem dz_M_childrenOf_50 : decode zm_M_childrenOf.2.1 50 = .ok (.iload_n 3, 1) := by decide +kernel
theorem dz_M_childrenOf_51 : decode zm_M_childrenOf.2.1 51 = .ok (.ireturn, 1) := by decide +kernel
theorem dz_M_isAbove_0 : decode zm_M_isAbove.2.1 0 = .ok (.aload_n 0, 1) := by decide +kernel
theorem dz_M_isAbove_1 : decode zm_M_isAbove.2.1 1 = .ok (.getfield 13, 3) := by decide +kernel
theorem dz_M_isAbove_4 : decode zm_M_isAbove.2.1 4 = .ok (.iload_n 2, 1) := by decide +kernel
theorem dz_M_isAbove_5 : decode zm_M_isAbove.2.1 5 = .ok (.iaload, 1) := by decide +kernel
theorem dz_M_isAbove_6 : decode zm_M_isAbove.2.1 6 = .ok (.istore_n 3, 1) := by decide +kernel
theorem dz_M_isAbove_7 : decode zm_M_isAbove.2.1 7 = .ok (.iload_n 3, 1) := by decide +kernel
theorem dz_M_isAbove_8 : decode zm_M_isAbove.2.1 8 = .ok (.ifCond .le 22, 3) := by decide +kernel
theorem dz_M_isAbove_11 : decode zm_M_isAbove.2.1 11 = .ok (.iload_n 3, 1) := by decide +kernel
theorem dz_M_isAbove_12 : decode zm_M_isAbove.2.1 12 = .ok (.iload_n 1, 1) := by decide +kernel
theorem dz_M_isAbove_13 : decode zm_M_isAbove.2.1 13 = .ok (.iconst 1, 1) := by decide +kernel
theorem dz_M_isAbove_14 : decode zm_M_isAbove.2.1 14 = .ok (.iadd, 1) := by decide +kernel
theorem dz_M_isAbove_15 : decode zm_M_isAbove.2.1 15 = .ok (.if_icmp .eq 15, 3) := by decide +kernel
theorem dz_M_isAbove_18 : decode zm_M_isAbove.2.1 18 = .ok (.aload_n 0, 1) := by decide +kernel
theorem dz_M_isAbove_19 : decode zm_M_isAbove.2.1 19 = .ok (.getfield 13, 3) := by decide +kernel
theorem dz_M_isAbove_22 : decode zm_M_isAbove.2.1 22 = .ok (.iload_n 3, 1) := by decide +kernel
theorem dz_M_isAbove_23 : decode zm_M_isAbove.2.1 23 = .ok (.iconst 1, 1) := by decide +kernel
theorem dz_M_isAbove_24 : decode zm_M_isAbove.2.1 24 = .ok (.isub, 1) := by decide +kernel
theorem dz_M_isAbove_25 : decode zm_M_isAbove.2.1 25 = .ok (.iaload, 1) := by decide +kernel
theorem dz_M_isAbove_26 : decode zm_M_isAbove.2.1 26 = .ok (.istore_n 3, 1) := by decide +kernel
theorem dz_M_isAbove_27 : decode zm_M_isAbove.2.1 27 = .ok (.goto (-20), 3) := by decide +kernel
theorem dz_M_isAbove_30 : decode zm_M_isAbove.2.1 30 = .ok (.iload_n 3, 1) := by decide +kernel
theorem dz_M_isAbove_31 : decode zm_M_isAbove.2.1 31 = .ok (.ifCond .le 7, 3) := by decide +kernel
theorem dz_M_isAbove_34 : decode zm_M_isAbove.2.1 34 = .ok (.iconst 1, 1) := by decide +kernel
theorem dz_M_isAbove_35 : decode zm_M_isAbove.2.1 35 = .ok (.goto 4, 3) := by decide +kernel
theorem dz_M_isAbove_38 : decode zm_M_isAbove.2.1 38 = .ok (.iconst 0, 1) := by decide +kernel
theorem dz_M_isAbove_39 : decode zm_M_isAbove.2.1 39 = .ok (.ireturn, 1) := by decide +kernel
theorem dz_M_meets_0 : decode zm_M_meets.2.1 0 = .ok (.aload_n 0, 1) := by decide +kernel
theorem dz_M_meets_1 : decode zm_M_meets.2.1 1 = .ok (.getfield 16, 3) := by decide +kernel
theorem dz_M_meets_4 : decode zm_M_meets.2.1 4 = .ok (.iconst 3, 1) := by decide +kernel
theorem dz_M_meets_5 : decode zm_M_meets.2.1 5 = .ok (.iload_n 1, 1) := by decide +kernel
theorem dz_M_meets_6 : decode zm_M_meets.2.1 6 = .ok (.imul, 1) := by decide +kernel
theorem dz_M_meets_7 : decode zm_M_meets.2.1 7 = .ok (.iconst 2, 1) := by decide +kernel
theorem dz_M_meets_8 : decode zm_M_meets.2.1 8 = .ok (.iadd, 1) := by decide +kernel
theorem dz_M_meets_9 : decode zm_M_meets.2.1 9 = .ok (.iaload, 1) := by decide +kernel
theorem dz_M_meets_10 : decode zm_M_meets.2.1 10 = .ok (.istore 4, 2) := by decide +kernel
theorem dz_M_meets_12 : decode zm_M_meets.2.1 12 = .ok (.iload_n 2, 1) := by decide +kernel
theorem dz_M_meets_13 : decode zm_M_meets.2.1 13 = .ok (.iload_n 3, 1) := by decide +kernel
theorem dz_M_meets_14 : decode zm_M_meets.2.1 14 = .ok (.invokestatic 169, 3) := by decide +kernel
theorem dz_M_meets_17 : decode zm_M_meets.2.1 17 = .ok (.ifCond .ne 5, 3) := by decide +kernel
theorem dz_M_meets_20 : decode zm_M_meets.2.1 20 = .ok (.iconst 0, 1) := by decide +kernel
theorem dz_M_meets_21 : decode zm_M_meets.2.1 21 = .ok (.ireturn, 1) := by decide +kernel
theorem dz_M_meets_22 : decode zm_M_meets.2.1 22 = .ok (.aload_n 0, 1) := by decide +kernel
theorem dz_M_meets_23 : decode zm_M_meets.2.1 23 = .ok (.getfield 16, 3) := by decide +kernel
theorem dz_M_meets_26 : decode zm_M_meets.2.1 26 = .ok (.iconst 3, 1) := by decide +kernel
theorem dz_M_meets_27 : decode zm_M_meets.2.1 27 = .ok (.iload_n 1, 1) := by decide +kernel
theorem dz_M_meets_28 : decode zm_M_meets.2.1 28 = .ok (.imul, 1) := by decide +kernel
theorem dz_M_meets_29 : decode zm_M_meets.2.1 29 = .ok (.iconst 1, 1) := by decide +kernel
theorem dz_M_meets_30 : decode zm_M_meets.2.1 30 = .ok (.iadd, 1) := by decide +kernel
theorem dz_M_meets_31 : decode zm_M_meets.2.1 31 = .ok (.iaload, 1) := by decide +kernel
theorem dz_M_meets_32 : decode zm_M_meets.2.1 32 = .ok (.tableswitch 104 0 4 #[36, 38, 55, 76, 96], 36) := by decide +kernel
theorem dz_M_meets_68 : decode zm_M_meets.2.1 68 = .ok (.iconst 1, 1) := by decide +kernel
theorem dz_M_meets_69 : decode zm_M_meets.2.1 69 = .ok (.ireturn, 1) := by decide +kernel
theorem dz_M_meets_70 : decode zm_M_meets.2.1 70 = .ok (.aload_n 0, 1) := by decide +kernel
theorem dz_M_meets_71 : decode zm_M_meets.2.1 71 = .ok (.iload_n 2, 1) := by decide +kernel
theorem dz_M_meets_72 : decode zm_M_meets.2.1 72 = .ok (.iload_n 3, 1) := by decide +kernel
theorem dz_M_meets_73 : decode zm_M_meets.2.1 73 = .ok (.invokevirtual 173, 3) := by decide +kernel
theorem dz_M_meets_76 : decode zm_M_meets.2.1 76 = .ok (.iload 4, 2) := by decide +kernel
theorem dz_M_meets_78 : decode zm_M_meets.2.1 78 = .ok (.if_icmp .ne 7, 3) := by decide +kernel
theorem dz_M_meets_81 : decode zm_M_meets.2.1 81 = .ok (.iconst 1, 1) := by decide +kernel
theorem dz_M_meets_82 : decode zm_M_meets.2.1 82 = .ok (.goto 4, 3) := by decide +kernel
theorem dz_M_meets_85 : decode zm_M_meets.2.1 85 = .ok (.iconst 0, 1) := by decide +kernel
theorem dz_M_meets_86 : decode zm_M_meets.2.1 86 = .ok (.ireturn, 1) := by decide +kernel
theorem dz_M_meets_87 : decode zm_M_meets.2.1 87 = .ok (.aload_n 0, 1) := by decide +kernel
theorem dz_M_meets_88 : decode zm_M_meets.2.1 88 = .ok (.getfield 7, 3) := by decide +kernel
theorem dz_M_meets_91 : decode zm_M_meets.2.1 91 = .ok (.iload_n 2, 1) := by decide +kernel
theorem dz_M_meets_92 : decode zm_M_meets.2.1 92 = .ok (.iaload, 1) := by decide +kernel
theorem dz_M_meets_93 : decode zm_M_meets.2.1 93 = .ok (.iload 4, 2) := by decide +kernel
theorem dz_M_meets_95 : decode zm_M_meets.2.1 95 = .ok (.ishr, 1) := by decide +kernel
theorem dz_M_meets_96 : decode zm_M_meets.2.1 96 = .ok (.iconst 1, 1) := by decide +kernel
theorem dz_M_meets_97 : decode zm_M_meets.2.1 97 = .ok (.iand, 1) := by decide +kernel
theorem dz_M_meets_98 : decode zm_M_meets.2.1 98 = .ok (.iconst 1, 1) := by decide +kernel
theorem dz_M_meets_99 : decode zm_M_meets.2.1 99 = .ok (.if_icmp .ne 7, 3) := by decide +kernel
theorem dz_M_meets_102 : decode zm_M_meets.2.1 102 = .ok (.iconst 1, 1) := by decide +kernel
theorem dz_M_meets_103 : decode zm_M_meets.2.1 103 = .ok (.goto 4, 3) := by decide +kernel
theorem dz_M_meets_106 : decode zm_M_meets.2.1 106 = .ok (.iconst 0, 1) := by decide +kernel
theorem dz_M_meets_107 : decode zm_M_meets.2.1 107 = .ok (.ireturn, 1) := by decide +kernel
theorem dz_M_meets_108 : decode zm_M_meets.2.1 108 = .ok (.aload_n 0, 1) := by decide +kernel
theorem dz_M_meets_109 : decode zm_M_meets.2.1 109 = .ok (.getfield 7, 3) := by decide +kernel
theorem dz_M_meets_112 : decode zm_M_meets.2.1 112 = .ok (.bipush 6, 2) := by decide +kernel
theorem dz_M_meets_114 : decode zm_M_meets.2.1 114 = .ok (.iload_n 2, 1) := by decide +kernel
theorem dz_M_meets_115 : decode zm_M_meets.2.1 115 = .ok (.iadd, 1) := by decide +kernel
theorem dz_M_meets_116 : decode zm_M_meets.2.1 116 = .ok (.iaload, 1) := by decide +kernel
theorem dz_M_meets_117 : decode zm_M_meets.2.1 117 = .ok (.iload 4, 2) := by decide +kernel
theorem dz_M_meets_119 : decode zm_M_meets.2.1 119 = .ok (.if_icmp .lt 7, 3) := by decide +kernel
theorem dz_M_meets_122 : decode zm_M_meets.2.1 122 = .ok (.iconst 1, 1) := by decide +kernel
theorem dz_M_meets_123 : decode zm_M_meets.2.1 123 = .ok (.goto 4, 3) := by decide +kernel
theorem dz_M_meets_126 : decode zm_M_meets.2.1 126 = .ok (.iconst 0, 1) := by decide +kernel
theorem dz_M_meets_127 : decode zm_M_meets.2.1 127 = .ok (.ireturn, 1) := by decide +kernel
theorem dz_M_meets_128 : decode zm_M_meets.2.1 128 = .ok (.aload_n 0, 1) := by decide +kernel
theorem dz_M_meets_129 : decode zm_M_meets.2.1 129 = .ok (.iload 4, 2) := by decide +kernel
theorem dz_M_meets_131 : decode zm_M_meets.2.1 131 = .ok (.iload_n 2, 1) := by decide +kernel
theorem dz_M_meets_132 : decode zm_M_meets.2.1 132 = .ok (.invokevirtual 177, 3) := by decide +kernel
theorem dz_M_meets_135 : decode zm_M_meets.2.1 135 = .ok (.ireturn, 1) := by decide +kernel
theorem dz_M_meets_136 : decode zm_M_meets.2.1 136 = .ok (.aload_n 0, 1) := by decide +kernel
theorem dz_M_meets_137 : decode zm_M_meets.2.1 137 = .ok (.iload_n 2, 1) := by decide +kernel
theorem dz_M_meets_138 : decode zm_M_meets.2.1 138 = .ok (.iload_n 3, 1) := by decide +kernel
theorem dz_M_meets_139 : decode zm_M_meets.2.1 139 = .ok (.invokevirtual 180, 3) := by decide +kernel
theorem dz_M_meets_142 : decode zm_M_meets.2.1 142 = .ok (.iload 4, 2) := by decide +kernel
theorem dz_M_meets_144 : decode zm_M_meets.2.1 144 = .ok (.if_icmp .ne 7, 3) := by decide +kernel
theorem dz_M_meets_147 : decode zm_M_meets.2.1 147 = .ok (.iconst 1, 1) := by decide +kernel
theorem dz_M_meets_148 : decode zm_M_meets.2.1 148 = .ok (.goto 4, 3) := by decide +kernel
theorem dz_M_meets_151 : decode zm_M_meets.2.1 151 = .ok (.iconst 0, 1) := by decide +kernel
theorem dz_M_meets_152 : decode zm_M_meets.2.1 152 = .ok (.ireturn, 1) := by decide +kernel
theorem dz_M_whoMeet_0 : decode zm_M_whoMeet.2.1 0 = .ok (.iconst 0, 1) := by decide +kernel
theorem dz_M_whoMeet_1 : decode zm_M_whoMeet.2.1 1 = .ok (.istore_n 3, 1) := by decide +kernel
theorem dz_M_whoMeet_2 : decode zm_M_whoMeet.2.1 2 = .ok (.iconst 0, 1) := by decide +kernel
theorem dz_M_whoMeet_3 : decode zm_M_whoMeet.2.1 3 = .ok (.istore 4, 2) := by decide +kernel
theorem dz_M_whoMeet_5 : decode zm_M_whoMeet.2.1 5 = .ok (.iload 4, 2) := by decide +kernel
theorem dz_M_whoMeet_7 : decode zm_M_whoMeet.2.1 7 = .ok (.aload_n 0, 1) := by decide +kernel
theorem dz_M_whoMeet_8 : decode zm_M_whoMeet.2.1 8 = .ok (.getfield 158, 3) := by decide +kernel
theorem dz_M_whoMeet_11 : decode zm_M_whoMeet.2.1 11 = .ok (.if_icmp .ge 31, 3) := by decide +kernel
theorem dz_M_whoMeet_14 : decode zm_M_whoMeet.2.1 14 = .ok (.iload_n 3, 1) := by decide +kernel
theorem dz_M_whoMeet_15 : decode zm_M_whoMeet.2.1 15 = .ok (.aload_n 0, 1) := by decide +kernel
theorem dz_M_whoMeet_16 : decode zm_M_whoMeet.2.1 16 = .ok (.iload_n 1, 1) := by decide +kernel
theorem dz_M_whoMeet_17 : decode zm_M_whoMeet.2.1 17 = .ok (.iload 4, 2) := by decide +kernel
theorem dz_M_whoMeet_19 : decode zm_M_whoMeet.2.1 19 = .ok (.iload_n 2, 1) := by decide +kernel
theorem dz_M_whoMeet_20 : decode zm_M_whoMeet.2.1 20 = .ok (.invokevirtual 183, 3) := by decide +kernel
theorem dz_M_whoMeet_23 : decode zm_M_whoMeet.2.1 23 = .ok (.ifCond .eq 10, 3) := by decide +kernel
theorem dz_M_whoMeet_26 : decode zm_M_whoMeet.2.1 26 = .ok (.iconst 1, 1) := by decide +kernel
theorem dz_M_whoMeet_27 : decode zm_M_whoMeet.2.1 27 = .ok (.iload 4, 2) := by decide +kernel
theorem dz_M_whoMeet_29 : decode zm_M_whoMeet.2.1 29 = .ok (.ishl, 1) := by decide +kernel
theorem dz_M_whoMeet_30 : decode zm_M_whoMeet.2.1 30 = .ok (.goto 4, 3) := by decide +kernel
theorem dz_M_whoMeet_33 : decode zm_M_whoMeet.2.1 33 = .ok (.iconst 0, 1) := by decide +kernel
theorem dz_M_whoMeet_34 : decode zm_M_whoMeet.2.1 34 = .ok (.ior, 1) := by decide +kernel
theorem dz_M_whoMeet_35 : decode zm_M_whoMeet.2.1 35 = .ok (.istore_n 3, 1) := by decide +kernel
theorem dz_M_whoMeet_36 : decode zm_M_whoMeet.2.1 36 = .ok (.iinc 4 1, 3) := by decide +kernel
theorem dz_M_whoMeet_39 : decode zm_M_whoMeet.2.1 39 = .ok (.goto (-34), 3) := by decide +kernel
theorem dz_M_whoMeet_42 : decode zm_M_whoMeet.2.1 42 = .ok (.iload_n 3, 1) := by decide +kernel
theorem dz_M_whoMeet_43 : decode zm_M_whoMeet.2.1 43 = .ok (.ireturn, 1) := by decide +kernel
theorem dz_M_givesBy_0 : decode zm_M_givesBy.2.1 0 = .ok (.aload_n 0, 1) := by decide +kernel
theorem dz_M_givesBy_1 : decode zm_M_givesBy.2.1 1 = .ok (.iload_n 1, 1) := by decide +kernel
theorem dz_M_givesBy_2 : decode zm_M_givesBy.2.1 2 = .ok (.iload_n 2, 1) := by decide +kernel
theorem dz_M_givesBy_3 : decode zm_M_givesBy.2.1 3 = .ok (.invokevirtual 187, 3) := by decide +kernel
theorem dz_M_givesBy_6 : decode zm_M_givesBy.2.1 6 = .ok (.istore 4, 2) := by decide +kernel
theorem dz_M_givesBy_8 : decode zm_M_givesBy.2.1 8 = .ok (.iconst 0, 1) := by decide +kernel
theorem dz_M_givesBy_9 : decode zm_M_givesBy.2.1 9 = .ok (.istore 5, 2) := by decide +kernel
theorem dz_M_givesBy_11 : decode zm_M_givesBy.2.1 11 = .ok (.bipush (-4), 2) := by decide +kernel
theorem dz_M_givesBy_13 : decode zm_M_givesBy.2.1 13 = .ok (.istore 6, 2) := by decide +kernel
theorem dz_M_givesBy_15 : decode zm_M_givesBy.2.1 15 = .ok (.iconst 0, 1) := by decide +kernel
theorem dz_M_givesBy_16 : decode zm_M_givesBy.2.1 16 = .ok (.istore 7, 2) := by decide +kernel
theorem dz_M_givesBy_18 : decode zm_M_givesBy.2.1 18 = .ok (.iload 7, 2) := by decide +kernel
theorem dz_M_givesBy_20 : decode zm_M_givesBy.2.1 20 = .ok (.aload_n 0, 1) := by decide +kernel
theorem dz_M_givesBy_21 : decode zm_M_givesBy.2.1 21 = .ok (.getfield 158, 3) := by decide +kernel
theorem dz_M_givesBy_24 : decode zm_M_givesBy.2.1 24 = .ok (.if_icmp .ge 58, 3) := by decide +kernel
theorem dz_M_givesBy_27 : decode zm_M_givesBy.2.1 27 = .ok (.iload 4, 2) := by decide +kernel
theorem dz_M_givesBy_29 : decode zm_M_givesBy.2.1 29 = .ok (.iload 7, 2) := by decide +kernel
theorem dz_M_givesBy_31 : decode zm_M_givesBy.2.1 31 = .ok (.ishr, 1) := by decide +kernel
theorem dz_M_givesBy_32 : decode zm_M_givesBy.2.1 32 = .ok (.iconst 1, 1) := by decide +kernel
theorem dz_M_givesBy_33 : decode zm_M_givesBy.2.1 33 = .ok (.iand, 1) := by decide +kernel
theorem dz_M_givesBy_34 : decode zm_M_givesBy.2.1 34 = .ok (.iconst 1, 1) := by decide +kernel
theorem dz_M_givesBy_35 : decode zm_M_givesBy.2.1 35 = .ok (.if_icmp .ne 41, 3) := by decide +kernel
theorem dz_M_givesBy_38 : decode zm_M_givesBy.2.1 38 = .ok (.iinc 5 1, 3) := by decide +kernel
theorem dz_M_givesBy_41 : decode zm_M_givesBy.2.1 41 = .ok (.iload_n 3, 1) := by decide +kernel
theorem dz_M_givesBy_42 : decode zm_M_givesBy.2.1 42 = .ok (.iconst 2, 1) := by decide +kernel
theorem dz_M_givesBy_43 : decode zm_M_givesBy.2.1 43 = .ok (.if_icmp .eq 24, 3) := by decide +kernel
theorem dz_M_givesBy_46 : decode zm_M_givesBy.2.1 46 = .ok (.iload_n 3, 1) := by decide +kernel
theorem dz_M_givesBy_47 : decode zm_M_givesBy.2.1 47 = .ok (.ifCond .ne 9, 3) := by decide +kernel
theorem dz_M_givesBy_50 : decode zm_M_givesBy.2.1 50 = .ok (.iload 5, 2) := by decide +kernel
theorem dz_M_givesBy_52 : decode zm_M_givesBy.2.1 52 = .ok (.iconst 1, 1) := by decide +kernel
theorem dz_M_givesBy_53 : decode zm_M_givesBy.2.1 53 = .ok (.if_icmp .eq 14, 3) := by decide +kernel
theorem dz_M_givesBy_56 : decode zm_M_givesBy.2.1 56 = .ok (.iload_n 3, 1) := by decide +kernel
theorem dz_M_givesBy_57 : decode zm_M_givesBy.2.1 57 = .ok (.iconst 1, 1) := by decide +kernel
theorem dz_M_givesBy_58 : decode zm_M_givesBy.2.1 58 = .ok (.if_icmp .ne 14, 3) := by decide +kernel
theorem dz_M_givesBy_61 : decode zm_M_givesBy.2.1 61 = .ok (.iload 5, 2) := by decide +kernel
theorem dz_M_givesBy_63 : decode zm_M_givesBy.2.1 63 = .ok (.iconst 3, 1) := by decide +kernel
theorem dz_M_givesBy_64 : decode zm_M_givesBy.2.1 64 = .ok (.if_icmp .ne 8, 3) := by decide +kernel
theorem dz_M_givesBy_67 : decode zm_M_givesBy.2.1 67 = .ok (.iload 7, 2) := by decide +kernel
theorem dz_M_givesBy_69 : decode zm_M_givesBy.2.1 69 = .ok (.goto 5, 3) := by decide +kernel
theorem dz_M_givesBy_72 : decode zm_M_givesBy.2.1 72 = .ok (.iload 6, 2) := by decide +kernel
theorem dz_M_givesBy_74 : decode zm_M_givesBy.2.1 74 = .ok (.istore 6, 2) := by decide +kernel
theorem dz_M_givesBy_76 : decode zm_M_givesBy.2.1 76 = .ok (.iinc 7 1, 3) := by decide +kernel
theorem dz_M_givesBy_79 : decode zm_M_givesBy.2.1 79 = .ok (.goto (-61), 3) := by decide +kernel
theorem dz_M_givesBy_82 : decode zm_M_givesBy.2.1 82 = .ok (.iload 6, 2) := by decide +kernel
theorem dz_M_givesBy_84 : decode zm_M_givesBy.2.1 84 = .ok (.ireturn, 1) := by decide +kernel
theorem dz_M_gives_0 : decode zm_M_gives.2.1 0 = .ok (.aload_n 0, 1) := by decide +kernel
theorem dz_M_gives_1 : decode zm_M_gives.2.1 1 = .ok (.iload_n 1, 1) := by decide +kernel
theorem dz_M_gives_2 : decode zm_M_gives.2.1 2 = .ok (.iload_n 2, 1) := by decide +kernel
theorem dz_M_gives_3 : decode zm_M_gives.2.1 3 = .ok (.aload_n 0, 1) := by decide +kernel
theorem dz_M_gives_4 : decode zm_M_gives.2.1 4 = .ok (.getfield 7, 3) := by decide +kernel
theorem dz_M_gives_7 : decode zm_M_gives.2.1 7 = .ok (.bipush 23, 2) := by decide +kernel
theorem dz_M_gives_9 : decode zm_M_gives.2.1 9 = .ok (.iload_n 1, 1) := by decide +kernel
theorem dz_M_gives_10 : decode zm_M_gives.2.1 10 = .ok (.iadd, 1) := by decide +kernel
theorem dz_M_gives_11 : decode zm_M_gives.2.1 11 = .ok (.iaload, 1) := by decide +kernel
theorem dz_M_gives_12 : decode zm_M_gives.2.1 12 = .ok (.invokevirtual 190, 3) := by decide +kernel
theorem dz_M_gives_15 : decode zm_M_gives.2.1 15 = .ok (.ireturn, 1) := by decide +kernel
theorem dz_M_ruleBy_0 : decode zm_M_ruleBy.2.1 0 = .ok (.bipush (-4), 2) := by decide +kernel
theorem dz_M_ruleBy_2 : decode zm_M_ruleBy.2.1 2 = .ok (.istore 5, 2) := by decide +kernel
theorem dz_M_ruleBy_4 : decode zm_M_ruleBy.2.1 4 = .ok (.iconst 0, 1) := by decide +kernel
theorem dz_M_ruleBy_5 : decode zm_M_ruleBy.2.1 5 = .ok (.istore 6, 2) := by decide +kernel
theorem dz_M_ruleBy_7 : decode zm_M_ruleBy.2.1 7 = .ok (.iload 6, 2) := by decide +kernel
theorem dz_M_ruleBy_9 : decode zm_M_ruleBy.2.1 9 = .ok (.aload_n 0, 1) := by decide +kernel
theorem dz_M_ruleBy_10 : decode zm_M_ruleBy.2.1 10 = .ok (.getfield 161, 3) := by decide +kernel
theorem dz_M_ruleBy_13 : decode zm_M_ruleBy.2.1 13 = .ok (.if_icmp .ge 112, 3) := by decide +kernel
theorem dz_M_ruleBy_16 : decode zm_M_ruleBy.2.1 16 = .ok (.iload_n 3, 1) := by decide +kernel
theorem dz_M_ruleBy_17 : decode zm_M_ruleBy.2.1 17 = .ok (.iload 6, 2) := by decide +kernel
theorem dz_M_ruleBy_19 : decode zm_M_ruleBy.2.1 19 = .ok (.ishr, 1) := by decide +kernel
theorem dz_M_ruleBy_20 : decode zm_M_ruleBy.2.1 20 = .ok (.iconst 1, 1) := by decide +kernel
theorem dz_M_ruleBy_21 : decode zm_M_ruleBy.2.1 21 = .ok (.iand, 1) := by decide +kernel
theorem dz_M_ruleBy_22 : decode zm_M_ruleBy.2.1 22 = .ok (.iconst 1, 1) := by decide +kernel
theorem dz_M_ruleBy_23 : decode zm_M_ruleBy.2.1 23 = .ok (.if_icmp .ne 50, 3) := by decide +kernel
theorem dz_M_ruleBy_26 : decode zm_M_ruleBy.2.1 26 = .ok (.aload_n 0, 1) := by decide +kernel
theorem dz_M_ruleBy_27 : decode zm_M_ruleBy.2.1 27 = .ok (.getfield 16, 3) := by decide +kernel
theorem dz_M_ruleBy_30 : decode zm_M_ruleBy.2.1 30 = .ok (.iconst 3, 1) := by decide +kernel
theorem dz_M_ruleBy_31 : decode zm_M_ruleBy.2.1 31 = .ok (.iload 6, 2) := by decide +kernel
theorem dz_M_ruleBy_33 : decode zm_M_ruleBy.2.1 33 = .ok (.imul, 1) := by decide +kernel
theorem dz_M_ruleBy_34 : decode zm_M_ruleBy.2.1 34 = .ok (.iaload, 1) := by decide +kernel
theorem dz_M_ruleBy_35 : decode zm_M_ruleBy.2.1 35 = .ok (.iload_n 1, 1) := by decide +kernel
theorem dz_M_ruleBy_36 : decode zm_M_ruleBy.2.1 36 = .ok (.if_icmp .ne 37, 3) := by decide +kernel
theorem dz_M_ruleBy_39 : decode zm_M_ruleBy.2.1 39 = .ok (.iload 5, 2) := by decide +kernel
theorem dz_M_ruleBy_41 : decode zm_M_ruleBy.2.1 41 = .ok (.bipush (-4), 2) := by decide +kernel
theorem dz_M_ruleBy_43 : decode zm_M_ruleBy.2.1 43 = .ok (.if_icmp .eq 26, 3) := by decide +kernel
theorem dz_M_ruleBy_46 : decode zm_M_ruleBy.2.1 46 = .ok (.aload_n 0, 1) := by decide +kernel
theorem dz_M_ruleBy_47 : decode zm_M_ruleBy.2.1 47 = .ok (.getfield 7, 3) := by decide +kernel
theorem dz_M_ruleBy_50 : decode zm_M_ruleBy.2.1 50 = .ok (.bipush 18, 2) := by decide +kernel
theorem dz_M_ruleBy_52 : decode zm_M_ruleBy.2.1 52 = .ok (.iload 6, 2) := by decide +kernel
theorem dz_M_ruleBy_54 : decode zm_M_ruleBy.2.1 54 = .ok (.iadd, 1) := by decide +kernel
theorem dz_M_ruleBy_55 : decode zm_M_ruleBy.2.1 55 = .ok (.iaload, 1) := by decide +kernel
theorem dz_M_ruleBy_56 : decode zm_M_ruleBy.2.1 56 = .ok (.aload_n 0, 1) := by decide +kernel
theorem dz_M_ruleBy_57 : decode zm_M_ruleBy.2.1 57 = .ok (.getfield 7, 3) := by decide +kernel
theorem dz_M_ruleBy_60 : decode zm_M_ruleBy.2.1 60 = .ok (.bipush 18, 2) := by decide +kernel
theorem dz_M_ruleBy_62 : decode zm_M_ruleBy.2.1 62 = .ok (.iload 5, 2) := by decide +kernel
theorem dz_M_ruleBy_64 : decode zm_M_ruleBy.2.1 64 = .ok (.iadd, 1) := by decide +kernel
theorem dz_M_ruleBy_65 : decode zm_M_ruleBy.2.1 65 = .ok (.iaload, 1) := by decide +kernel
theorem dz_M_ruleBy_66 : decode zm_M_ruleBy.2.1 66 = .ok (.if_icmp .ge 7, 3) := by decide +kernel
theorem dz_M_ruleBy_69 : decode zm_M_ruleBy.2.1 69 = .ok (.iconst 1, 1) := by decide +kernel
theorem dz_M_ruleBy_70 : decode zm_M_ruleBy.2.1 70 = .ok (.goto 4, 3) := by decide +kernel
theorem dz_M_ruleBy_73 : decode zm_M_ruleBy.2.1 73 = .ok (.iconst 0, 1) := by decide +kernel
theorem dz_M_ruleBy_74 : decode zm_M_ruleBy.2.1 74 = .ok (.istore 7, 2) := by decide +kernel
theorem dz_M_ruleBy_76 : decode zm_M_ruleBy.2.1 76 = .ok (.iload 7, 2) := by decide +kernel
theorem dz_M_ruleBy_78 : decode zm_M_ruleBy.2.1 78 = .ok (.ifCond .eq 41, 3) := by decide +kernel
theorem dz_M_ruleBy_81 : decode zm_M_ruleBy.2.1 81 = .ok (.aload_n 0, 1) := by decide +kernel
theorem dz_M_ruleBy_82 : decode zm_M_ruleBy.2.1 82 = .ok (.iload 6, 2) := by decide +kernel
theorem dz_M_ruleBy_84 : decode zm_M_ruleBy.2.1 84 = .ok (.iload_n 2, 1) := by decide +kernel
theorem dz_M_ruleBy_85 : decode zm_M_ruleBy.2.1 85 = .ok (.iload 4, 2) := by decide +kernel
theorem dz_M_ruleBy_87 : decode zm_M_ruleBy.2.1 87 = .ok (.bipush (-4), 2) := by decide +kernel
theorem dz_M_ruleBy_89 : decode zm_M_ruleBy.2.1 89 = .ok (.if_icmp .ne 16, 3) := by decide +kernel
theorem dz_M_ruleBy_92 : decode zm_M_ruleBy.2.1 92 = .ok (.aload_n 0, 1) := by decide +kernel
theorem dz_M_ruleBy_93 : decode zm_M_ruleBy.2.1 93 = .ok (.getfield 7, 3) := by decide +kernel
theorem dz_M_ruleBy_96 : decode zm_M_ruleBy.2.1 96 = .ok (.bipush 23, 2) := by decide +kernel
theorem dz_M_ruleBy_98 : decode zm_M_ruleBy.2.1 98 = .ok (.iload 6, 2) := by decide +kernel
theorem dz_M_ruleBy_100 : decode zm_M_ruleBy.2.1 100 = .ok (.iadd, 1) := by decide +kernel
theorem dz_M_ruleBy_101 : decode zm_M_ruleBy.2.1 101 = .ok (.iaload, 1) := by decide +kernel
theorem dz_M_ruleBy_102 : decode zm_M_ruleBy.2.1 102 = .ok (.goto 5, 3) := by decide +kernel
theorem dz_M_ruleBy_105 : decode zm_M_ruleBy.2.1 105 = .ok (.iload 4, 2) := by decide +kernel
theorem dz_M_ruleBy_107 : decode zm_M_ruleBy.2.1 107 = .ok (.invokevirtual 190, 3) := by decide +kernel
theorem dz_M_ruleBy_110 : decode zm_M_ruleBy.2.1 110 = .ok (.bipush (-4), 2) := by decide +kernel
theorem dz_M_ruleBy_112 : decode zm_M_ruleBy.2.1 112 = .ok (.if_icmp .eq 7, 3) := by decide +kernel
theorem dz_M_ruleBy_115 : decode zm_M_ruleBy.2.1 115 = .ok (.iload 6, 2) := by decide +kernel
theorem dz_M_ruleBy_117 : decode zm_M_ruleBy.2.1 117 = .ok (.istore 5, 2) := by decide +kernel
theorem dz_M_ruleBy_119 : decode zm_M_ruleBy.2.1 119 = .ok (.iinc 6 1, 3) := by decide +kernel
theorem dz_M_ruleBy_122 : decode zm_M_ruleBy.2.1 122 = .ok (.goto (-115), 3) := by decide +kernel
theorem dz_M_ruleBy_125 : decode zm_M_ruleBy.2.1 125 = .ok (.iload 5, 2) := by decide +kernel
theorem dz_M_ruleBy_127 : decode zm_M_ruleBy.2.1 127 = .ok (.ireturn, 1) := by decide +kernel
theorem dz_M_ownerBy_0 : decode zm_M_ownerBy.2.1 0 = .ok (.aload_n 0, 1) := by decide +kernel
theorem dz_M_ownerBy_1 : decode zm_M_ownerBy.2.1 1 = .ok (.iload_n 1, 1) := by decide +kernel
theorem dz_M_ownerBy_2 : decode zm_M_ownerBy.2.1 2 = .ok (.iload_n 2, 1) := by decide +kernel
theorem dz_M_ownerBy_3 : decode zm_M_ownerBy.2.1 3 = .ok (.iload_n 3, 1) := by decide +kernel
theorem dz_M_ownerBy_4 : decode zm_M_ownerBy.2.1 4 = .ok (.bipush (-4), 2) := by decide +kernel
theorem dz_M_ownerBy_6 : decode zm_M_ownerBy.2.1 6 = .ok (.invokevirtual 193, 3) := by decide +kernel
theorem dz_M_ownerBy_9 : decode zm_M_ownerBy.2.1 9 = .ok (.istore 4, 2) := by decide +kernel
theorem dz_M_ownerBy_11 : decode zm_M_ownerBy.2.1 11 = .ok (.iload 4, 2) := by decide +kernel
theorem dz_M_ownerBy_13 : decode zm_M_ownerBy.2.1 13 = .ok (.bipush (-4), 2) := by decide +kernel
theorem dz_M_ownerBy_15 : decode zm_M_ownerBy.2.1 15 = .ok (.if_icmp .ne 8, 3) := by decide +kernel
theorem dz_M_ownerBy_18 : decode zm_M_ownerBy.2.1 18 = .ok (.bipush (-4), 2) := by decide +kernel
theorem dz_M_ownerBy_20 : decode zm_M_ownerBy.2.1 20 = .ok (.goto 10, 3) := by decide +kernel
theorem dz_M_ownerBy_23 : decode zm_M_ownerBy.2.1 23 = .ok (.aload_n 0, 1) := by decide +kernel
theorem dz_M_ownerBy_24 : decode zm_M_ownerBy.2.1 24 = .ok (.iload 4, 2) := by decide +kernel
theorem dz_M_ownerBy_26 : decode zm_M_ownerBy.2.1 26 = .ok (.iload_n 2, 1) := by decide +kernel
theorem dz_M_ownerBy_27 : decode zm_M_ownerBy.2.1 27 = .ok (.invokevirtual 197, 3) := by decide +kernel
theorem dz_M_ownerBy_30 : decode zm_M_ownerBy.2.1 30 = .ok (.ireturn, 1) := by decide +kernel
theorem dz_M_ownerIn_0 : decode zm_M_ownerIn.2.1 0 = .ok (.aload_n 0, 1) := by decide +kernel
theorem dz_M_ownerIn_1 : decode zm_M_ownerIn.2.1 1 = .ok (.iload_n 1, 1) := by decide +kernel
theorem dz_M_ownerIn_2 : decode zm_M_ownerIn.2.1 2 = .ok (.iload_n 2, 1) := by decide +kernel
theorem dz_M_ownerIn_3 : decode zm_M_ownerIn.2.1 3 = .ok (.bipush 31, 2) := by decide +kernel
theorem dz_M_ownerIn_5 : decode zm_M_ownerIn.2.1 5 = .ok (.invokevirtual 200, 3) := by decide +kernel
theorem dz_M_ownerIn_8 : decode zm_M_ownerIn.2.1 8 = .ok (.ireturn, 1) := by decide +kernel
theorem dz_M_one_0 : decode zm_M_one.2.1 0 = .ok (.aload_n 0, 1) := by decide +kernel
theorem dz_M_one_1 : decode zm_M_one.2.1 1 = .ok (.iload_n 1, 1) := by decide +kernel
theorem dz_M_one_2 : decode zm_M_one.2.1 2 = .ok (.invokevirtual 203, 3) := by decide +kernel
theorem dz_M_one_5 : decode zm_M_one.2.1 5 = .ok (.ifCond .eq 15, 3) := by decide +kernel
theorem dz_M_one_8 : decode zm_M_one.2.1 8 = .ok (.iload_n 2, 1) := by decide +kernel
theorem dz_M_one_9 : decode zm_M_one.2.1 9 = .ok (.i2l, 1) := by decide +kernel
theorem dz_M_one_10 : decode zm_M_one.2.1 10 = .ok (.lconst 0, 1) := by decide +kernel
theorem dz_M_one_11 : decode zm_M_one.2.1 11 = .ok (.ldc2_w 207, 3) := by decide +kernel
theorem dz_M_one_14 : decode zm_M_one.2.1 14 = .ok (.invokestatic 65, 3) := by decide +kernel
theorem dz_M_one_17 : decode zm_M_one.2.1 17 = .ok (.ifCond .ne 5, 3) := by decide +kernel
theorem dz_M_one_20 : decode zm_M_one.2.1 20 = .ok (.iconst (-1), 1) := by decide +kernel
theorem dz_M_one_21 : decode zm_M_one.2.1 21 = .ok (.ireturn, 1) := by decide +kernel
theorem dz_M_one_22 : decode zm_M_one.2.1 22 = .ok (.aload_n 0, 1) := by decide +kernel
theorem dz_M_one_23 : decode zm_M_one.2.1 23 = .ok (.getfield 7, 3) := by decide +kernel
theorem dz_M_one_26 : decode zm_M_one.2.1 26 = .ok (.bipush 12, 2) := by decide +kernel
theorem dz_M_one_28 : decode zm_M_one.2.1 28 = .ok (.iaload, 1) := by decide +kernel
theorem dz_M_one_29 : decode zm_M_one.2.1 29 = .ok (.istore_n 3, 1) := by decide +kernel
theorem dz_M_one_30 : decode zm_M_one.2.1 30 = .ok (.iload_n 2, 1) := by decide +kernel
theorem dz_M_one_31 : decode zm_M_one.2.1 31 = .ok (.tableswitch 86 0 4 #[33, 56, 63, 73, 79], 33) := by decide +kernel
theorem dz_M_one_64 : decode zm_M_one.2.1 64 = .ok (.aload_n 0, 1) := by decide +kernel
theorem dz_M_one_65 : decode zm_M_one.2.1 65 = .ok (.getfield 13, 3) := by decide +kernel
theorem dz_M_one_68 : decode zm_M_one.2.1 68 = .ok (.iload_n 1, 1) := by decide +kernel
theorem dz_M_one_69 : decode zm_M_one.2.1 69 = .ok (.iaload, 1) := by decide +kernel
theorem dz_M_one_70 : decode zm_M_one.2.1 70 = .ok (.ifCond .ne 8, 3) := by decide +kernel
theorem dz_M_one_73 : decode zm_M_one.2.1 73 = .ok (.bipush (-4), 2) := by decide +kernel
theorem dz_M_one_75 : decode zm_M_one.2.1 75 = .ok (.goto 11, 3) := by decide +kernel
theorem dz_M_one_78 : decode zm_M_one.2.1 78 = .ok (.aload_n 0, 1) := by decide +kernel
theorem dz_M_one_79 : decode zm_M_one.2.1 79 = .ok (.getfield 13, 3) := by decide +kernel
theorem dz_M_one_82 : decode zm_M_one.2.1 82 = .ok (.iload_n 1, 1) := by decide +kernel
theorem dz_M_one_83 : decode zm_M_one.2.1 83 = .ok (.iaload, 1) := by decide +kernel
theorem dz_M_one_84 : decode zm_M_one.2.1 84 = .ok (.iconst 1, 1) := by decide +kernel
theorem dz_M_one_85 : decode zm_M_one.2.1 85 = .ok (.isub, 1) := by decide +kernel
theorem dz_M_one_86 : decode zm_M_one.2.1 86 = .ok (.ireturn, 1) := by decide +kernel
theorem dz_M_one_87 : decode zm_M_one.2.1 87 = .ok (.aload_n 0, 1) := by decide +kernel
theorem dz_M_one_88 : decode zm_M_one.2.1 88 = .ok (.getfield 7, 3) := by decide +kernel
theorem dz_M_one_91 : decode zm_M_one.2.1 91 = .ok (.iload_n 1, 1) := by decide +kernel
theorem dz_M_one_92 : decode zm_M_one.2.1 92 = .ok (.iaload, 1) := by decide +kernel
theorem dz_M_one_93 : decode zm_M_one.2.1 93 = .ok (.ireturn, 1) := by decide +kernel
theorem dz_M_one_94 : decode zm_M_one.2.1 94 = .ok (.aload_n 0, 1) := by decide +kernel
theorem dz_M_one_95 : decode zm_M_one.2.1 95 = .ok (.getfield 7, 3) := by decide +kernel
theorem dz_M_one_98 : decode zm_M_one.2.1 98 = .ok (.bipush 6, 2) := by decide +kernel
theorem dz_M_one_100 : decode zm_M_one.2.1 100 = .ok (.iload_n 1, 1) := by decide +kernel
theorem dz_M_one_101 : decode zm_M_one.2.1 101 = .ok (.iadd, 1) := by decide +kernel
theorem dz_M_one_102 : decode zm_M_one.2.1 102 = .ok (.iaload, 1) := by decide +kernel
theorem dz_M_one_103 : decode zm_M_one.2.1 103 = .ok (.ireturn, 1) := by decide +kernel
theorem dz_M_one_104 : decode zm_M_one.2.1 104 = .ok (.iload_n 3, 1) := by decide +kernel
theorem dz_M_one_105 : decode zm_M_one.2.1 105 = .ok (.iload_n 1, 1) := by decide +kernel
theorem dz_M_one_106 : decode zm_M_one.2.1 106 = .ok (.ishr, 1) := by decide +kernel
theorem dz_M_one_107 : decode zm_M_one.2.1 107 = .ok (.iconst 1, 1) := by decide +kernel
theorem dz_M_one_108 : decode zm_M_one.2.1 108 = .ok (.iand, 1) := by decide +kernel
theorem dz_M_one_109 : decode zm_M_one.2.1 109 = .ok (.ireturn, 1) := by decide +kernel
theorem dz_M_one_110 : decode zm_M_one.2.1 110 = .ok (.aload_n 0, 1) := by decide +kernel
theorem dz_M_one_111 : decode zm_M_one.2.1 111 = .ok (.iload_n 1, 1) := by decide +kernel
theorem dz_M_one_112 : decode zm_M_one.2.1 112 = .ok (.iload_n 3, 1) := by decide +kernel
theorem dz_M_one_113 : decode zm_M_one.2.1 113 = .ok (.invokevirtual 173, 3) := by decide +kernel
theorem dz_M_one_116 : decode zm_M_one.2.1 116 = .ok (.ireturn, 1) := by decide +kernel
theorem dz_M_one_117 : decode zm_M_one.2.1 117 = .ok (.aload_n 0, 1) := by decide +kernel
theorem dz_M_one_118 : decode zm_M_one.2.1 118 = .ok (.iload_n 1, 1) := by decide +kernel
theorem dz_M_one_119 : decode zm_M_one.2.1 119 = .ok (.iload_n 3, 1) := by decide +kernel
theorem dz_M_one_120 : decode zm_M_one.2.1 120 = .ok (.invokevirtual 180, 3) := by decide +kernel
theorem dz_M_one_123 : decode zm_M_one.2.1 123 = .ok (.ireturn, 1) := by decide +kernel
theorem dz_M_odd_0 : decode zm_M_odd.2.1 0 = .ok (.iload_n 1, 1) := by decide +kernel
theorem dz_M_odd_1 : decode zm_M_odd.2.1 1 = .ok (.invokestatic 209, 3) := by decide +kernel
theorem dz_M_odd_4 : decode zm_M_odd.2.1 4 = .ok (.ifCond .eq 17, 3) := by decide +kernel
theorem dz_M_odd_7 : decode zm_M_odd.2.1 7 = .ok (.aload_n 0, 1) := by decide +kernel
theorem dz_M_odd_8 : decode zm_M_odd.2.1 8 = .ok (.getfield 7, 3) := by decide +kernel
theorem dz_M_odd_11 : decode zm_M_odd.2.1 11 = .ok (.bipush 13, 2) := by decide +kernel
theorem dz_M_odd_13 : decode zm_M_odd.2.1 13 = .ok (.iload_n 1, 1) := by decide +kernel
theorem dz_M_odd_14 : decode zm_M_odd.2.1 14 = .ok (.iadd, 1) := by decide +kernel
theorem dz_M_odd_15 : decode zm_M_odd.2.1 15 = .ok (.iaload, 1) := by decide +kernel
theorem dz_M_odd_16 : decode zm_M_odd.2.1 16 = .ok (.iconst 5, 1) := by decide +kernel
theorem dz_M_odd_17 : decode zm_M_odd.2.1 17 = .ok (.iadd, 1) := by decide +kernel
theorem dz_M_odd_18 : decode zm_M_odd.2.1 18 = .ok (.goto 4, 3) := by decide +kernel
theorem dz_M_odd_21 : decode zm_M_odd.2.1 21 = .ok (.iconst (-1), 1) := by decide +kernel
theorem dz_M_odd_22 : decode zm_M_odd.2.1 22 = .ok (.ireturn, 1) := by decide +kernel
theorem dz_M_law_0 : decode zm_M_law.2.1 0 = .ok (.aload_n 0, 1) := by decide +kernel
theorem dz_M_law_1 : decode zm_M_law.2.1 1 = .ok (.iload_n 1, 1) := by decide +kernel
theorem dz_M_law_2 : decode zm_M_law.2.1 2 = .ok (.invokevirtual 212, 3) := by decide +kernel
theorem dz_M_law_5 : decode zm_M_law.2.1 5 = .ok (.ifCond .eq 15, 3) := by decide +kernel
theorem dz_M_law_8 : decode zm_M_law.2.1 8 = .ok (.iload_n 2, 1) := by decide +kernel
theorem dz_M_law_9 : decode zm_M_law.2.1 9 = .ok (.i2l, 1) := by decide +kernel
theorem dz_M_law_10 : decode zm_M_law.2.1 10 = .ok (.lconst 0, 1) := by decide +kernel
theorem dz_M_law_11 : decode zm_M_law.2.1 11 = .ok (.ldc2_w 215, 3) := by decide +kernel
theorem dz_M_law_14 : decode zm_M_law.2.1 14 = .ok (.invokestatic 65, 3) := by decide +kernel
theorem dz_M_law_17 : decode zm_M_law.2.1 17 = .ok (.ifCond .ne 5, 3) := by decide +kernel
theorem dz_M_law_20 : decode zm_M_law.2.1 20 = .ok (.iconst (-1), 1) := by decide +kernel
theorem dz_M_law_21 : decode zm_M_law.2.1 21 = .ok (.ireturn, 1) := by decide +kernel
theorem dz_M_law_22 : decode zm_M_law.2.1 22 = .ok (.iload_n 2, 1) := by decide +kernel
theorem dz_M_law_23 : decode zm_M_law.2.1 23 = .ok (.tableswitch 87 0 6 #[41, 87, 87, 87, 51, 61, 74], 41) := by decide +kernel
theorem dz_M_law_64 : decode zm_M_law.2.1 64 = .ok (.aload_n 0, 1) := by decide +kernel
theorem dz_M_law_65 : decode zm_M_law.2.1 65 = .ok (.getfield 7, 3) := by decide +kernel
theorem dz_M_law_68 : decode zm_M_law.2.1 68 = .ok (.bipush 18, 2) := by decide +kernel
theorem dz_M_law_70 : decode zm_M_law.2.1 70 = .ok (.iload_n 1, 1) := by decide +kernel
theorem dz_M_law_71 : decode zm_M_law.2.1 71 = .ok (.iadd, 1) := by decide +kernel
theorem dz_M_law_72 : decode zm_M_law.2.1 72 = .ok (.iaload, 1) := by decide +kernel
theorem dz_M_law_73 : decode zm_M_law.2.1 73 = .ok (.ireturn, 1) := by decide +kernel
theorem dz_M_law_74 : decode zm_M_law.2.1 74 = .ok (.aload_n 0, 1) := by decide +kernel
theorem dz_M_law_75 : decode zm_M_law.2.1 75 = .ok (.getfield 7, 3) := by decide +kernel
theorem dz_M_law_78 : decode zm_M_law.2.1 78 = .ok (.bipush 23, 2) := by decide +kernel
theorem dz_M_law_80 : decode zm_M_law.2.1 80 = .ok (.iload_n 1, 1) := by decide +kernel
theorem dz_M_law_81 : decode zm_M_law.2.1 81 = .ok (.iadd, 1) := by decide +kernel
theorem dz_M_law_82 : decode zm_M_law.2.1 82 = .ok (.iaload, 1) := by decide +kernel
theorem dz_M_law_83 : decode zm_M_law.2.1 83 = .ok (.ireturn, 1) := by decide +kernel
theorem dz_M_law_84 : decode zm_M_law.2.1 84 = .ok (.aload_n 0, 1) := by decide +kernel
theorem dz_M_law_85 : decode zm_M_law.2.1 85 = .ok (.iload_n 1, 1) := by decide +kernel
theorem dz_M_law_86 : decode zm_M_law.2.1 86 = .ok (.aload_n 0, 1) := by decide +kernel
theorem dz_M_law_87 : decode zm_M_law.2.1 87 = .ok (.getfield 7, 3) := by decide +kernel
theorem dz_M_law_90 : decode zm_M_law.2.1 90 = .ok (.bipush 12, 2) := by decide +kernel
theorem dz_M_law_92 : decode zm_M_law.2.1 92 = .ok (.iaload, 1) := by decide +kernel
theorem dz_M_law_93 : decode zm_M_law.2.1 93 = .ok (.invokevirtual 187, 3) := by decide +kernel
theorem dz_M_law_96 : decode zm_M_law.2.1 96 = .ok (.ireturn, 1) := by decide +kernel
theorem dz_M_law_97 : decode zm_M_law.2.1 97 = .ok (.aload_n 0, 1) := by decide +kernel
theorem dz_M_law_98 : decode zm_M_law.2.1 98 = .ok (.iload_n 1, 1) := by decide +kernel
theorem dz_M_law_99 : decode zm_M_law.2.1 99 = .ok (.aload_n 0, 1) := by decide +kernel
theorem dz_M_law_100 : decode zm_M_law.2.1 100 = .ok (.getfield 7, 3) := by decide +kernel
theorem dz_M_law_103 : decode zm_M_law.2.1 103 = .ok (.bipush 12, 2) := by decide +kernel
theorem dz_M_law_105 : decode zm_M_law.2.1 105 = .ok (.iaload, 1) := by decide +kernel
theorem dz_M_law_106 : decode zm_M_law.2.1 106 = .ok (.invokevirtual 197, 3) := by decide +kernel
theorem dz_M_law_109 : decode zm_M_law.2.1 109 = .ok (.ireturn, 1) := by decide +kernel
theorem dz_M_law_110 : decode zm_M_law.2.1 110 = .ok (.aload_n 0, 1) := by decide +kernel
theorem dz_M_law_111 : decode zm_M_law.2.1 111 = .ok (.getfield 16, 3) := by decide +kernel
theorem dz_M_law_114 : decode zm_M_law.2.1 114 = .ok (.iconst 3, 1) := by decide +kernel
theorem dz_M_law_115 : decode zm_M_law.2.1 115 = .ok (.iload_n 1, 1) := by decide +kernel
theorem dz_M_law_116 : decode zm_M_law.2.1 116 = .ok (.imul, 1) := by decide +kernel
theorem dz_M_law_117 : decode zm_M_law.2.1 117 = .ok (.iload_n 2, 1) := by decide +kernel
theorem dz_M_law_118 : decode zm_M_law.2.1 118 = .ok (.iadd, 1) := by decide +kernel
theorem dz_M_law_119 : decode zm_M_law.2.1 119 = .ok (.iconst 1, 1) := by decide +kernel
theorem dz_M_law_120 : decode zm_M_law.2.1 120 = .ok (.isub, 1) := by decide +kernel
theorem dz_M_law_121 : decode zm_M_law.2.1 121 = .ok (.iaload, 1) := by decide +kernel
theorem dz_M_law_122 : decode zm_M_law.2.1 122 = .ok (.ireturn, 1) := by decide +kernel
theorem dz_M_owner_0 : decode zm_M_owner.2.1 0 = .ok (.iload_n 1, 1) := by decide +kernel
theorem dz_M_owner_1 : decode zm_M_owner.2.1 1 = .ok (.invokestatic 217, 3) := by decide +kernel
theorem dz_M_owner_4 : decode zm_M_owner.2.1 4 = .ok (.ifCond .eq 18, 3) := by decide +kernel
theorem dz_M_owner_7 : decode zm_M_owner.2.1 7 = .ok (.aload_n 0, 1) := by decide +kernel
theorem dz_M_owner_8 : decode zm_M_owner.2.1 8 = .ok (.iload_n 1, 1) := by decide +kernel
theorem dz_M_owner_9 : decode zm_M_owner.2.1 9 = .ok (.aload_n 0, 1) := by decide +kernel
theorem dz_M_owner_10 : decode zm_M_owner.2.1 10 = .ok (.getfield 7, 3) := by decide +kernel
theorem dz_M_owner_13 : decode zm_M_owner.2.1 13 = .ok (.bipush 12, 2) := by decide +kernel
theorem dz_M_owner_15 : decode zm_M_owner.2.1 15 = .ok (.iaload, 1) := by decide +kernel
theorem dz_M_owner_16 : decode zm_M_owner.2.1 16 = .ok (.invokevirtual 220, 3) := by decide +kernel
theorem dz_M_owner_19 : decode zm_M_owner.2.1 19 = .ok (.goto 4, 3) := by decide +kernel
theorem dz_M_owner_22 : decode zm_M_owner.2.1 22 = .ok (.iconst (-1), 1) := by decide +kernel
theorem dz_M_owner_23 : decode zm_M_owner.2.1 23 = .ok (.ireturn, 1) := by decide +kernel
theorem dz_M_by_0 : decode zm_M_by.2.1 0 = .ok (.iload_n 1, 1) := by decide +kernel
theorem dz_M_by_1 : decode zm_M_by.2.1 1 = .ok (.invokestatic 217, 3) := by decide +kernel
theorem dz_M_by_4 : decode zm_M_by.2.1 4 = .ok (.ifCond .eq 22, 3) := by decide +kernel
theorem dz_M_by_7 : decode zm_M_by.2.1 7 = .ok (.aload_n 0, 1) := by decide +kernel
theorem dz_M_by_8 : decode zm_M_by.2.1 8 = .ok (.iload_n 1, 1) := by decide +kernel
theorem dz_M_by_9 : decode zm_M_by.2.1 9 = .ok (.aload_n 0, 1) := by decide +kernel
theorem dz_M_by_10 : decode zm_M_by.2.1 10 = .ok (.getfield 7, 3) := by decide +kernel
theorem dz_M_by_13 : decode zm_M_by.2.1 13 = .ok (.bipush 12, 2) := by decide +kernel
theorem dz_M_by_15 : decode zm_M_by.2.1 15 = .ok (.iaload, 1) := by decide +kernel
theorem dz_M_by_16 : decode zm_M_by.2.1 16 = .ok (.bipush 31, 2) := by decide +kernel
theorem dz_M_by_18 : decode zm_M_by.2.1 18 = .ok (.bipush (-4), 2) := by decide +kernel
theorem dz_M_by_20 : decode zm_M_by.2.1 20 = .ok (.invokevirtual 193, 3) := by decide +kernel
theorem dz_M_by_23 : decode zm_M_by.2.1 23 = .ok (.goto 4, 3) := by decide +kernel
theorem dz_M_by_26 : decode zm_M_by.2.1 26 = .ok (.iconst (-1), 1) := by decide +kernel
theorem dz_M_by_27 : decode zm_M_by.2.1 27 = .ok (.ireturn, 1) := by decide +kernel
theorem dz_M_sets_0 : decode zm_M_sets.2.1 0 = .ok (.iload_n 1, 1) := by decide +kernel
theorem dz_M_sets_1 : decode zm_M_sets.2.1 1 = .ok (.ifCond .ne 5, 3) := by decide +kernel
theorem dz_M_sets_4 : decode zm_M_sets.2.1 4 = .ok (.iconst (-1), 1) := by decide +kernel
theorem dz_M_sets_5 : decode zm_M_sets.2.1 5 = .ok (.ireturn, 1) := by decide +kernel
theorem dz_M_sets_6 : decode zm_M_sets.2.1 6 = .ok (.aload_n 0, 1) := by decide +kernel
theorem dz_M_sets_7 : decode zm_M_sets.2.1 7 = .ok (.getfield 7, 3) := by decide +kernel
theorem dz_M_sets_10 : decode zm_M_sets.2.1 10 = .ok (.iload_n 2, 1) := by decide +kernel
theorem dz_M_sets_11 : decode zm_M_sets.2.1 11 = .ok (.iaload, 1) := by decide +kernel
theorem dz_M_sets_12 : decode zm_M_sets.2.1 12 = .ok (.istore 4, 2) := by decide +kernel
theorem dz_M_sets_14 : decode zm_M_sets.2.1 14 = .ok (.aload_n 0, 1) := by decide +kernel
theorem dz_M_sets_15 : decode zm_M_sets.2.1 15 = .ok (.getfield 7, 3) := by decide +kernel
theorem dz_M_sets_18 : decode zm_M_sets.2.1 18 = .ok (.iload_n 2, 1) := by decide +kernel
theorem dz_M_sets_19 : decode zm_M_sets.2.1 19 = .ok (.iload_n 3, 1) := by decide +kernel
theorem dz_M_sets_20 : decode zm_M_sets.2.1 20 = .ok (.iastore, 1) := by decide +kernel
theorem dz_M_sets_21 : decode zm_M_sets.2.1 21 = .ok (.iload 4, 2) := by decide +kernel
theorem dz_M_sets_23 : decode zm_M_sets.2.1 23 = .ok (.ireturn, 1) := by decide +kernel
theorem dz_M_isDeed_0 : decode zm_M_isDeed.2.1 0 = .ok (.iload_n 1, 1) := by decide +kernel
theorem dz_M_isDeed_1 : decode zm_M_isDeed.2.1 1 = .ok (.ifCond .lt 27, 3) := by decide +kernel
theorem dz_M_isDeed_4 : decode zm_M_isDeed.2.1 4 = .ok (.aload_n 0, 1) := by decide +kernel
theorem dz_M_isDeed_5 : decode zm_M_isDeed.2.1 5 = .ok (.iload_n 1, 1) := by decide +kernel
theorem dz_M_isDeed_6 : decode zm_M_isDeed.2.1 6 = .ok (.bipush 10, 2) := by decide +kernel
theorem dz_M_isDeed_8 : decode zm_M_isDeed.2.1 8 = .ok (.idiv, 1) := by decide +kernel
theorem dz_M_isDeed_9 : decode zm_M_isDeed.2.1 9 = .ok (.invokevirtual 203, 3) := by decide +kernel
theorem dz_M_isDeed_12 : decode zm_M_isDeed.2.1 12 = .ok (.ifCond .eq 16, 3) := by decide +kernel
theorem dz_M_isDeed_15 : decode zm_M_isDeed.2.1 15 = .ok (.iload_n 1, 1) := by decide +kernel
theorem dz_M_isDeed_16 : decode zm_M_isDeed.2.1 16 = .ok (.bipush 10, 2) := by decide +kernel
theorem dz_M_isDeed_18 : decode zm_M_isDeed.2.1 18 = .ok (.irem, 1) := by decide +kernel
theorem dz_M_isDeed_19 : decode zm_M_isDeed.2.1 19 = .ok (.bipush 6, 2) := by decide +kernel
theorem dz_M_isDeed_21 : decode zm_M_isDeed.2.1 21 = .ok (.if_icmp .gt 7, 3) := by decide +kernel
theorem dz_M_isDeed_24 : decode zm_M_isDeed.2.1 24 = .ok (.iconst 1, 1) := by decide +kernel
theorem dz_M_isDeed_25 : decode zm_M_isDeed.2.1 25 = .ok (.goto 4, 3) := by decide +kernel
theorem dz_M_isDeed_28 : decode zm_M_isDeed.2.1 28 = .ok (.iconst 0, 1) := by decide +kernel
theorem dz_M_isDeed_29 : decode zm_M_isDeed.2.1 29 = .ok (.ireturn, 1) := by decide +kernel
theorem dz_M_canDo_0 : decode zm_M_canDo.2.1 0 = .ok (.iload_n 1, 1) := by decide +kernel
theorem dz_M_canDo_1 : decode zm_M_canDo.2.1 1 = .ok (.bipush 10, 2) := by decide +kernel
theorem dz_M_canDo_3 : decode zm_M_canDo.2.1 3 = .ok (.idiv, 1) := by decide +kernel
theorem dz_M_canDo_4 : decode zm_M_canDo.2.1 4 = .ok (.istore_n 2, 1) := by decide +kernel
theorem dz_M_canDo_5 : decode zm_M_canDo.2.1 5 = .ok (.iload_n 1, 1) := by decide +kernel
theorem dz_M_canDo_6 : decode zm_M_canDo.2.1 6 = .ok (.bipush 10, 2) := by decide +kernel
theorem dz_M_canDo_8 : decode zm_M_canDo.2.1 8 = .ok (.irem, 1) := by decide +kernel
theorem dz_M_canDo_9 : decode zm_M_canDo.2.1 9 = .ok (.istore_n 3, 1) := by decide +kernel
theorem dz_M_canDo_10 : decode zm_M_canDo.2.1 10 = .ok (.iload_n 3, 1) := by decide +kernel
theorem dz_M_canDo_11 : decode zm_M_canDo.2.1 11 = .ok (.bipush 6, 2) := by decide +kernel
theorem dz_M_canDo_13 : decode zm_M_canDo.2.1 13 = .ok (.if_icmp .eq 34, 3) := by decide +kernel
theorem dz_M_canDo_16 : decode zm_M_canDo.2.1 16 = .ok (.aload_n 0, 1) := by decide +kernel
theorem dz_M_canDo_17 : decode zm_M_canDo.2.1 17 = .ok (.getfield 7, 3) := by decide +kernel
theorem dz_M_canDo_20 : decode zm_M_canDo.2.1 20 = .ok (.bipush 6, 2) := by decide +kernel
theorem dz_M_canDo_22 : decode zm_M_canDo.2.1 22 = .ok (.iload_n 2, 1) := by decide +kernel
theorem dz_M_canDo_23 : decode zm_M_canDo.2.1 23 = .ok (.iadd, 1) := by decide +kernel
theorem dz_M_canDo_24 : decode zm_M_canDo.2.1 24 = .ok (.iaload, 1) := by decide +kernel
theorem dz_M_canDo_25 : decode zm_M_canDo.2.1 25 = .ok (.iconst 3, 1) := by decide +kernel
theorem dz_M_canDo_26 : decode zm_M_canDo.2.1 26 = .ok (.if_icmp .ge 25, 3) := by decide +kernel
theorem dz_M_canDo_29 : decode zm_M_canDo.2.1 29 = .ok (.iload_n 3, 1) := by decide +kernel
theorem dz_M_canDo_30 : decode zm_M_canDo.2.1 30 = .ok (.iconst 5, 1) := by decide +kernel
theorem dz_M_canDo_31 : decode zm_M_canDo.2.1 31 = .ok (.if_icmp .eq 16, 3) := by decide +kernel
theorem dz_M_canDo_34 : decode zm_M_canDo.2.1 34 = .ok (.aload_n 0, 1) := by decide +kernel
theorem dz_M_canDo_35 : decode zm_M_canDo.2.1 35 = .ok (.getfield 7, 3) := by decide +kernel
theorem dz_M_canDo_38 : decode zm_M_canDo.2.1 38 = .ok (.iload_n 2, 1) := by decide +kernel
theorem dz_M_canDo_39 : decode zm_M_canDo.2.1 39 = .ok (.iaload, 1) := by decide +kernel
theorem dz_M_canDo_40 : decode zm_M_canDo.2.1 40 = .ok (.iload_n 3, 1) := by decide +kernel
theorem dz_M_canDo_41 : decode zm_M_canDo.2.1 41 = .ok (.ishr, 1) := by decide +kernel
theorem dz_M_canDo_42 : decode zm_M_canDo.2.1 42 = .ok (.iconst 1, 1) := by decide +kernel
theorem dz_M_canDo_43 : decode zm_M_canDo.2.1 43 = .ok (.iand, 1) := by decide +kernel
theorem dz_M_canDo_44 : decode zm_M_canDo.2.1 44 = .ok (.ifCond .ne 7, 3) := by decide +kernel
theorem dz_M_canDo_47 : decode zm_M_canDo.2.1 47 = .ok (.iconst 1, 1) := by decide +kernel
theorem dz_M_canDo_48 : decode zm_M_canDo.2.1 48 = .ok (.goto 4, 3) := by decide +kernel
theorem dz_M_canDo_51 : decode zm_M_canDo.2.1 51 = .ok (.iconst 0, 1) := by decide +kernel
theorem dz_M_canDo_52 : decode zm_M_canDo.2.1 52 = .ok (.istore 4, 2) := by decide +kernel
theorem dz_M_canDo_54 : decode zm_M_canDo.2.1 54 = .ok (.iload_n 2, 1) := by decide +kernel
theorem dz_M_canDo_55 : decode zm_M_canDo.2.1 55 = .ok (.aload_n 0, 1) := by decide +kernel
theorem dz_M_canDo_56 : decode zm_M_canDo.2.1 56 = .ok (.getfield 7, 3) := by decide +kernel
theorem dz_M_canDo_59 : decode zm_M_canDo.2.1 59 = .ok (.bipush 12, 2) := by decide +kernel
theorem dz_M_canDo_61 : decode zm_M_canDo.2.1 61 = .ok (.iaload, 1) := by decide +kernel
theorem dz_M_canDo_62 : decode zm_M_canDo.2.1 62 = .ok (.invokestatic 169, 3) := by decide +kernel
theorem dz_M_canDo_65 : decode zm_M_canDo.2.1 65 = .ok (.ifCond .eq 12, 3) := by decide +kernel
theorem dz_M_canDo_68 : decode zm_M_canDo.2.1 68 = .ok (.iload 4, 2) := by decide +kernel
theorem dz_M_canDo_70 : decode zm_M_canDo.2.1 70 = .ok (.ifCond .eq 7, 3) := by decide +kernel
theorem dz_M_canDo_73 : decode zm_M_canDo.2.1 73 = .ok (.iconst 1, 1) := by decide +kernel
theorem dz_M_canDo_74 : decode zm_M_canDo.2.1 74 = .ok (.goto 4, 3) := by decide +kernel
theorem dz_M_canDo_77 : decode zm_M_canDo.2.1 77 = .ok (.iconst 0, 1) := by decide +kernel
theorem dz_M_canDo_78 : decode zm_M_canDo.2.1 78 = .ok (.ireturn, 1) := by decide +kernel
end
section
theorem dz_M_doesIt_0 : decode zm_M_doesIt.2.1 0 = .ok (.iload_n 1, 1) := by decide +kernel
theorem dz_M_doesIt_1 : decode zm_M_doesIt.2.1 1 = .ok (.bipush 10, 2) := by decide +kernel
theorem dz_M_doesIt_3 : decode zm_M_doesIt.2.1 3 = .ok (.idiv, 1) := by decide +kernel
theorem dz_M_doesIt_4 : decode zm_M_doesIt.2.1 4 = .ok (.istore_n 2, 1) := by decide +kernel
theorem dz_M_doesIt_5 : decode zm_M_doesIt.2.1 5 = .ok (.iload_n 1, 1) := by decide +kernel
theorem dz_M_doesIt_6 : decode zm_M_doesIt.2.1 6 = .ok (.bipush 10, 2) := by decide +kernel
theorem dz_M_doesIt_8 : decode zm_M_doesIt.2.1 8 = .ok (.irem, 1) := by decide +kernel
theorem dz_M_doesIt_9 : decode zm_M_doesIt.2.1 9 = .ok (.istore_n 3, 1) := by decide +kernel
theorem dz_M_doesIt_10 : decode zm_M_doesIt.2.1 10 = .ok (.aload_n 0, 1) := by decide +kernel
theorem dz_M_doesIt_11 : decode zm_M_doesIt.2.1 11 = .ok (.getfield 7, 3) := by decide +kernel
theorem dz_M_doesIt_14 : decode zm_M_doesIt.2.1 14 = .ok (.iload_n 2, 1) := by decide +kernel
theorem dz_M_doesIt_15 : decode zm_M_doesIt.2.1 15 = .ok (.dup2, 1) := by decide +kernel
theorem dz_M_doesIt_16 : decode zm_M_doesIt.2.1 16 = .ok (.iaload, 1) := by decide +kernel
theorem dz_M_doesIt_17 : decode zm_M_doesIt.2.1 17 = .ok (.iload_n 3, 1) := by decide +kernel
theorem dz_M_doesIt_18 : decode zm_M_doesIt.2.1 18 = .ok (.iconst 5, 1) := by decide +kernel
theorem dz_M_doesIt_19 : decode zm_M_doesIt.2.1 19 = .ok (.if_icmp .ge 9, 3) := by decide +kernel
theorem dz_M_doesIt_22 : decode zm_M_doesIt.2.1 22 = .ok (.iconst 1, 1) := by decide +kernel
theorem dz_M_doesIt_23 : decode zm_M_doesIt.2.1 23 = .ok (.iload_n 3, 1) := by decide +kernel
theorem dz_M_doesIt_24 : decode zm_M_doesIt.2.1 24 = .ok (.ishl, 1) := by decide +kernel
theorem dz_M_doesIt_25 : decode zm_M_doesIt.2.1 25 = .ok (.goto 4, 3) := by decide +kernel
theorem dz_M_doesIt_28 : decode zm_M_doesIt.2.1 28 = .ok (.iconst 0, 1) := by decide +kernel
theorem dz_M_doesIt_29 : decode zm_M_doesIt.2.1 29 = .ok (.ior, 1) := by decide +kernel
theorem dz_M_doesIt_30 : decode zm_M_doesIt.2.1 30 = .ok (.iastore, 1) := by decide +kernel
theorem dz_M_doesIt_31 : decode zm_M_doesIt.2.1 31 = .ok (.aload_n 0, 1) := by decide +kernel
theorem dz_M_doesIt_32 : decode zm_M_doesIt.2.1 32 = .ok (.getfield 7, 3) := by decide +kernel
theorem dz_M_doesIt_35 : decode zm_M_doesIt.2.1 35 = .ok (.bipush 6, 2) := by decide +kernel
theorem dz_M_doesIt_37 : decode zm_M_doesIt.2.1 37 = .ok (.iload_n 2, 1) := by decide +kernel
theorem dz_M_doesIt_38 : decode zm_M_doesIt.2.1 38 = .ok (.iadd, 1) := by decide +kernel
theorem dz_M_doesIt_39 : decode zm_M_doesIt.2.1 39 = .ok (.dup2, 1) := by decide +kernel
theorem dz_M_doesIt_40 : decode zm_M_doesIt.2.1 40 = .ok (.iaload, 1) := by decide +kernel
theorem dz_M_doesIt_41 : decode zm_M_doesIt.2.1 41 = .ok (.iload_n 3, 1) := by decide +kernel
theorem dz_M_doesIt_42 : decode zm_M_doesIt.2.1 42 = .ok (.bipush 6, 2) := by decide +kernel
theorem dz_M_doesIt_44 : decode zm_M_doesIt.2.1 44 = .ok (.if_icmp .ne 7, 3) := by decide +kernel
theorem dz_M_doesIt_47 : decode zm_M_doesIt.2.1 47 = .ok (.iconst 0, 1) := by decide +kernel
theorem dz_M_doesIt_48 : decode zm_M_doesIt.2.1 48 = .ok (.goto 4, 3) := by decide +kernel
theorem dz_M_doesIt_51 : decode zm_M_doesIt.2.1 51 = .ok (.iconst 1, 1) := by decide +kernel
theorem dz_M_doesIt_52 : decode zm_M_doesIt.2.1 52 = .ok (.iadd, 1) := by decide +kernel
theorem dz_M_doesIt_53 : decode zm_M_doesIt.2.1 53 = .ok (.iastore, 1) := by decide +kernel
theorem dz_M_doesIt_54 : decode zm_M_doesIt.2.1 54 = .ok (.aload_n 0, 1) := by decide +kernel
theorem dz_M_doesIt_55 : decode zm_M_doesIt.2.1 55 = .ok (.getfield 7, 3) := by decide +kernel
theorem dz_M_doesIt_58 : decode zm_M_doesIt.2.1 58 = .ok (.bipush 12, 2) := by decide +kernel
theorem dz_M_doesIt_60 : decode zm_M_doesIt.2.1 60 = .ok (.dup2, 1) := by decide +kernel
theorem dz_M_doesIt_61 : decode zm_M_doesIt.2.1 61 = .ok (.iaload, 1) := by decide +kernel
theorem dz_M_doesIt_62 : decode zm_M_doesIt.2.1 62 = .ok (.iload_n 3, 1) := by decide +kernel
theorem dz_M_doesIt_63 : decode zm_M_doesIt.2.1 63 = .ok (.bipush 6, 2) := by decide +kernel
theorem dz_M_doesIt_65 : decode zm_M_doesIt.2.1 65 = .ok (.if_icmp .ne 9, 3) := by decide +kernel
theorem dz_M_doesIt_68 : decode zm_M_doesIt.2.1 68 = .ok (.iconst 1, 1) := by decide +kernel
theorem dz_M_doesIt_69 : decode zm_M_doesIt.2.1 69 = .ok (.iload_n 2, 1) := by decide +kernel
theorem dz_M_doesIt_70 : decode zm_M_doesIt.2.1 70 = .ok (.ishl, 1) := by decide +kernel
theorem dz_M_doesIt_71 : decode zm_M_doesIt.2.1 71 = .ok (.goto 4, 3) := by decide +kernel
theorem dz_M_doesIt_74 : decode zm_M_doesIt.2.1 74 = .ok (.iconst 0, 1) := by decide +kernel
theorem dz_M_doesIt_75 : decode zm_M_doesIt.2.1 75 = .ok (.ior, 1) := by decide +kernel
theorem dz_M_doesIt_76 : decode zm_M_doesIt.2.1 76 = .ok (.iastore, 1) := by decide +kernel
theorem dz_M_doesIt_77 : decode zm_M_doesIt.2.1 77 = .ok (.return_, 1) := by decide +kernel
theorem dz_M_done_0 : decode zm_M_done.2.1 0 = .ok (.aload_n 0, 1) := by decide +kernel
theorem dz_M_done_1 : decode zm_M_done.2.1 1 = .ok (.iload_n 1, 1) := by decide +kernel
theorem dz_M_done_2 : decode zm_M_done.2.1 2 = .ok (.invokevirtual 223, 3) := by decide +kernel
theorem dz_M_done_5 : decode zm_M_done.2.1 5 = .ok (.ifCond .ne 5, 3) := by decide +kernel
theorem dz_M_done_8 : decode zm_M_done.2.1 8 = .ok (.iconst (-1), 1) := by decide +kernel
theorem dz_M_done_9 : decode zm_M_done.2.1 9 = .ok (.ireturn, 1) := by decide +kernel
theorem dz_M_done_10 : decode zm_M_done.2.1 10 = .ok (.aload_n 0, 1) := by decide +kernel
theorem dz_M_done_11 : decode zm_M_done.2.1 11 = .ok (.iload_n 1, 1) := by decide +kernel
theorem dz_M_done_12 : decode zm_M_done.2.1 12 = .ok (.invokevirtual 226, 3) := by decide +kernel
theorem dz_M_done_15 : decode zm_M_done.2.1 15 = .ok (.ifCond .ne 6, 3) := by decide +kernel
theorem dz_M_done_18 : decode zm_M_done.2.1 18 = .ok (.bipush (-2), 2) := by decide +kernel
theorem dz_M_done_20 : decode zm_M_done.2.1 20 = .ok (.ireturn, 1) := by decide +kernel
theorem dz_M_done_21 : decode zm_M_done.2.1 21 = .ok (.aload_n 0, 1) := by decide +kernel
theorem dz_M_done_22 : decode zm_M_done.2.1 22 = .ok (.iload_n 1, 1) := by decide +kernel
theorem dz_M_done_23 : decode zm_M_done.2.1 23 = .ok (.invokevirtual 229, 3) := by decide +kernel
theorem dz_M_done_26 : decode zm_M_done.2.1 26 = .ok (.aload_n 0, 1) := by decide +kernel
theorem dz_M_done_27 : decode zm_M_done.2.1 27 = .ok (.getfield 7, 3) := by decide +kernel
theorem dz_M_done_30 : decode zm_M_done.2.1 30 = .ok (.bipush 6, 2) := by decide +kernel
theorem dz_M_done_32 : decode zm_M_done.2.1 32 = .ok (.iload_n 1, 1) := by decide +kernel
theorem dz_M_done_33 : decode zm_M_done.2.1 33 = .ok (.bipush 10, 2) := by decide +kernel
theorem dz_M_done_35 : decode zm_M_done.2.1 35 = .ok (.idiv, 1) := by decide +kernel
theorem dz_M_done_36 : decode zm_M_done.2.1 36 = .ok (.iadd, 1) := by decide +kernel
theorem dz_M_done_37 : decode zm_M_done.2.1 37 = .ok (.iaload, 1) := by decide +kernel
theorem dz_M_done_38 : decode zm_M_done.2.1 38 = .ok (.ireturn, 1) := by decide +kernel
theorem dz_M_does_0 : decode zm_M_does.2.1 0 = .ok (.aload_n 0, 1) := by decide +kernel
theorem dz_M_does_1 : decode zm_M_does.2.1 1 = .ok (.iload_n 1, 1) := by decide +kernel
theorem dz_M_does_2 : decode zm_M_does.2.1 2 = .ok (.invokevirtual 232, 3) := by decide +kernel
theorem dz_M_does_5 : decode zm_M_does.2.1 5 = .ok (.ireturn, 1) := by decide +kernel
theorem dz_M_comes_0 : decode zm_M_comes.2.1 0 = .ok (.aload_n 0, 1) := by decide +kernel
theorem dz_M_comes_1 : decode zm_M_comes.2.1 1 = .ok (.iload_n 1, 1) := by decide +kernel
theorem dz_M_comes_2 : decode zm_M_comes.2.1 2 = .ok (.invokevirtual 203, 3) := by decide +kernel
theorem dz_M_comes_5 : decode zm_M_comes.2.1 5 = .ok (.ifCond .ne 5, 3) := by decide +kernel
theorem dz_M_comes_8 : decode zm_M_comes.2.1 8 = .ok (.iconst (-1), 1) := by decide +kernel
theorem dz_M_comes_9 : decode zm_M_comes.2.1 9 = .ok (.ireturn, 1) := by decide +kernel
theorem dz_M_comes_10 : decode zm_M_comes.2.1 10 = .ok (.aload_n 0, 1) := by decide +kernel
theorem dz_M_comes_11 : decode zm_M_comes.2.1 11 = .ok (.getfield 7, 3) := by decide +kernel
theorem dz_M_comes_14 : decode zm_M_comes.2.1 14 = .ok (.bipush 12, 2) := by decide +kernel
theorem dz_M_comes_16 : decode zm_M_comes.2.1 16 = .ok (.iaload, 1) := by decide +kernel
theorem dz_M_comes_17 : decode zm_M_comes.2.1 17 = .ok (.iload_n 1, 1) := by decide +kernel
theorem dz_M_comes_18 : decode zm_M_comes.2.1 18 = .ok (.ishr, 1) := by decide +kernel
theorem dz_M_comes_19 : decode zm_M_comes.2.1 19 = .ok (.iconst 1, 1) := by decide +kernel
theorem dz_M_comes_20 : decode zm_M_comes.2.1 20 = .ok (.iand, 1) := by decide +kernel
theorem dz_M_comes_21 : decode zm_M_comes.2.1 21 = .ok (.istore_n 2, 1) := by decide +kernel
theorem dz_M_comes_22 : decode zm_M_comes.2.1 22 = .ok (.aload_n 0, 1) := by decide +kernel
theorem dz_M_comes_23 : decode zm_M_comes.2.1 23 = .ok (.getfield 7, 3) := by decide +kernel
theorem dz_M_comes_26 : decode zm_M_comes.2.1 26 = .ok (.bipush 12, 2) := by decide +kernel
theorem dz_M_comes_28 : decode zm_M_comes.2.1 28 = .ok (.dup2, 1) := by decide +kernel
theorem dz_M_comes_29 : decode zm_M_comes.2.1 29 = .ok (.iaload, 1) := by decide +kernel
theorem dz_M_comes_30 : decode zm_M_comes.2.1 30 = .ok (.iconst 1, 1) := by decide +kernel
theorem dz_M_comes_31 : decode zm_M_comes.2.1 31 = .ok (.iload_n 1, 1) := by decide +kernel
theorem dz_M_comes_32 : decode zm_M_comes.2.1 32 = .ok (.ishl, 1) := by decide +kernel
theorem dz_M_comes_33 : decode zm_M_comes.2.1 33 = .ok (.iconst (-1), 1) := by decide +kernel
theorem dz_M_comes_34 : decode zm_M_comes.2.1 34 = .ok (.ixor, 1) := by decide +kernel
theorem dz_M_comes_35 : decode zm_M_comes.2.1 35 = .ok (.iand, 1) := by decide +kernel
theorem dz_M_comes_36 : decode zm_M_comes.2.1 36 = .ok (.iastore, 1) := by decide +kernel
theorem dz_M_comes_37 : decode zm_M_comes.2.1 37 = .ok (.iload_n 2, 1) := by decide +kernel
theorem dz_M_comes_38 : decode zm_M_comes.2.1 38 = .ok (.ireturn, 1) := by decide +kernel
theorem dz_M_tries_0 : decode zm_M_tries.2.1 0 = .ok (.aload_n 0, 1) := by decide +kernel
theorem dz_M_tries_1 : decode zm_M_tries.2.1 1 = .ok (.aload_n 0, 1) := by decide +kernel
theorem dz_M_tries_2 : decode zm_M_tries.2.1 2 = .ok (.iload_n 1, 1) := by decide +kernel
theorem dz_M_tries_3 : decode zm_M_tries.2.1 3 = .ok (.invokevirtual 203, 3) := by decide +kernel
theorem dz_M_tries_6 : decode zm_M_tries.2.1 6 = .ok (.ifCond .eq 19, 3) := by decide +kernel
theorem dz_M_tries_9 : decode zm_M_tries.2.1 9 = .ok (.iload_n 2, 1) := by decide +kernel
theorem dz_M_tries_10 : decode zm_M_tries.2.1 10 = .ok (.i2l, 1) := by decide +kernel
theorem dz_M_tries_11 : decode zm_M_tries.2.1 11 = .ok (.lconst 0, 1) := by decide +kernel
theorem dz_M_tries_12 : decode zm_M_tries.2.1 12 = .ok (.ldc2_w 167, 3) := by decide +kernel
theorem dz_M_tries_15 : decode zm_M_tries.2.1 15 = .ok (.invokestatic 65, 3) := by decide +kernel
theorem dz_M_tries_18 : decode zm_M_tries.2.1 18 = .ok (.ifCond .eq 7, 3) := by decide +kernel
theorem dz_M_tries_21 : decode zm_M_tries.2.1 21 = .ok (.iconst 1, 1) := by decide +kernel
theorem dz_M_tries_22 : decode zm_M_tries.2.1 22 = .ok (.goto 4, 3) := by decide +kernel
theorem dz_M_tries_25 : decode zm_M_tries.2.1 25 = .ok (.iconst 0, 1) := by decide +kernel
theorem dz_M_tries_26 : decode zm_M_tries.2.1 26 = .ok (.bipush 6, 2) := by decide +kernel
theorem dz_M_tries_28 : decode zm_M_tries.2.1 28 = .ok (.iload_n 1, 1) := by decide +kernel
theorem dz_M_tries_29 : decode zm_M_tries.2.1 29 = .ok (.iadd, 1) := by decide +kernel
theorem dz_M_tries_30 : decode zm_M_tries.2.1 30 = .ok (.iload_n 2, 1) := by decide +kernel
theorem dz_M_tries_31 : decode zm_M_tries.2.1 31 = .ok (.invokevirtual 235, 3) := by decide +kernel
theorem dz_M_tries_34 : decode zm_M_tries.2.1 34 = .ok (.ireturn, 1) := by decide +kernel
theorem dz_M_hush_0 : decode zm_M_hush.2.1 0 = .ok (.aload_n 0, 1) := by decide +kernel
theorem dz_M_hush_1 : decode zm_M_hush.2.1 1 = .ok (.iload_n 1, 1) := by decide +kernel
theorem dz_M_hush_2 : decode zm_M_hush.2.1 2 = .ok (.invokevirtual 203, 3) := by decide +kernel
theorem dz_M_hush_5 : decode zm_M_hush.2.1 5 = .ok (.ifCond .eq 10, 3) := by decide +kernel
theorem dz_M_hush_8 : decode zm_M_hush.2.1 8 = .ok (.iload_n 2, 1) := by decide +kernel
theorem dz_M_hush_9 : decode zm_M_hush.2.1 9 = .ok (.invokestatic 209, 3) := by decide +kernel
theorem dz_M_hush_12 : decode zm_M_hush.2.1 12 = .ok (.ifCond .ne 5, 3) := by decide +kernel
theorem dz_M_hush_15 : decode zm_M_hush.2.1 15 = .ok (.iconst (-1), 1) := by decide +kernel
theorem dz_M_hush_16 : decode zm_M_hush.2.1 16 = .ok (.ireturn, 1) := by decide +kernel
theorem dz_M_hush_17 : decode zm_M_hush.2.1 17 = .ok (.aload_n 0, 1) := by decide +kernel
theorem dz_M_hush_18 : decode zm_M_hush.2.1 18 = .ok (.getfield 7, 3) := by decide +kernel
theorem dz_M_hush_21 : decode zm_M_hush.2.1 21 = .ok (.iload_n 1, 1) := by decide +kernel
theorem dz_M_hush_22 : decode zm_M_hush.2.1 22 = .ok (.iaload, 1) := by decide +kernel
theorem dz_M_hush_23 : decode zm_M_hush.2.1 23 = .ok (.iload_n 2, 1) := by decide +kernel
theorem dz_M_hush_24 : decode zm_M_hush.2.1 24 = .ok (.ishr, 1) := by decide +kernel
theorem dz_M_hush_25 : decode zm_M_hush.2.1 25 = .ok (.iconst 1, 1) := by decide +kernel
theorem dz_M_hush_26 : decode zm_M_hush.2.1 26 = .ok (.iand, 1) := by decide +kernel
theorem dz_M_hush_27 : decode zm_M_hush.2.1 27 = .ok (.istore_n 3, 1) := by decide +kernel
theorem dz_M_hush_28 : decode zm_M_hush.2.1 28 = .ok (.aload_n 0, 1) := by decide +kernel
theorem dz_M_hush_29 : decode zm_M_hush.2.1 29 = .ok (.getfield 7, 3) := by decide +kernel
theorem dz_M_hush_32 : decode zm_M_hush.2.1 32 = .ok (.iload_n 1, 1) := by decide +kernel
theorem dz_M_hush_33 : decode zm_M_hush.2.1 33 = .ok (.dup2, 1) := by decide +kernel
theorem dz_M_hush_34 : decode zm_M_hush.2.1 34 = .ok (.iaload, 1) := by decide +kernel
theorem dz_M_hush_35 : decode zm_M_hush.2.1 35 = .ok (.iconst 1, 1) := by decide +kernel
theorem dz_M_hush_36 : decode zm_M_hush.2.1 36 = .ok (.iload_n 2, 1) := by decide +kernel
theorem dz_M_hush_37 : decode zm_M_hush.2.1 37 = .ok (.ishl, 1) := by decide +kernel
theorem dz_M_hush_38 : decode zm_M_hush.2.1 38 = .ok (.iconst (-1), 1) := by decide +kernel
theorem dz_M_hush_39 : decode zm_M_hush.2.1 39 = .ok (.ixor, 1) := by decide +kernel
theorem dz_M_hush_40 : decode zm_M_hush.2.1 40 = .ok (.iand, 1) := by decide +kernel
theorem dz_M_hush_41 : decode zm_M_hush.2.1 41 = .ok (.iastore, 1) := by decide +kernel
theorem dz_M_hush_42 : decode zm_M_hush.2.1 42 = .ok (.iload_n 3, 1) := by decide +kernel
theorem dz_M_hush_43 : decode zm_M_hush.2.1 43 = .ok (.ireturn, 1) := by decide +kernel
theorem dz_M_weigh_0 : decode zm_M_weigh.2.1 0 = .ok (.iload_n 1, 1) := by decide +kernel
theorem dz_M_weigh_1 : decode zm_M_weigh.2.1 1 = .ok (.invokestatic 209, 3) := by decide +kernel
theorem dz_M_weigh_4 : decode zm_M_weigh.2.1 4 = .ok (.ifCond .eq 32, 3) := by decide +kernel
theorem dz_M_weigh_7 : decode zm_M_weigh.2.1 7 = .ok (.iload_n 2, 1) := by decide +kernel
theorem dz_M_weigh_8 : decode zm_M_weigh.2.1 8 = .ok (.i2l, 1) := by decide +kernel
theorem dz_M_weigh_9 : decode zm_M_weigh.2.1 9 = .ok (.lconst 0, 1) := by decide +kernel
theorem dz_M_weigh_10 : decode zm_M_weigh.2.1 10 = .ok (.ldc2_w 239, 3) := by decide +kernel
theorem dz_M_weigh_13 : decode zm_M_weigh.2.1 13 = .ok (.invokestatic 65, 3) := by decide +kernel
theorem dz_M_weigh_16 : decode zm_M_weigh.2.1 16 = .ok (.ifCond .eq 20, 3) := by decide +kernel
theorem dz_M_weigh_19 : decode zm_M_weigh.2.1 19 = .ok (.iconst 5, 1) := by decide +kernel
theorem dz_M_weigh_20 : decode zm_M_weigh.2.1 20 = .ok (.aload_n 0, 1) := by decide +kernel
theorem dz_M_weigh_21 : decode zm_M_weigh.2.1 21 = .ok (.iconst 1, 1) := by decide +kernel
theorem dz_M_weigh_22 : decode zm_M_weigh.2.1 22 = .ok (.bipush 13, 2) := by decide +kernel
theorem dz_M_weigh_24 : decode zm_M_weigh.2.1 24 = .ok (.iload_n 1, 1) := by decide +kernel
theorem dz_M_weigh_25 : decode zm_M_weigh.2.1 25 = .ok (.iadd, 1) := by decide +kernel
theorem dz_M_weigh_26 : decode zm_M_weigh.2.1 26 = .ok (.iload_n 2, 1) := by decide +kernel
theorem dz_M_weigh_27 : decode zm_M_weigh.2.1 27 = .ok (.iconst 5, 1) := by decide +kernel
theorem dz_M_weigh_28 : decode zm_M_weigh.2.1 28 = .ok (.isub, 1) := by decide +kernel
theorem dz_M_weigh_29 : decode zm_M_weigh.2.1 29 = .ok (.invokevirtual 235, 3) := by decide +kernel
theorem dz_M_weigh_32 : decode zm_M_weigh.2.1 32 = .ok (.iadd, 1) := by decide +kernel
theorem dz_M_weigh_33 : decode zm_M_weigh.2.1 33 = .ok (.goto 4, 3) := by decide +kernel
theorem dz_M_weigh_36 : decode zm_M_weigh.2.1 36 = .ok (.iconst (-1), 1) := by decide +kernel
theorem dz_M_weigh_37 : decode zm_M_weigh.2.1 37 = .ok (.ireturn, 1) := by decide +kernel
theorem dz_M_rank_0 : decode zm_M_rank.2.1 0 = .ok (.aload_n 0, 1) := by decide +kernel
theorem dz_M_rank_1 : decode zm_M_rank.2.1 1 = .ok (.iload_n 1, 1) := by decide +kernel
theorem dz_M_rank_2 : decode zm_M_rank.2.1 2 = .ok (.invokevirtual 212, 3) := by decide +kernel
theorem dz_M_rank_5 : decode zm_M_rank.2.1 5 = .ok (.ifCond .eq 15, 3) := by decide +kernel
theorem dz_M_rank_8 : decode zm_M_rank.2.1 8 = .ok (.iload_n 2, 1) := by decide +kernel
theorem dz_M_rank_9 : decode zm_M_rank.2.1 9 = .ok (.i2l, 1) := by decide +kernel
theorem dz_M_rank_10 : decode zm_M_rank.2.1 10 = .ok (.lconst 1, 1) := by decide +kernel
theorem dz_M_rank_11 : decode zm_M_rank.2.1 11 = .ok (.ldc2_w 123, 3) := by decide +kernel
theorem dz_M_rank_14 : decode zm_M_rank.2.1 14 = .ok (.invokestatic 65, 3) := by decide +kernel
theorem dz_M_rank_17 : decode zm_M_rank.2.1 17 = .ok (.ifCond .ne 5, 3) := by decide +kernel
theorem dz_M_rank_20 : decode zm_M_rank.2.1 20 = .ok (.iconst (-1), 1) := by decide +kernel
theorem dz_M_rank_21 : decode zm_M_rank.2.1 21 = .ok (.ireturn, 1) := by decide +kernel
theorem dz_M_rank_22 : decode zm_M_rank.2.1 22 = .ok (.iconst 0, 1) := by decide +kernel
theorem dz_M_rank_23 : decode zm_M_rank.2.1 23 = .ok (.istore_n 3, 1) := by decide +kernel
theorem dz_M_rank_24 : decode zm_M_rank.2.1 24 = .ok (.iload_n 3, 1) := by decide +kernel
theorem dz_M_rank_25 : decode zm_M_rank.2.1 25 = .ok (.aload_n 0, 1) := by decide +kernel
theorem dz_M_rank_26 : decode zm_M_rank.2.1 26 = .ok (.getfield 161, 3) := by decide +kernel
theorem dz_M_rank_29 : decode zm_M_rank.2.1 29 = .ok (.if_icmp .ge 49, 3) := by decide +kernel
theorem dz_M_rank_32 : decode zm_M_rank.2.1 32 = .ok (.iload_n 3, 1) := by decide +kernel
theorem dz_M_rank_33 : decode zm_M_rank.2.1 33 = .ok (.iload_n 1, 1) := by decide +kernel
theorem dz_M_rank_34 : decode zm_M_rank.2.1 34 = .ok (.if_icmp .eq 38, 3) := by decide +kernel
theorem dz_M_rank_37 : decode zm_M_rank.2.1 37 = .ok (.aload_n 0, 1) := by decide +kernel
theorem dz_M_rank_38 : decode zm_M_rank.2.1 38 = .ok (.getfield 16, 3) := by decide +kernel
theorem dz_M_rank_41 : decode zm_M_rank.2.1 41 = .ok (.iconst 3, 1) := by decide +kernel
theorem dz_M_rank_42 : decode zm_M_rank.2.1 42 = .ok (.iload_n 3, 1) := by decide +kernel
theorem dz_M_rank_43 : decode zm_M_rank.2.1 43 = .ok (.imul, 1) := by decide +kernel
theorem dz_M_rank_44 : decode zm_M_rank.2.1 44 = .ok (.iaload, 1) := by decide +kernel
theorem dz_M_rank_45 : decode zm_M_rank.2.1 45 = .ok (.aload_n 0, 1) := by decide +kernel
theorem dz_M_rank_46 : decode zm_M_rank.2.1 46 = .ok (.getfield 16, 3) := by decide +kernel
theorem dz_M_rank_49 : decode zm_M_rank.2.1 49 = .ok (.iconst 3, 1) := by decide +kernel
theorem dz_M_rank_50 : decode zm_M_rank.2.1 50 = .ok (.iload_n 1, 1) := by decide +kernel
theorem dz_M_rank_51 : decode zm_M_rank.2.1 51 = .ok (.imul, 1) := by decide +kernel
theorem dz_M_rank_52 : decode zm_M_rank.2.1 52 = .ok (.iaload, 1) := by decide +kernel
theorem dz_M_rank_53 : decode zm_M_rank.2.1 53 = .ok (.if_icmp .ne 19, 3) := by decide +kernel
theorem dz_M_rank_56 : decode zm_M_rank.2.1 56 = .ok (.aload_n 0, 1) := by decide +kernel
theorem dz_M_rank_57 : decode zm_M_rank.2.1 57 = .ok (.getfield 7, 3) := by decide +kernel
theorem dz_M_rank_60 : decode zm_M_rank.2.1 60 = .ok (.bipush 18, 2) := by decide +kernel
theorem dz_M_rank_62 : decode zm_M_rank.2.1 62 = .ok (.iload_n 3, 1) := by decide +kernel
theorem dz_M_rank_63 : decode zm_M_rank.2.1 63 = .ok (.iadd, 1) := by decide +kernel
theorem dz_M_rank_64 : decode zm_M_rank.2.1 64 = .ok (.iaload, 1) := by decide +kernel
theorem dz_M_rank_65 : decode zm_M_rank.2.1 65 = .ok (.iload_n 2, 1) := by decide +kernel
theorem dz_M_rank_66 : decode zm_M_rank.2.1 66 = .ok (.if_icmp .ne 6, 3) := by decide +kernel
theorem dz_M_rank_69 : decode zm_M_rank.2.1 69 = .ok (.bipush (-2), 2) := by decide +kernel
theorem dz_M_rank_71 : decode zm_M_rank.2.1 71 = .ok (.ireturn, 1) := by decide +kernel
theorem dz_M_rank_72 : decode zm_M_rank.2.1 72 = .ok (.iinc 3 1, 3) := by decide +kernel
theorem dz_M_rank_75 : decode zm_M_rank.2.1 75 = .ok (.goto (-51), 3) := by decide +kernel
theorem dz_M_rank_78 : decode zm_M_rank.2.1 78 = .ok (.aload_n 0, 1) := by decide +kernel
theorem dz_M_rank_79 : decode zm_M_rank.2.1 79 = .ok (.iconst 1, 1) := by decide +kernel
theorem dz_M_rank_80 : decode zm_M_rank.2.1 80 = .ok (.bipush 18, 2) := by decide +kernel
theorem dz_M_rank_82 : decode zm_M_rank.2.1 82 = .ok (.iload_n 1, 1) := by decide +kernel
theorem dz_M_rank_83 : decode zm_M_rank.2.1 83 = .ok (.iadd, 1) := by decide +kernel
theorem dz_M_rank_84 : decode zm_M_rank.2.1 84 = .ok (.iload_n 2, 1) := by decide +kernel
theorem dz_M_rank_85 : decode zm_M_rank.2.1 85 = .ok (.invokevirtual 235, 3) := by decide +kernel
theorem dz_M_rank_88 : decode zm_M_rank.2.1 88 = .ok (.ireturn, 1) := by decide +kernel
theorem dz_M_pick_0 : decode zm_M_pick.2.1 0 = .ok (.aload_n 0, 1) := by decide +kernel
theorem dz_M_pick_1 : decode zm_M_pick.2.1 1 = .ok (.aload_n 0, 1) := by decide +kernel
theorem dz_M_pick_2 : decode zm_M_pick.2.1 2 = .ok (.iload_n 1, 1) := by decide +kernel
theorem dz_M_pick_3 : decode zm_M_pick.2.1 3 = .ok (.invokevirtual 212, 3) := by decide +kernel
theorem dz_M_pick_6 : decode zm_M_pick.2.1 6 = .ok (.ifCond .eq 19, 3) := by decide +kernel
theorem dz_M_pick_9 : decode zm_M_pick.2.1 9 = .ok (.iload_n 2, 1) := by decide +kernel
theorem dz_M_pick_10 : decode zm_M_pick.2.1 10 = .ok (.i2l, 1) := by decide +kernel
theorem dz_M_pick_11 : decode zm_M_pick.2.1 11 = .ok (.lconst 0, 1) := by decide +kernel
theorem dz_M_pick_12 : decode zm_M_pick.2.1 12 = .ok (.ldc2_w 241, 3) := by decide +kernel
theorem dz_M_pick_15 : decode zm_M_pick.2.1 15 = .ok (.invokestatic 65, 3) := by decide +kernel
theorem dz_M_pick_18 : decode zm_M_pick.2.1 18 = .ok (.ifCond .eq 7, 3) := by decide +kernel
theorem dz_M_pick_21 : decode zm_M_pick.2.1 21 = .ok (.iconst 1, 1) := by decide +kernel
theorem dz_M_pick_22 : decode zm_M_pick.2.1 22 = .ok (.goto 4, 3) := by decide +kernel
theorem dz_M_pick_25 : decode zm_M_pick.2.1 25 = .ok (.iconst 0, 1) := by decide +kernel
theorem dz_M_pick_26 : decode zm_M_pick.2.1 26 = .ok (.bipush 23, 2) := by decide +kernel
theorem dz_M_pick_28 : decode zm_M_pick.2.1 28 = .ok (.iload_n 1, 1) := by decide +kernel
theorem dz_M_pick_29 : decode zm_M_pick.2.1 29 = .ok (.iadd, 1) := by decide +kernel
theorem dz_M_pick_30 : decode zm_M_pick.2.1 30 = .ok (.iload_n 2, 1) := by decide +kernel
theorem dz_M_pick_31 : decode zm_M_pick.2.1 31 = .ok (.invokevirtual 235, 3) := by decide +kernel
theorem dz_M_pick_34 : decode zm_M_pick.2.1 34 = .ok (.ireturn, 1) := by decide +kernel
theorem dz_M_copies_0 : decode zm_M_copies.2.1 0 = .ok (.iconst 0, 1) := by decide +kernel
theorem dz_M_copies_1 : decode zm_M_copies.2.1 1 = .ok (.istore_n 3, 1) := by decide +kernel
theorem dz_M_copies_2 : decode zm_M_copies.2.1 2 = .ok (.iload_n 3, 1) := by decide +kernel
theorem dz_M_copies_3 : decode zm_M_copies.2.1 3 = .ok (.bipush 28, 2) := by decide +kernel
theorem dz_M_copies_5 : decode zm_M_copies.2.1 5 = .ok (.if_icmp .ge 25, 3) := by decide +kernel
theorem dz_M_copies_8 : decode zm_M_copies.2.1 8 = .ok (.aload_n 0, 1) := by decide +kernel
theorem dz_M_copies_9 : decode zm_M_copies.2.1 9 = .ok (.getfield 7, 3) := by decide +kernel
theorem dz_M_copies_12 : decode zm_M_copies.2.1 12 = .ok (.iload_n 2, 1) := by decide +kernel
theorem dz_M_copies_13 : decode zm_M_copies.2.1 13 = .ok (.iload_n 3, 1) := by decide +kernel
theorem dz_M_copies_14 : decode zm_M_copies.2.1 14 = .ok (.iadd, 1) := by decide +kernel
theorem dz_M_copies_15 : decode zm_M_copies.2.1 15 = .ok (.aload_n 0, 1) := by decide +kernel
theorem dz_M_copies_16 : decode zm_M_copies.2.1 16 = .ok (.getfield 7, 3) := by decide +kernel
theorem dz_M_copies_19 : decode zm_M_copies.2.1 19 = .ok (.iload_n 1, 1) := by decide +kernel
theorem dz_M_copies_20 : decode zm_M_copies.2.1 20 = .ok (.iload_n 3, 1) := by decide +kernel
theorem dz_M_copies_21 : decode zm_M_copies.2.1 21 = .ok (.iadd, 1) := by decide +kernel
theorem dz_M_copies_22 : decode zm_M_copies.2.1 22 = .ok (.iaload, 1) := by decide +kernel
theorem dz_M_copies_23 : decode zm_M_copies.2.1 23 = .ok (.iastore, 1) := by decide +kernel
theorem dz_M_copies_24 : decode zm_M_copies.2.1 24 = .ok (.iinc 3 1, 3) := by decide +kernel
theorem dz_M_copies_27 : decode zm_M_copies.2.1 27 = .ok (.goto (-25), 3) := by decide +kernel
theorem dz_M_copies_30 : decode zm_M_copies.2.1 30 = .ok (.return_, 1) := by decide +kernel
theorem dz_M_isHisBy_0 : decode zm_M_isHisBy.2.1 0 = .ok (.iload_n 3, 1) := by decide +kernel
theorem dz_M_isHisBy_1 : decode zm_M_isHisBy.2.1 1 = .ok (.ifCond .ne 7, 3) := by decide +kernel
theorem dz_M_isHisBy_4 : decode zm_M_isHisBy.2.1 4 = .ok (.iconst 0, 1) := by decide +kernel
theorem dz_M_isHisBy_5 : decode zm_M_isHisBy.2.1 5 = .ok (.goto 25, 3) := by decide +kernel
theorem dz_M_isHisBy_8 : decode zm_M_isHisBy.2.1 8 = .ok (.iload_n 3, 1) := by decide +kernel
theorem dz_M_isHisBy_9 : decode zm_M_isHisBy.2.1 9 = .ok (.iconst 1, 1) := by decide +kernel
theorem dz_M_isHisBy_10 : decode zm_M_isHisBy.2.1 10 = .ok (.if_icmp .ne 7, 3) := by decide +kernel
theorem dz_M_isHisBy_13 : decode zm_M_isHisBy.2.1 13 = .ok (.iconst 1, 1) := by decide +kernel
theorem dz_M_isHisBy_14 : decode zm_M_isHisBy.2.1 14 = .ok (.goto 16, 3) := by decide +kernel
theorem dz_M_isHisBy_17 : decode zm_M_isHisBy.2.1 17 = .ok (.iload_n 3, 1) := by decide +kernel
theorem dz_M_isHisBy_18 : decode zm_M_isHisBy.2.1 18 = .ok (.iconst 2, 1) := by decide +kernel
theorem dz_M_isHisBy_19 : decode zm_M_isHisBy.2.1 19 = .ok (.if_icmp .ne 8, 3) := by decide +kernel
theorem dz_M_isHisBy_22 : decode zm_M_isHisBy.2.1 22 = .ok (.bipush 60, 2) := by decide +kernel
theorem dz_M_isHisBy_24 : decode zm_M_isHisBy.2.1 24 = .ok (.goto 6, 3) := by decide +kernel
theorem dz_M_isHisBy_27 : decode zm_M_isHisBy.2.1 27 = .ok (.sipush 3600, 3) := by decide +kernel
theorem dz_M_isHisBy_30 : decode zm_M_isHisBy.2.1 30 = .ok (.istore 5, 2) := by decide +kernel
theorem dz_M_isHisBy_32 : decode zm_M_isHisBy.2.1 32 = .ok (.iconst 1, 1) := by decide +kernel
theorem dz_M_isHisBy_33 : decode zm_M_isHisBy.2.1 33 = .ok (.istore 6, 2) := by decide +kernel
theorem dz_M_isHisBy_35 : decode zm_M_isHisBy.2.1 35 = .ok (.aload_n 0, 1) := by decide +kernel
theorem dz_M_isHisBy_36 : decode zm_M_isHisBy.2.1 36 = .ok (.iconst 1, 1) := by decide +kernel
theorem dz_M_isHisBy_37 : decode zm_M_isHisBy.2.1 37 = .ok (.putfield 243, 3) := by decide +kernel
theorem dz_M_isHisBy_40 : decode zm_M_isHisBy.2.1 40 = .ok (.aload_n 0, 1) := by decide +kernel
theorem dz_M_isHisBy_41 : decode zm_M_isHisBy.2.1 41 = .ok (.iconst 0, 1) := by decide +kernel
theorem dz_M_isHisBy_42 : decode zm_M_isHisBy.2.1 42 = .ok (.bipush 84, 2) := by decide +kernel
theorem dz_M_isHisBy_44 : decode zm_M_isHisBy.2.1 44 = .ok (.invokevirtual 246, 3) := by decide +kernel
theorem dz_M_isHisBy_47 : decode zm_M_isHisBy.2.1 47 = .ok (.iconst 0, 1) := by decide +kernel
theorem dz_M_isHisBy_48 : decode zm_M_isHisBy.2.1 48 = .ok (.istore 7, 2) := by decide +kernel
theorem dz_M_isHisBy_50 : decode zm_M_isHisBy.2.1 50 = .ok (.iload 7, 2) := by decide +kernel
theorem dz_M_isHisBy_52 : decode zm_M_isHisBy.2.1 52 = .ok (.iload_n 3, 1) := by decide +kernel
theorem dz_M_isHisBy_53 : decode zm_M_isHisBy.2.1 53 = .ok (.if_icmp .ge 102, 3) := by decide +kernel
theorem dz_M_isHisBy_56 : decode zm_M_isHisBy.2.1 56 = .ok (.iload 6, 2) := by decide +kernel
theorem dz_M_isHisBy_58 : decode zm_M_isHisBy.2.1 58 = .ok (.ifCond .eq 97, 3) := by decide +kernel
theorem dz_M_isHisBy_61 : decode zm_M_isHisBy.2.1 61 = .ok (.aload_n 0, 1) := by decide +kernel
theorem dz_M_isHisBy_62 : decode zm_M_isHisBy.2.1 62 = .ok (.getfield 40, 3) := by decide +kernel
theorem dz_M_isHisBy_65 : decode zm_M_isHisBy.2.1 65 = .ok (.iload 7, 2) := by decide +kernel
theorem dz_M_isHisBy_67 : decode zm_M_isHisBy.2.1 67 = .ok (.iload 4, 2) := by decide +kernel
theorem dz_M_isHisBy_69 : decode zm_M_isHisBy.2.1 69 = .ok (.iload 5, 2) := by decide +kernel
theorem dz_M_isHisBy_71 : decode zm_M_isHisBy.2.1 71 = .ok (.idiv, 1) := by decide +kernel
theorem dz_M_isHisBy_72 : decode zm_M_isHisBy.2.1 72 = .ok (.bipush 60, 2) := by decide +kernel
theorem dz_M_isHisBy_74 : decode zm_M_isHisBy.2.1 74 = .ok (.irem, 1) := by decide +kernel
theorem dz_M_isHisBy_75 : decode zm_M_isHisBy.2.1 75 = .ok (.iastore, 1) := by decide +kernel
theorem dz_M_isHisBy_76 : decode zm_M_isHisBy.2.1 76 = .ok (.aload_n 0, 1) := by decide +kernel
theorem dz_M_isHisBy_77 : decode zm_M_isHisBy.2.1 77 = .ok (.aload_n 0, 1) := by decide +kernel
theorem dz_M_isHisBy_78 : decode zm_M_isHisBy.2.1 78 = .ok (.getfield 40, 3) := by decide +kernel
theorem dz_M_isHisBy_81 : decode zm_M_isHisBy.2.1 81 = .ok (.iload 7, 2) := by decide +kernel
theorem dz_M_isHisBy_83 : decode zm_M_isHisBy.2.1 83 = .ok (.iaload, 1) := by decide +kernel
theorem dz_M_isHisBy_84 : decode zm_M_isHisBy.2.1 84 = .ok (.invokevirtual 223, 3) := by decide +kernel
theorem dz_M_isHisBy_87 : decode zm_M_isHisBy.2.1 87 = .ok (.ifCond .eq 21, 3) := by decide +kernel
theorem dz_M_isHisBy_90 : decode zm_M_isHisBy.2.1 90 = .ok (.aload_n 0, 1) := by decide +kernel
theorem dz_M_isHisBy_91 : decode zm_M_isHisBy.2.1 91 = .ok (.aload_n 0, 1) := by decide +kernel
theorem dz_M_isHisBy_92 : decode zm_M_isHisBy.2.1 92 = .ok (.getfield 40, 3) := by decide +kernel
theorem dz_M_isHisBy_95 : decode zm_M_isHisBy.2.1 95 = .ok (.iload 7, 2) := by decide +kernel
theorem dz_M_isHisBy_97 : decode zm_M_isHisBy.2.1 97 = .ok (.iaload, 1) := by decide +kernel
theorem dz_M_isHisBy_98 : decode zm_M_isHisBy.2.1 98 = .ok (.invokevirtual 226, 3) := by decide +kernel
theorem dz_M_isHisBy_101 : decode zm_M_isHisBy.2.1 101 = .ok (.ifCond .eq 7, 3) := by decide +kernel
theorem dz_M_isHisBy_104 : decode zm_M_isHisBy.2.1 104 = .ok (.iconst 1, 1) := by decide +kernel
theorem dz_M_isHisBy_105 : decode zm_M_isHisBy.2.1 105 = .ok (.goto 4, 3) := by decide +kernel
theorem dz_M_isHisBy_108 : decode zm_M_isHisBy.2.1 108 = .ok (.iconst 0, 1) := by decide +kernel
theorem dz_M_isHisBy_109 : decode zm_M_isHisBy.2.1 109 = .ok (.istore 6, 2) := by decide +kernel
theorem dz_M_isHisBy_111 : decode zm_M_isHisBy.2.1 111 = .ok (.aload_n 0, 1) := by decide +kernel
theorem dz_M_isHisBy_112 : decode zm_M_isHisBy.2.1 112 = .ok (.iload 6, 2) := by decide +kernel
theorem dz_M_isHisBy_114 : decode zm_M_isHisBy.2.1 114 = .ok (.ifCond .eq 7, 3) := by decide +kernel
theorem dz_M_isHisBy_117 : decode zm_M_isHisBy.2.1 117 = .ok (.iconst 1, 1) := by decide +kernel
theorem dz_M_isHisBy_118 : decode zm_M_isHisBy.2.1 118 = .ok (.goto 5, 3) := by decide +kernel
theorem dz_M_isHisBy_121 : decode zm_M_isHisBy.2.1 121 = .ok (.iload 5, 2) := by decide +kernel
theorem dz_M_isHisBy_123 : decode zm_M_isHisBy.2.1 123 = .ok (.putfield 243, 3) := by decide +kernel
theorem dz_M_isHisBy_126 : decode zm_M_isHisBy.2.1 126 = .ok (.iload 6, 2) := by decide +kernel
theorem dz_M_isHisBy_128 : decode zm_M_isHisBy.2.1 128 = .ok (.ifCond .eq 14, 3) := by decide +kernel
theorem dz_M_isHisBy_131 : decode zm_M_isHisBy.2.1 131 = .ok (.aload_n 0, 1) := by decide +kernel
theorem dz_M_isHisBy_132 : decode zm_M_isHisBy.2.1 132 = .ok (.aload_n 0, 1) := by decide +kernel
theorem dz_M_isHisBy_133 : decode zm_M_isHisBy.2.1 133 = .ok (.getfield 40, 3) := by decide +kernel
theorem dz_M_isHisBy_136 : decode zm_M_isHisBy.2.1 136 = .ok (.iload 7, 2) := by decide +kernel
theorem dz_M_isHisBy_138 : decode zm_M_isHisBy.2.1 138 = .ok (.iaload, 1) := by decide +kernel
theorem dz_M_isHisBy_139 : decode zm_M_isHisBy.2.1 139 = .ok (.invokevirtual 229, 3) := by decide +kernel
theorem dz_M_isHisBy_142 : decode zm_M_isHisBy.2.1 142 = .ok (.iload 5, 2) := by decide +kernel
theorem dz_M_isHisBy_144 : decode zm_M_isHisBy.2.1 144 = .ok (.bipush 60, 2) := by decide +kernel
theorem dz_M_isHisBy_146 : decode zm_M_isHisBy.2.1 146 = .ok (.idiv, 1) := by decide +kernel
theorem dz_M_isHisBy_147 : decode zm_M_isHisBy.2.1 147 = .ok (.istore 5, 2) := by decide +kernel
theorem dz_M_isHisBy_149 : decode zm_M_isHisBy.2.1 149 = .ok (.iinc 7 1, 3) := by decide +kernel
theorem dz_M_isHisBy_152 : decode zm_M_isHisBy.2.1 152 = .ok (.goto (-102), 3) := by decide +kernel
theorem dz_M_isHisBy_155 : decode zm_M_isHisBy.2.1 155 = .ok (.iload 6, 2) := by decide +kernel
theorem dz_M_isHisBy_157 : decode zm_M_isHisBy.2.1 157 = .ok (.ifCond .eq 23, 3) := by decide +kernel
theorem dz_M_isHisBy_160 : decode zm_M_isHisBy.2.1 160 = .ok (.aload_n 0, 1) := by decide +kernel
theorem dz_M_isHisBy_161 : decode zm_M_isHisBy.2.1 161 = .ok (.iload_n 2, 1) := by decide +kernel
theorem dz_M_isHisBy_162 : decode zm_M_isHisBy.2.1 162 = .ok (.aload_n 0, 1) := by decide +kernel
theorem dz_M_isHisBy_163 : decode zm_M_isHisBy.2.1 163 = .ok (.getfield 7, 3) := by decide +kernel
theorem dz_M_isHisBy_166 : decode zm_M_isHisBy.2.1 166 = .ok (.bipush 12, 2) := by decide +kernel
theorem dz_M_isHisBy_168 : decode zm_M_isHisBy.2.1 168 = .ok (.iaload, 1) := by decide +kernel
theorem dz_M_isHisBy_169 : decode zm_M_isHisBy.2.1 169 = .ok (.invokevirtual 220, 3) := by decide +kernel
theorem dz_M_isHisBy_172 : decode zm_M_isHisBy.2.1 172 = .ok (.iload_n 1, 1) := by decide +kernel
theorem dz_M_isHisBy_173 : decode zm_M_isHisBy.2.1 173 = .ok (.if_icmp .ne 7, 3) := by decide +kernel
theorem dz_M_isHisBy_176 : decode zm_M_isHisBy.2.1 176 = .ok (.iconst 1, 1) := by decide +kernel
theorem dz_M_isHisBy_177 : decode zm_M_isHisBy.2.1 177 = .ok (.goto 4, 3) := by decide +kernel
theorem dz_M_isHisBy_180 : decode zm_M_isHisBy.2.1 180 = .ok (.iconst 0, 1) := by decide +kernel
theorem dz_M_isHisBy_181 : decode zm_M_isHisBy.2.1 181 = .ok (.istore 7, 2) := by decide +kernel
theorem dz_M_isHisBy_183 : decode zm_M_isHisBy.2.1 183 = .ok (.aload_n 0, 1) := by decide +kernel
theorem dz_M_isHisBy_184 : decode zm_M_isHisBy.2.1 184 = .ok (.bipush 84, 2) := by decide +kernel
theorem dz_M_isHisBy_186 : decode zm_M_isHisBy.2.1 186 = .ok (.iconst 0, 1) := by decide +kernel
theorem dz_M_isHisBy_187 : decode zm_M_isHisBy.2.1 187 = .ok (.invokevirtual 246, 3) := by decide +kernel
theorem dz_M_isHisBy_190 : decode zm_M_isHisBy.2.1 190 = .ok (.iload 7, 2) := by decide +kernel
theorem dz_M_isHisBy_192 : decode zm_M_isHisBy.2.1 192 = .ok (.ireturn, 1) := by decide +kernel
theorem dz_M_claim_0 : decode zm_M_claim.2.1 0 = .ok (.aload_n 0, 1) := by decide +kernel
theorem dz_M_claim_1 : decode zm_M_claim.2.1 1 = .ok (.iload_n 1, 1) := by decide +kernel
theorem dz_M_claim_2 : decode zm_M_claim.2.1 2 = .ok (.invokevirtual 203, 3) := by decide +kernel
theorem dz_M_claim_5 : decode zm_M_claim.2.1 5 = .ok (.ifCond .eq 44, 3) := by decide +kernel
theorem dz_M_claim_8 : decode zm_M_claim.2.1 8 = .ok (.iload_n 2, 1) := by decide +kernel
theorem dz_M_claim_9 : decode zm_M_claim.2.1 9 = .ok (.invokestatic 217, 3) := by decide +kernel
theorem dz_M_claim_12 : decode zm_M_claim.2.1 12 = .ok (.ifCond .eq 37, 3) := by decide +kernel
theorem dz_M_claim_15 : decode zm_M_claim.2.1 15 = .ok (.iload_n 3, 1) := by decide +kernel
theorem dz_M_claim_16 : decode zm_M_claim.2.1 16 = .ok (.i2l, 1) := by decide +kernel
theorem dz_M_claim_17 : decode zm_M_claim.2.1 17 = .ok (.lconst 0, 1) := by decide +kernel
theorem dz_M_claim_18 : decode zm_M_claim.2.1 18 = .ok (.ldc2_w 167, 3) := by decide +kernel
theorem dz_M_claim_21 : decode zm_M_claim.2.1 21 = .ok (.invokestatic 65, 3) := by decide +kernel
theorem dz_M_claim_24 : decode zm_M_claim.2.1 24 = .ok (.ifCond .eq 25, 3) := by decide +kernel
theorem dz_M_claim_27 : decode zm_M_claim.2.1 27 = .ok (.iload 4, 2) := by decide +kernel
theorem dz_M_claim_29 : decode zm_M_claim.2.1 29 = .ok (.ifCond .eq 22, 3) := by decide +kernel
theorem dz_M_claim_32 : decode zm_M_claim.2.1 32 = .ok (.iload 4, 2) := by decide +kernel
theorem dz_M_claim_34 : decode zm_M_claim.2.1 34 = .ok (.i2l, 1) := by decide +kernel
theorem dz_M_claim_35 : decode zm_M_claim.2.1 35 = .ok (.ldc2_w 239, 3) := by decide +kernel
theorem dz_M_claim_38 : decode zm_M_claim.2.1 38 = .ok (.bipush 9, 2) := by decide +kernel
theorem dz_M_claim_40 : decode zm_M_claim.2.1 40 = .ok (.iload_n 3, 1) := by decide +kernel
theorem dz_M_claim_41 : decode zm_M_claim.2.1 41 = .ok (.iadd, 1) := by decide +kernel
theorem dz_M_claim_42 : decode zm_M_claim.2.1 42 = .ok (.i2l, 1) := by decide +kernel
theorem dz_M_claim_43 : decode zm_M_claim.2.1 43 = .ok (.invokestatic 65, 3) := by decide +kernel
theorem dz_M_claim_46 : decode zm_M_claim.2.1 46 = .ok (.ifCond .ne 5, 3) := by decide +kernel
theorem dz_M_claim_49 : decode zm_M_claim.2.1 49 = .ok (.iconst (-1), 1) := by decide +kernel
theorem dz_M_claim_50 : decode zm_M_claim.2.1 50 = .ok (.ireturn, 1) := by decide +kernel
theorem dz_M_claim_51 : decode zm_M_claim.2.1 51 = .ok (.iconst 1, 1) := by decide +kernel
theorem dz_M_claim_52 : decode zm_M_claim.2.1 52 = .ok (.istore 5, 2) := by decide +kernel
theorem dz_M_claim_54 : decode zm_M_claim.2.1 54 = .ok (.iconst 0, 1) := by decide +kernel
theorem dz_M_claim_55 : decode zm_M_claim.2.1 55 = .ok (.istore 6, 2) := by decide +kernel
theorem dz_M_claim_57 : decode zm_M_claim.2.1 57 = .ok (.iload 6, 2) := by decide +kernel
theorem dz_M_claim_59 : decode zm_M_claim.2.1 59 = .ok (.iload_n 3, 1) := by decide +kernel
theorem dz_M_claim_60 : decode zm_M_claim.2.1 60 = .ok (.if_icmp .gt 87, 3) := by decide +kernel
theorem dz_M_claim_63 : decode zm_M_claim.2.1 63 = .ok (.iconst 0, 1) := by decide +kernel
theorem dz_M_claim_64 : decode zm_M_claim.2.1 64 = .ok (.istore 7, 2) := by decide +kernel
theorem dz_M_claim_66 : decode zm_M_claim.2.1 66 = .ok (.iload 7, 2) := by decide +kernel
theorem dz_M_claim_68 : decode zm_M_claim.2.1 68 = .ok (.iload 5, 2) := by decide +kernel
theorem dz_M_claim_70 : decode zm_M_claim.2.1 70 = .ok (.if_icmp .ge 64, 3) := by decide +kernel
theorem dz_M_claim_73 : decode zm_M_claim.2.1 73 = .ok (.aload_n 0, 1) := by decide +kernel
theorem dz_M_claim_74 : decode zm_M_claim.2.1 74 = .ok (.iload_n 1, 1) := by decide +kernel
theorem dz_M_claim_75 : decode zm_M_claim.2.1 75 = .ok (.iload_n 2, 1) := by decide +kernel
theorem dz_M_claim_76 : decode zm_M_claim.2.1 76 = .ok (.iload 6, 2) := by decide +kernel
theorem dz_M_claim_78 : decode zm_M_claim.2.1 78 = .ok (.iload 7, 2) := by decide +kernel
theorem dz_M_claim_80 : decode zm_M_claim.2.1 80 = .ok (.invokevirtual 250, 3) := by decide +kernel
theorem dz_M_claim_83 : decode zm_M_claim.2.1 83 = .ok (.ifCond .eq 39, 3) := by decide +kernel
theorem dz_M_claim_86 : decode zm_M_claim.2.1 86 = .ok (.iload 4, 2) := by decide +kernel
theorem dz_M_claim_88 : decode zm_M_claim.2.1 88 = .ok (.ifCond .ne 8, 3) := by decide +kernel
theorem dz_M_claim_91 : decode zm_M_claim.2.1 91 = .ok (.iload 6, 2) := by decide +kernel
theorem dz_M_claim_93 : decode zm_M_claim.2.1 93 = .ok (.goto 28, 3) := by decide +kernel
theorem dz_M_claim_96 : decode zm_M_claim.2.1 96 = .ok (.iload 4, 2) := by decide +kernel
theorem dz_M_claim_98 : decode zm_M_claim.2.1 98 = .ok (.bipush 10, 2) := by decide +kernel
theorem dz_M_claim_100 : decode zm_M_claim.2.1 100 = .ok (.isub, 1) := by decide +kernel
theorem dz_M_claim_101 : decode zm_M_claim.2.1 101 = .ok (.iload 6, 2) := by decide +kernel
theorem dz_M_claim_103 : decode zm_M_claim.2.1 103 = .ok (.if_icmp .ge 16, 3) := by decide +kernel
theorem dz_M_claim_106 : decode zm_M_claim.2.1 106 = .ok (.aload_n 0, 1) := by decide +kernel
theorem dz_M_claim_107 : decode zm_M_claim.2.1 107 = .ok (.getfield 40, 3) := by decide +kernel
theorem dz_M_claim_110 : decode zm_M_claim.2.1 110 = .ok (.iload 4, 2) := by decide +kernel
theorem dz_M_claim_112 : decode zm_M_claim.2.1 112 = .ok (.bipush 10, 2) := by decide +kernel
theorem dz_M_claim_114 : decode zm_M_claim.2.1 114 = .ok (.isub, 1) := by decide +kernel
theorem dz_M_claim_115 : decode zm_M_claim.2.1 115 = .ok (.iaload, 1) := by decide +kernel
theorem dz_M_claim_116 : decode zm_M_claim.2.1 116 = .ok (.goto 5, 3) := by decide +kernel
theorem dz_M_claim_119 : decode zm_M_claim.2.1 119 = .ok (.bipush (-4), 2) := by decide +kernel
theorem dz_M_claim_121 : decode zm_M_claim.2.1 121 = .ok (.ireturn, 1) := by decide +kernel
theorem dz_M_claim_122 : decode zm_M_claim.2.1 122 = .ok (.iload 7, 2) := by decide +kernel
theorem dz_M_claim_124 : decode zm_M_claim.2.1 124 = .ok (.aload_n 0, 1) := by decide +kernel
theorem dz_M_claim_125 : decode zm_M_claim.2.1 125 = .ok (.getfield 243, 3) := by decide +kernel
theorem dz_M_claim_128 : decode zm_M_claim.2.1 128 = .ok (.iadd, 1) := by decide +kernel
theorem dz_M_claim_129 : decode zm_M_claim.2.1 129 = .ok (.istore 7, 2) := by decide +kernel
theorem dz_M_claim_131 : decode zm_M_claim.2.1 131 = .ok (.goto (-65), 3) := by decide +kernel
theorem dz_M_claim_134 : decode zm_M_claim.2.1 134 = .ok (.iload 5, 2) := by decide +kernel
theorem dz_M_claim_136 : decode zm_M_claim.2.1 136 = .ok (.bipush 60, 2) := by decide +kernel
theorem dz_M_claim_138 : decode zm_M_claim.2.1 138 = .ok (.imul, 1) := by decide +kernel
theorem dz_M_claim_139 : decode zm_M_claim.2.1 139 = .ok (.istore 5, 2) := by decide +kernel
theorem dz_M_claim_141 : decode zm_M_claim.2.1 141 = .ok (.iinc 6 1, 3) := by decide +kernel
theorem dz_M_claim_144 : decode zm_M_claim.2.1 144 = .ok (.goto (-87), 3) := by decide +kernel
theorem dz_M_claim_147 : decode zm_M_claim.2.1 147 = .ok (.bipush (-4), 2) := by decide +kernel
theorem dz_M_claim_149 : decode zm_M_claim.2.1 149 = .ok (.ireturn, 1) := by decide +kernel
theorem dz_M_pivot_0 : decode zm_M_pivot.2.1 0 = .ok (.iload_n 1, 1) := by decide +kernel
theorem dz_M_pivot_1 : decode zm_M_pivot.2.1 1 = .ok (.invokestatic 217, 3) := by decide +kernel
theorem dz_M_pivot_4 : decode zm_M_pivot.2.1 4 = .ok (.ifCond .ne 5, 3) := by decide +kernel
theorem dz_M_pivot_7 : decode zm_M_pivot.2.1 7 = .ok (.iconst (-1), 1) := by decide +kernel
theorem dz_M_pivot_8 : decode zm_M_pivot.2.1 8 = .ok (.ireturn, 1) := by decide +kernel
theorem dz_M_pivot_9 : decode zm_M_pivot.2.1 9 = .ok (.aload_n 0, 1) := by decide +kernel
theorem dz_M_pivot_10 : decode zm_M_pivot.2.1 10 = .ok (.getfield 7, 3) := by decide +kernel
theorem dz_M_pivot_13 : decode zm_M_pivot.2.1 13 = .ok (.bipush 12, 2) := by decide +kernel
theorem dz_M_pivot_15 : decode zm_M_pivot.2.1 15 = .ok (.iaload, 1) := by decide +kernel
theorem dz_M_pivot_16 : decode zm_M_pivot.2.1 16 = .ok (.istore_n 2, 1) := by decide +kernel
theorem dz_M_pivot_17 : decode zm_M_pivot.2.1 17 = .ok (.iconst 0, 1) := by decide +kernel
theorem dz_M_pivot_18 : decode zm_M_pivot.2.1 18 = .ok (.istore_n 3, 1) := by decide +kernel
theorem dz_M_pivot_19 : decode zm_M_pivot.2.1 19 = .ok (.iconst 0, 1) := by decide +kernel
theorem dz_M_pivot_20 : decode zm_M_pivot.2.1 20 = .ok (.istore 4, 2) := by decide +kernel
theorem dz_M_pivot_22 : decode zm_M_pivot.2.1 22 = .ok (.iload 4, 2) := by decide +kernel
theorem dz_M_pivot_24 : decode zm_M_pivot.2.1 24 = .ok (.aload_n 0, 1) := by decide +kernel
theorem dz_M_pivot_25 : decode zm_M_pivot.2.1 25 = .ok (.getfield 158, 3) := by decide +kernel
theorem dz_M_pivot_28 : decode zm_M_pivot.2.1 28 = .ok (.if_icmp .ge 49, 3) := by decide +kernel
theorem dz_M_pivot_31 : decode zm_M_pivot.2.1 31 = .ok (.iload_n 3, 1) := by decide +kernel
theorem dz_M_pivot_32 : decode zm_M_pivot.2.1 32 = .ok (.iload 4, 2) := by decide +kernel
theorem dz_M_pivot_34 : decode zm_M_pivot.2.1 34 = .ok (.iload_n 2, 1) := by decide +kernel
theorem dz_M_pivot_35 : decode zm_M_pivot.2.1 35 = .ok (.invokestatic 169, 3) := by decide +kernel
theorem dz_M_pivot_38 : decode zm_M_pivot.2.1 38 = .ok (.ifCond .eq 30, 3) := by decide +kernel
theorem dz_M_pivot_41 : decode zm_M_pivot.2.1 41 = .ok (.aload_n 0, 1) := by decide +kernel
theorem dz_M_pivot_42 : decode zm_M_pivot.2.1 42 = .ok (.iload_n 1, 1) := by decide +kernel
theorem dz_M_pivot_43 : decode zm_M_pivot.2.1 43 = .ok (.iload_n 2, 1) := by decide +kernel
theorem dz_M_pivot_44 : decode zm_M_pivot.2.1 44 = .ok (.iconst 1, 1) := by decide +kernel
theorem dz_M_pivot_45 : decode zm_M_pivot.2.1 45 = .ok (.iload 4, 2) := by decide +kernel
theorem dz_M_pivot_47 : decode zm_M_pivot.2.1 47 = .ok (.ishl, 1) := by decide +kernel
theorem dz_M_pivot_48 : decode zm_M_pivot.2.1 48 = .ok (.ior, 1) := by decide +kernel
theorem dz_M_pivot_49 : decode zm_M_pivot.2.1 49 = .ok (.invokevirtual 220, 3) := by decide +kernel
theorem dz_M_pivot_52 : decode zm_M_pivot.2.1 52 = .ok (.aload_n 0, 1) := by decide +kernel
theorem dz_M_pivot_53 : decode zm_M_pivot.2.1 53 = .ok (.iload_n 1, 1) := by decide +kernel
theorem dz_M_pivot_54 : decode zm_M_pivot.2.1 54 = .ok (.iload_n 2, 1) := by decide +kernel
theorem dz_M_pivot_55 : decode zm_M_pivot.2.1 55 = .ok (.invokevirtual 220, 3) := by decide +kernel
theorem dz_M_pivot_58 : decode zm_M_pivot.2.1 58 = .ok (.if_icmp .eq 10, 3) := by decide +kernel
theorem dz_M_pivot_61 : decode zm_M_pivot.2.1 61 = .ok (.iconst 1, 1) := by decide +kernel
theorem dz_M_pivot_62 : decode zm_M_pivot.2.1 62 = .ok (.iload 4, 2) := by decide +kernel
theorem dz_M_pivot_64 : decode zm_M_pivot.2.1 64 = .ok (.ishl, 1) := by decide +kernel
theorem dz_M_pivot_65 : decode zm_M_pivot.2.1 65 = .ok (.goto 4, 3) := by decide +kernel
theorem dz_M_pivot_68 : decode zm_M_pivot.2.1 68 = .ok (.iconst 0, 1) := by decide +kernel
theorem dz_M_pivot_69 : decode zm_M_pivot.2.1 69 = .ok (.ior, 1) := by decide +kernel
theorem dz_M_pivot_70 : decode zm_M_pivot.2.1 70 = .ok (.istore_n 3, 1) := by decide +kernel
theorem dz_M_pivot_71 : decode zm_M_pivot.2.1 71 = .ok (.iinc 4 1, 3) := by decide +kernel
theorem dz_M_pivot_74 : decode zm_M_pivot.2.1 74 = .ok (.goto (-52), 3) := by decide +kernel
theorem dz_M_pivot_77 : decode zm_M_pivot.2.1 77 = .ok (.iload_n 3, 1) := by decide +kernel
theorem dz_M_pivot_78 : decode zm_M_pivot.2.1 78 = .ok (.ireturn, 1) := by decide +kernel
theorem dz_M_spoils_0 : decode zm_M_spoils.2.1 0 = .ok (.aload_n 0, 1) := by decide +kernel
theorem dz_M_spoils_1 : decode zm_M_spoils.2.1 1 = .ok (.iload_n 1, 1) := by decide +kernel
theorem dz_M_spoils_2 : decode zm_M_spoils.2.1 2 = .ok (.invokevirtual 203, 3) := by decide +kernel
theorem dz_M_spoils_5 : decode zm_M_spoils.2.1 5 = .ok (.ifCond .ne 5, 3) := by decide +kernel
theorem dz_M_spoils_8 : decode zm_M_spoils.2.1 8 = .ok (.iconst (-1), 1) := by decide +kernel
theorem dz_M_spoils_9 : decode zm_M_spoils.2.1 9 = .ok (.ireturn, 1) := by decide +kernel
theorem dz_M_spoils_10 : decode zm_M_spoils.2.1 10 = .ok (.iconst 0, 1) := by decide +kernel
theorem dz_M_spoils_11 : decode zm_M_spoils.2.1 11 = .ok (.istore_n 2, 1) := by decide +kernel
theorem dz_M_spoils_12 : decode zm_M_spoils.2.1 12 = .ok (.iconst 0, 1) := by decide +kernel
theorem dz_M_spoils_13 : decode zm_M_spoils.2.1 13 = .ok (.istore_n 3, 1) := by decide +kernel
theorem dz_M_spoils_14 : decode zm_M_spoils.2.1 14 = .ok (.iload_n 3, 1) := by decide +kernel
theorem dz_M_spoils_15 : decode zm_M_spoils.2.1 15 = .ok (.iconst 4, 1) := by decide +kernel
theorem dz_M_spoils_16 : decode zm_M_spoils.2.1 16 = .ok (.if_icmp .ge 117, 3) := by decide +kernel
theorem dz_M_spoils_19 : decode zm_M_spoils.2.1 19 = .ok (.iconst 0, 1) := by decide +kernel
theorem dz_M_spoils_20 : decode zm_M_spoils.2.1 20 = .ok (.istore 4, 2) := by decide +kernel
theorem dz_M_spoils_22 : decode zm_M_spoils.2.1 22 = .ok (.iload 4, 2) := by decide +kernel
theorem dz_M_spoils_24 : decode zm_M_spoils.2.1 24 = .ok (.iconst 5, 1) := by decide +kernel
theorem dz_M_spoils_25 : decode zm_M_spoils.2.1 25 = .ok (.if_icmp .gt 102, 3) := by decide +kernel
theorem dz_M_spoils_28 : decode zm_M_spoils.2.1 28 = .ok (.aload_n 0, 1) := by decide +kernel
theorem dz_M_spoils_29 : decode zm_M_spoils.2.1 29 = .ok (.iload_n 3, 1) := by decide +kernel
theorem dz_M_spoils_30 : decode zm_M_spoils.2.1 30 = .ok (.aload_n 0, 1) := by decide +kernel
theorem dz_M_spoils_31 : decode zm_M_spoils.2.1 31 = .ok (.getfield 7, 3) := by decide +kernel
theorem dz_M_spoils_34 : decode zm_M_spoils.2.1 34 = .ok (.bipush 12, 2) := by decide +kernel
theorem dz_M_spoils_36 : decode zm_M_spoils.2.1 36 = .ok (.iaload, 1) := by decide +kernel
theorem dz_M_spoils_37 : decode zm_M_spoils.2.1 37 = .ok (.invokevirtual 220, 3) := by decide +kernel
theorem dz_M_spoils_40 : decode zm_M_spoils.2.1 40 = .ok (.iload_n 1, 1) := by decide +kernel
theorem dz_M_spoils_41 : decode zm_M_spoils.2.1 41 = .ok (.if_icmp .ne 86, 3) := by decide +kernel
theorem dz_M_spoils_44 : decode zm_M_spoils.2.1 44 = .ok (.aload_n 0, 1) := by decide +kernel
theorem dz_M_spoils_45 : decode zm_M_spoils.2.1 45 = .ok (.bipush 10, 2) := by decide +kernel
theorem dz_M_spoils_47 : decode zm_M_spoils.2.1 47 = .ok (.iload_n 1, 1) := by decide +kernel
theorem dz_M_spoils_48 : decode zm_M_spoils.2.1 48 = .ok (.imul, 1) := by decide +kernel
theorem dz_M_spoils_49 : decode zm_M_spoils.2.1 49 = .ok (.iload 4, 2) := by decide +kernel
theorem dz_M_spoils_51 : decode zm_M_spoils.2.1 51 = .ok (.iadd, 1) := by decide +kernel
theorem dz_M_spoils_52 : decode zm_M_spoils.2.1 52 = .ok (.invokevirtual 226, 3) := by decide +kernel
theorem dz_M_spoils_55 : decode zm_M_spoils.2.1 55 = .ok (.ifCond .eq 66, 3) := by decide +kernel
theorem dz_M_spoils_58 : decode zm_M_spoils.2.1 58 = .ok (.aload_n 0, 1) := by decide +kernel
theorem dz_M_spoils_59 : decode zm_M_spoils.2.1 59 = .ok (.iconst 0, 1) := by decide +kernel
theorem dz_M_spoils_60 : decode zm_M_spoils.2.1 60 = .ok (.bipush 84, 2) := by decide +kernel
theorem dz_M_spoils_62 : decode zm_M_spoils.2.1 62 = .ok (.invokevirtual 246, 3) := by decide +kernel
theorem dz_M_spoils_65 : decode zm_M_spoils.2.1 65 = .ok (.aload_n 0, 1) := by decide +kernel
theorem dz_M_spoils_66 : decode zm_M_spoils.2.1 66 = .ok (.bipush 10, 2) := by decide +kernel
theorem dz_M_spoils_68 : decode zm_M_spoils.2.1 68 = .ok (.iload_n 1, 1) := by decide +kernel
theorem dz_M_spoils_69 : decode zm_M_spoils.2.1 69 = .ok (.imul, 1) := by decide +kernel
theorem dz_M_spoils_70 : decode zm_M_spoils.2.1 70 = .ok (.iload 4, 2) := by decide +kernel
theorem dz_M_spoils_72 : decode zm_M_spoils.2.1 72 = .ok (.iadd, 1) := by decide +kernel
theorem dz_M_spoils_73 : decode zm_M_spoils.2.1 73 = .ok (.invokevirtual 229, 3) := by decide +kernel
theorem dz_M_spoils_76 : decode zm_M_spoils.2.1 76 = .ok (.aload_n 0, 1) := by decide +kernel
theorem dz_M_spoils_77 : decode zm_M_spoils.2.1 77 = .ok (.iload_n 3, 1) := by decide +kernel
theorem dz_M_spoils_78 : decode zm_M_spoils.2.1 78 = .ok (.aload_n 0, 1) := by decide +kernel
theorem dz_M_spoils_79 : decode zm_M_spoils.2.1 79 = .ok (.getfield 7, 3) := by decide +kernel
theorem dz_M_spoils_82 : decode zm_M_spoils.2.1 82 = .ok (.bipush 12, 2) := by decide +kernel
theorem dz_M_spoils_84 : decode zm_M_spoils.2.1 84 = .ok (.iaload, 1) := by decide +kernel
theorem dz_M_spoils_85 : decode zm_M_spoils.2.1 85 = .ok (.invokevirtual 220, 3) := by decide +kernel
theorem dz_M_spoils_88 : decode zm_M_spoils.2.1 88 = .ok (.iload_n 1, 1) := by decide +kernel
theorem dz_M_spoils_89 : decode zm_M_spoils.2.1 89 = .ok (.if_icmp .ne 7, 3) := by decide +kernel
theorem dz_M_spoils_92 : decode zm_M_spoils.2.1 92 = .ok (.iconst 1, 1) := by decide +kernel
theorem dz_M_spoils_93 : decode zm_M_spoils.2.1 93 = .ok (.goto 4, 3) := by decide +kernel
theorem dz_M_spoils_96 : decode zm_M_spoils.2.1 96 = .ok (.iconst 0, 1) := by decide +kernel
theorem dz_M_spoils_97 : decode zm_M_spoils.2.1 97 = .ok (.istore 5, 2) := by decide +kernel
theorem dz_M_spoils_99 : decode zm_M_spoils.2.1 99 = .ok (.aload_n 0, 1) := by decide +kernel
theorem dz_M_spoils_100 : decode zm_M_spoils.2.1 100 = .ok (.bipush 84, 2) := by decide +kernel
theorem dz_M_spoils_102 : decode zm_M_spoils.2.1 102 = .ok (.iconst 0, 1) := by decide +kernel
theorem dz_M_spoils_103 : decode zm_M_spoils.2.1 103 = .ok (.invokevirtual 246, 3) := by decide +kernel
theorem dz_M_spoils_106 : decode zm_M_spoils.2.1 106 = .ok (.iload_n 2, 1) := by decide +kernel
theorem dz_M_spoils_107 : decode zm_M_spoils.2.1 107 = .ok (.iload 5, 2) := by decide +kernel
theorem dz_M_spoils_109 : decode zm_M_spoils.2.1 109 = .ok (.ifCond .eq 7, 3) := by decide +kernel
theorem dz_M_spoils_112 : decode zm_M_spoils.2.1 112 = .ok (.iconst 0, 1) := by decide +kernel
theorem dz_M_spoils_113 : decode zm_M_spoils.2.1 113 = .ok (.goto 6, 3) := by decide +kernel
theorem dz_M_spoils_116 : decode zm_M_spoils.2.1 116 = .ok (.iconst 1, 1) := by decide +kernel
theorem dz_M_spoils_117 : decode zm_M_spoils.2.1 117 = .ok (.iload_n 3, 1) := by decide +kernel
theorem dz_M_spoils_118 : decode zm_M_spoils.2.1 118 = .ok (.ishl, 1) := by decide +kernel
theorem dz_M_spoils_119 : decode zm_M_spoils.2.1 119 = .ok (.ior, 1) := by decide +kernel
theorem dz_M_spoils_120 : decode zm_M_spoils.2.1 120 = .ok (.istore_n 2, 1) := by decide +kernel
theorem dz_M_spoils_121 : decode zm_M_spoils.2.1 121 = .ok (.iinc 4 1, 3) := by decide +kernel
theorem dz_M_spoils_124 : decode zm_M_spoils.2.1 124 = .ok (.goto (-102), 3) := by decide +kernel
theorem dz_M_spoils_127 : decode zm_M_spoils.2.1 127 = .ok (.iinc 3 1, 3) := by decide +kernel
theorem dz_M_spoils_130 : decode zm_M_spoils.2.1 130 = .ok (.goto (-116), 3) := by decide +kernel
theorem dz_M_spoils_133 : decode zm_M_spoils.2.1 133 = .ok (.iload_n 2, 1) := by decide +kernel
theorem dz_M_spoils_134 : decode zm_M_spoils.2.1 134 = .ok (.ireturn, 1) := by decide +kernel
theorem dz_M_cases_0 : decode zm_M_cases.2.1 0 = .ok (.iconst 1, 1) := by decide +kernel
theorem dz_M_cases_1 : decode zm_M_cases.2.1 1 = .ok (.aload_n 0, 1) := by decide +kernel
theorem dz_M_cases_2 : decode zm_M_cases.2.1 2 = .ok (.getfield 158, 3) := by decide +kernel
theorem dz_M_cases_5 : decode zm_M_cases.2.1 5 = .ok (.ishl, 1) := by decide +kernel
theorem dz_M_cases_6 : decode zm_M_cases.2.1 6 = .ok (.ireturn, 1) := by decide +kernel
theorem dz_M_dead_0 : decode zm_M_dead.2.1 0 = .ok (.iload_n 1, 1) := by decide +kernel
theorem dz_M_dead_1 : decode zm_M_dead.2.1 1 = .ok (.i2l, 1) := by decide +kernel
theorem dz_M_dead_2 : decode zm_M_dead.2.1 2 = .ok (.lconst 0, 1) := by decide +kernel
theorem dz_M_dead_3 : decode zm_M_dead.2.1 3 = .ok (.ldc2_w 241, 3) := by decide +kernel
theorem dz_M_dead_6 : decode zm_M_dead.2.1 6 = .ok (.invokestatic 65, 3) := by decide +kernel
theorem dz_M_dead_9 : decode zm_M_dead.2.1 9 = .ok (.ifCond .ne 5, 3) := by decide +kernel
theorem dz_M_dead_12 : decode zm_M_dead.2.1 12 = .ok (.iconst (-1), 1) := by decide +kernel
theorem dz_M_dead_13 : decode zm_M_dead.2.1 13 = .ok (.ireturn, 1) := by decide +kernel
theorem dz_M_dead_14 : decode zm_M_dead.2.1 14 = .ok (.iconst 1, 1) := by decide +kernel
theorem dz_M_dead_15 : decode zm_M_dead.2.1 15 = .ok (.aload_n 0, 1) := by decide +kernel
theorem dz_M_dead_16 : decode zm_M_dead.2.1 16 = .ok (.getfield 161, 3) := by decide +kernel
theorem dz_M_dead_19 : decode zm_M_dead.2.1 19 = .ok (.ishl, 1) := by decide +kernel
theorem dz_M_dead_20 : decode zm_M_dead.2.1 20 = .ok (.iconst 1, 1) := by decide +kernel
theorem dz_M_dead_21 : decode zm_M_dead.2.1 21 = .ok (.isub, 1) := by decide +kernel
theorem dz_M_dead_22 : decode zm_M_dead.2.1 22 = .ok (.istore_n 2, 1) := by decide +kernel
theorem dz_M_dead_23 : decode zm_M_dead.2.1 23 = .ok (.iconst 0, 1) := by decide +kernel
theorem dz_M_dead_24 : decode zm_M_dead.2.1 24 = .ok (.istore_n 3, 1) := by decide +kernel
theorem dz_M_dead_25 : decode zm_M_dead.2.1 25 = .ok (.iload_n 2, 1) := by decide +kernel
theorem dz_M_dead_26 : decode zm_M_dead.2.1 26 = .ok (.istore 4, 2) := by decide +kernel
theorem dz_M_dead_28 : decode zm_M_dead.2.1 28 = .ok (.iconst 0, 1) := by decide +kernel
theorem dz_M_dead_29 : decode zm_M_dead.2.1 29 = .ok (.istore 5, 2) := by decide +kernel
theorem dz_M_dead_31 : decode zm_M_dead.2.1 31 = .ok (.iconst 0, 1) := by decide +kernel
theorem dz_M_dead_32 : decode zm_M_dead.2.1 32 = .ok (.istore 6, 2) := by decide +kernel
theorem dz_M_dead_34 : decode zm_M_dead.2.1 34 = .ok (.iload 6, 2) := by decide +kernel
theorem dz_M_dead_36 : decode zm_M_dead.2.1 36 = .ok (.aload_n 0, 1) := by decide +kernel
theorem dz_M_dead_37 : decode zm_M_dead.2.1 37 = .ok (.invokevirtual 254, 3) := by decide +kernel
theorem dz_M_dead_40 : decode zm_M_dead.2.1 40 = .ok (.if_icmp .ge 132, 3) := by decide +kernel
theorem dz_M_dead_43 : decode zm_M_dead.2.1 43 = .ok (.iconst 0, 1) := by decide +kernel
theorem dz_M_dead_44 : decode zm_M_dead.2.1 44 = .ok (.istore 7, 2) := by decide +kernel
theorem dz_M_dead_46 : decode zm_M_dead.2.1 46 = .ok (.iconst 0, 1) := by decide +kernel
theorem dz_M_dead_47 : decode zm_M_dead.2.1 47 = .ok (.istore 8, 2) := by decide +kernel
theorem dz_M_dead_49 : decode zm_M_dead.2.1 49 = .ok (.iload 8, 2) := by decide +kernel
theorem dz_M_dead_51 : decode zm_M_dead.2.1 51 = .ok (.aload_n 0, 1) := by decide +kernel
theorem dz_M_dead_52 : decode zm_M_dead.2.1 52 = .ok (.getfield 161, 3) := by decide +kernel
theorem dz_M_dead_55 : decode zm_M_dead.2.1 55 = .ok (.if_icmp .ge 35, 3) := by decide +kernel
theorem dz_M_dead_58 : decode zm_M_dead.2.1 58 = .ok (.iload 7, 2) := by decide +kernel
theorem dz_M_dead_60 : decode zm_M_dead.2.1 60 = .ok (.aload_n 0, 1) := by decide +kernel
theorem dz_M_dead_61 : decode zm_M_dead.2.1 61 = .ok (.iload 8, 2) := by decide +kernel
theorem dz_M_dead_63 : decode zm_M_dead.2.1 63 = .ok (.iload 6, 2) := by decide +kernel
theorem dz_M_dead_65 : decode zm_M_dead.2.1 65 = .ok (.invokevirtual 197, 3) := by decide +kernel
theorem dz_M_dead_68 : decode zm_M_dead.2.1 68 = .ok (.bipush (-4), 2) := by decide +kernel
theorem dz_M_dead_70 : decode zm_M_dead.2.1 70 = .ok (.if_icmp .eq 10, 3) := by decide +kernel
theorem dz_M_dead_73 : decode zm_M_dead.2.1 73 = .ok (.iconst 1, 1) := by decide +kernel
theorem dz_M_dead_74 : decode zm_M_dead.2.1 74 = .ok (.iload 8, 2) := by decide +kernel
theorem dz_M_dead_76 : decode zm_M_dead.2.1 76 = .ok (.ishl, 1) := by decide +kernel
theorem dz_M_dead_77 : decode zm_M_dead.2.1 77 = .ok (.goto 4, 3) := by decide +kernel
theorem dz_M_dead_80 : decode zm_M_dead.2.1 80 = .ok (.iconst 0, 1) := by decide +kernel
theorem dz_M_dead_81 : decode zm_M_dead.2.1 81 = .ok (.ior, 1) := by decide +kernel
theorem dz_M_dead_82 : decode zm_M_dead.2.1 82 = .ok (.istore 7, 2) := by decide +kernel
theorem dz_M_dead_84 : decode zm_M_dead.2.1 84 = .ok (.iinc 8 1, 3) := by decide +kernel
theorem dz_M_dead_87 : decode zm_M_dead.2.1 87 = .ok (.goto (-38), 3) := by decide +kernel
theorem dz_M_dead_90 : decode zm_M_dead.2.1 90 = .ok (.iload_n 3, 1) := by decide +kernel
theorem dz_M_dead_91 : decode zm_M_dead.2.1 91 = .ok (.iload 7, 2) := by decide +kernel
theorem dz_M_dead_93 : decode zm_M_dead.2.1 93 = .ok (.ior, 1) := by decide +kernel
theorem dz_M_dead_94 : decode zm_M_dead.2.1 94 = .ok (.istore_n 3, 1) := by decide +kernel
theorem dz_M_dead_95 : decode zm_M_dead.2.1 95 = .ok (.iload 4, 2) := by decide +kernel
theorem dz_M_dead_97 : decode zm_M_dead.2.1 97 = .ok (.iload 6, 2) := by decide +kernel
theorem dz_M_dead_99 : decode zm_M_dead.2.1 99 = .ok (.aload_n 0, 1) := by decide +kernel
theorem dz_M_dead_100 : decode zm_M_dead.2.1 100 = .ok (.invokevirtual 254, 3) := by decide +kernel
theorem dz_M_dead_103 : decode zm_M_dead.2.1 103 = .ok (.iconst 1, 1) := by decide +kernel
theorem dz_M_dead_104 : decode zm_M_dead.2.1 104 = .ok (.isub, 1) := by decide +kernel
theorem dz_M_dead_105 : decode zm_M_dead.2.1 105 = .ok (.if_icmp .ne 7, 3) := by decide +kernel
theorem dz_M_dead_108 : decode zm_M_dead.2.1 108 = .ok (.iconst (-1), 1) := by decide +kernel
theorem dz_M_dead_109 : decode zm_M_dead.2.1 109 = .ok (.goto 5, 3) := by decide +kernel
theorem dz_M_dead_112 : decode zm_M_dead.2.1 112 = .ok (.iload 7, 2) := by decide +kernel
theorem dz_M_dead_114 : decode zm_M_dead.2.1 114 = .ok (.iand, 1) := by decide +kernel
theorem dz_M_dead_115 : decode zm_M_dead.2.1 115 = .ok (.istore 4, 2) := by decide +kernel
theorem dz_M_dead_117 : decode zm_M_dead.2.1 117 = .ok (.iconst 0, 1) := by decide +kernel
theorem dz_M_dead_118 : decode zm_M_dead.2.1 118 = .ok (.istore 8, 2) := by decide +kernel
theorem dz_M_dead_120 : decode zm_M_dead.2.1 120 = .ok (.iload 8, 2) := by decide +kernel
theorem dz_M_dead_122 : decode zm_M_dead.2.1 122 = .ok (.iconst 4, 1) := by decide +kernel
theorem dz_M_dead_123 : decode zm_M_dead.2.1 123 = .ok (.if_icmp .ge 43, 3) := by decide +kernel
theorem dz_M_dead_126 : decode zm_M_dead.2.1 126 = .ok (.aload_n 0, 1) := by decide +kernel
theorem dz_M_dead_127 : decode zm_M_dead.2.1 127 = .ok (.iload 8, 2) := by decide +kernel
theorem dz_M_dead_129 : decode zm_M_dead.2.1 129 = .ok (.iload 6, 2) := by decide +kernel
theorem dz_M_dead_131 : decode zm_M_dead.2.1 131 = .ok (.bipush 31, 2) := by decide +kernel
theorem dz_M_dead_133 : decode zm_M_dead.2.1 133 = .ok (.bipush (-4), 2) := by decide +kernel
theorem dz_M_dead_135 : decode zm_M_dead.2.1 135 = .ok (.invokevirtual 193, 3) := by decide +kernel
theorem dz_M_dead_138 : decode zm_M_dead.2.1 138 = .ok (.istore 9, 2) := by decide +kernel
theorem dz_M_dead_140 : decode zm_M_dead.2.1 140 = .ok (.iload 5, 2) := by decide +kernel
theorem dz_M_dead_142 : decode zm_M_dead.2.1 142 = .ok (.iload 9, 2) := by decide +kernel
theorem dz_M_dead_144 : decode zm_M_dead.2.1 144 = .ok (.bipush (-4), 2) := by decide +kernel
theorem dz_M_dead_146 : decode zm_M_dead.2.1 146 = .ok (.if_icmp .ne 7, 3) := by decide +kernel
theorem dz_M_dead_149 : decode zm_M_dead.2.1 149 = .ok (.iconst 0, 1) := by decide +kernel
theorem dz_M_dead_150 : decode zm_M_dead.2.1 150 = .ok (.goto 7, 3) := by decide +kernel
theorem dz_M_dead_153 : decode zm_M_dead.2.1 153 = .ok (.iconst 1, 1) := by decide +kernel
theorem dz_M_dead_154 : decode zm_M_dead.2.1 154 = .ok (.iload 9, 2) := by decide +kernel
theorem dz_M_dead_156 : decode zm_M_dead.2.1 156 = .ok (.ishl, 1) := by decide +kernel
theorem dz_M_dead_157 : decode zm_M_dead.2.1 157 = .ok (.ior, 1) := by decide +kernel
theorem dz_M_dead_158 : decode zm_M_dead.2.1 158 = .ok (.istore 5, 2) := by decide +kernel
theorem dz_M_dead_160 : decode zm_M_dead.2.1 160 = .ok (.iinc 8 1, 3) := by decide +kernel
theorem dz_M_dead_163 : decode zm_M_dead.2.1 163 = .ok (.goto (-43), 3) := by decide +kernel
theorem dz_M_dead_166 : decode zm_M_dead.2.1 166 = .ok (.iinc 6 1, 3) := by decide +kernel
theorem dz_M_dead_169 : decode zm_M_dead.2.1 169 = .ok (.goto (-135), 3) := by decide +kernel
theorem dz_M_dead_172 : decode zm_M_dead.2.1 172 = .ok (.iload_n 1, 1) := by decide +kernel
theorem dz_M_dead_173 : decode zm_M_dead.2.1 173 = .ok (.ifCond .ne 11, 3) := by decide +kernel
theorem dz_M_dead_176 : decode zm_M_dead.2.1 176 = .ok (.iload_n 2, 1) := by decide +kernel
theorem dz_M_dead_177 : decode zm_M_dead.2.1 177 = .ok (.iload_n 3, 1) := by decide +kernel
theorem dz_M_dead_178 : decode zm_M_dead.2.1 178 = .ok (.iconst (-1), 1) := by decide +kernel
theorem dz_M_dead_179 : decode zm_M_dead.2.1 179 = .ok (.ixor, 1) := by decide +kernel
theorem dz_M_dead_180 : decode zm_M_dead.2.1 180 = .ok (.iand, 1) := by decide +kernel
theorem dz_M_dead_181 : decode zm_M_dead.2.1 181 = .ok (.goto 19, 3) := by decide +kernel
theorem dz_M_dead_184 : decode zm_M_dead.2.1 184 = .ok (.iload_n 1, 1) := by decide +kernel
theorem dz_M_dead_185 : decode zm_M_dead.2.1 185 = .ok (.iconst 1, 1) := by decide +kernel
theorem dz_M_dead_186 : decode zm_M_dead.2.1 186 = .ok (.if_icmp .ne 8, 3) := by decide +kernel
theorem dz_M_dead_189 : decode zm_M_dead.2.1 189 = .ok (.iload 4, 2) := by decide +kernel
theorem dz_M_dead_191 : decode zm_M_dead.2.1 191 = .ok (.goto 9, 3) := by decide +kernel
theorem dz_M_dead_194 : decode zm_M_dead.2.1 194 = .ok (.iload_n 2, 1) := by decide +kernel
theorem dz_M_dead_195 : decode zm_M_dead.2.1 195 = .ok (.iload 5, 2) := by decide +kernel
theorem dz_M_dead_197 : decode zm_M_dead.2.1 197 = .ok (.iconst (-1), 1) := by decide +kernel
theorem dz_M_dead_198 : decode zm_M_dead.2.1 198 = .ok (.ixor, 1) := by decide +kernel
theorem dz_M_dead_199 : decode zm_M_dead.2.1 199 = .ok (.iand, 1) := by decide +kernel
theorem dz_M_dead_200 : decode zm_M_dead.2.1 200 = .ok (.ireturn, 1) := by decide +kernel
theorem dz_M_isEnough_0 : decode zm_M_isEnough.2.1 0 = .ok (.iconst 1, 1) := by decide +kernel
theorem dz_M_isEnough_1 : decode zm_M_isEnough.2.1 1 = .ok (.istore_n 2, 1) := by decide +kernel
theorem dz_M_isEnough_2 : decode zm_M_isEnough.2.1 2 = .ok (.iconst 0, 1) := by decide +kernel
theorem dz_M_isEnough_3 : decode zm_M_isEnough.2.1 3 = .ok (.istore_n 3, 1) := by decide +kernel
theorem dz_M_isEnough_4 : decode zm_M_isEnough.2.1 4 = .ok (.iload_n 3, 1) := by decide +kernel
theorem dz_M_isEnough_5 : decode zm_M_isEnough.2.1 5 = .ok (.aload_n 0, 1) := by decide +kernel
theorem dz_M_isEnough_6 : decode zm_M_isEnough.2.1 6 = .ok (.invokevirtual 254, 3) := by decide +kernel
theorem dz_M_isEnough_9 : decode zm_M_isEnough.2.1 9 = .ok (.if_icmp .ge 56, 3) := by decide +kernel
theorem dz_M_isEnough_12 : decode zm_M_isEnough.2.1 12 = .ok (.iload_n 2, 1) := by decide +kernel
theorem dz_M_isEnough_13 : decode zm_M_isEnough.2.1 13 = .ok (.ifCond .eq 52, 3) := by decide +kernel
theorem dz_M_isEnough_16 : decode zm_M_isEnough.2.1 16 = .ok (.iconst 0, 1) := by decide +kernel
theorem dz_M_isEnough_17 : decode zm_M_isEnough.2.1 17 = .ok (.istore 4, 2) := by decide +kernel
theorem dz_M_isEnough_19 : decode zm_M_isEnough.2.1 19 = .ok (.iload 4, 2) := by decide +kernel
theorem dz_M_isEnough_21 : decode zm_M_isEnough.2.1 21 = .ok (.iconst 4, 1) := by decide +kernel
theorem dz_M_isEnough_22 : decode zm_M_isEnough.2.1 22 = .ok (.if_icmp .ge 37, 3) := by decide +kernel
theorem dz_M_isEnough_25 : decode zm_M_isEnough.2.1 25 = .ok (.iload_n 2, 1) := by decide +kernel
theorem dz_M_isEnough_26 : decode zm_M_isEnough.2.1 26 = .ok (.ifCond .eq 25, 3) := by decide +kernel
theorem dz_M_isEnough_29 : decode zm_M_isEnough.2.1 29 = .ok (.aload_n 0, 1) := by decide +kernel
theorem dz_M_isEnough_30 : decode zm_M_isEnough.2.1 30 = .ok (.iload 4, 2) := by decide +kernel
theorem dz_M_isEnough_32 : decode zm_M_isEnough.2.1 32 = .ok (.iload_n 3, 1) := by decide +kernel
theorem dz_M_isEnough_33 : decode zm_M_isEnough.2.1 33 = .ok (.iload_n 1, 1) := by decide +kernel
theorem dz_M_isEnough_34 : decode zm_M_isEnough.2.1 34 = .ok (.invokevirtual 200, 3) := by decide +kernel
theorem dz_M_isEnough_37 : decode zm_M_isEnough.2.1 37 = .ok (.aload_n 0, 1) := by decide +kernel
theorem dz_M_isEnough_38 : decode zm_M_isEnough.2.1 38 = .ok (.iload 4, 2) := by decide +kernel
theorem dz_M_isEnough_40 : decode zm_M_isEnough.2.1 40 = .ok (.iload_n 3, 1) := by decide +kernel
theorem dz_M_isEnough_41 : decode zm_M_isEnough.2.1 41 = .ok (.invokevirtual 220, 3) := by decide +kernel
theorem dz_M_isEnough_44 : decode zm_M_isEnough.2.1 44 = .ok (.if_icmp .ne 7, 3) := by decide +kernel
theorem dz_M_isEnough_47 : decode zm_M_isEnough.2.1 47 = .ok (.iconst 1, 1) := by decide +kernel
theorem dz_M_isEnough_48 : decode zm_M_isEnough.2.1 48 = .ok (.goto 4, 3) := by decide +kernel
theorem dz_M_isEnough_51 : decode zm_M_isEnough.2.1 51 = .ok (.iconst 0, 1) := by decide +kernel
theorem dz_M_isEnough_52 : decode zm_M_isEnough.2.1 52 = .ok (.istore_n 2, 1) := by decide +kernel
theorem dz_M_isEnough_53 : decode zm_M_isEnough.2.1 53 = .ok (.iinc 4 1, 3) := by decide +kernel
theorem dz_M_isEnough_56 : decode zm_M_isEnough.2.1 56 = .ok (.goto (-37), 3) := by decide +kernel
theorem dz_M_isEnough_59 : decode zm_M_isEnough.2.1 59 = .ok (.iinc 3 1, 3) := by decide +kernel
theorem dz_M_isEnough_62 : decode zm_M_isEnough.2.1 62 = .ok (.goto (-58), 3) := by decide +kernel
theorem dz_M_isEnough_65 : decode zm_M_isEnough.2.1 65 = .ok (.iload_n 2, 1) := by decide +kernel
theorem dz_M_isEnough_66 : decode zm_M_isEnough.2.1 66 = .ok (.ireturn, 1) := by decide +kernel
theorem dz_M_bitsOf_0 : decode zm_M_bitsOf.2.1 0 = .ok (.iconst 0, 1) := by decide +kernel
theorem dz_M_bitsOf_1 : decode zm_M_bitsOf.2.1 1 = .ok (.istore_n 1, 1) := by decide +kernel
theorem dz_M_bitsOf_2 : decode zm_M_bitsOf.2.1 2 = .ok (.iconst 0, 1) := by decide +kernel
theorem dz_M_bitsOf_3 : decode zm_M_bitsOf.2.1 3 = .ok (.istore_n 2, 1) := by decide +kernel
theorem dz_M_bitsOf_4 : decode zm_M_bitsOf.2.1 4 = .ok (.iload_n 2, 1) := by decide +kernel
theorem dz_M_bitsOf_5 : decode zm_M_bitsOf.2.1 5 = .ok (.bipush 6, 2) := by decide +kernel
theorem dz_M_bitsOf_7 : decode zm_M_bitsOf.2.1 7 = .ok (.if_icmp .ge 17, 3) := by decide +kernel
theorem dz_M_bitsOf_10 : decode zm_M_bitsOf.2.1 10 = .ok (.iload_n 1, 1) := by decide +kernel
theorem dz_M_bitsOf_11 : decode zm_M_bitsOf.2.1 11 = .ok (.iload_n 0, 1) := by decide +kernel
theorem dz_M_bitsOf_12 : decode zm_M_bitsOf.2.1 12 = .ok (.iload_n 2, 1) := by decide +kernel
theorem dz_M_bitsOf_13 : decode zm_M_bitsOf.2.1 13 = .ok (.ishr, 1) := by decide +kernel
theorem dz_M_bitsOf_14 : decode zm_M_bitsOf.2.1 14 = .ok (.iconst 1, 1) := by decide +kernel
theorem dz_M_bitsOf_15 : decode zm_M_bitsOf.2.1 15 = .ok (.iand, 1) := by decide +kernel
theorem dz_M_bitsOf_16 : decode zm_M_bitsOf.2.1 16 = .ok (.iadd, 1) := by decide +kernel
theorem dz_M_bitsOf_17 : decode zm_M_bitsOf.2.1 17 = .ok (.istore_n 1, 1) := by decide +kernel
theorem dz_M_bitsOf_18 : decode zm_M_bitsOf.2.1 18 = .ok (.iinc 2 1, 3) := by decide +kernel
theorem dz_M_bitsOf_21 : decode zm_M_bitsOf.2.1 21 = .ok (.goto (-17), 3) := by decide +kernel
theorem dz_M_bitsOf_24 : decode zm_M_bitsOf.2.1 24 = .ok (.iload_n 1, 1) := by decide +kernel
theorem dz_M_bitsOf_25 : decode zm_M_bitsOf.2.1 25 = .ok (.ireturn, 1) := by decide +kernel
theorem dz_M_least_0 : decode zm_M_least.2.1 0 = .ok (.iload_n 1, 1) := by decide +kernel
theorem dz_M_least_1 : decode zm_M_least.2.1 1 = .ok (.i2l, 1) := by decide +kernel
theorem dz_M_least_2 : decode zm_M_least.2.1 2 = .ok (.lconst 0, 1) := by decide +kernel
theorem dz_M_least_3 : decode zm_M_least.2.1 3 = .ok (.lconst 1, 1) := by decide +kernel
theorem dz_M_least_4 : decode zm_M_least.2.1 4 = .ok (.invokestatic 65, 3) := by decide +kernel
theorem dz_M_least_7 : decode zm_M_least.2.1 7 = .ok (.ifCond .ne 5, 3) := by decide +kernel
theorem dz_M_least_10 : decode zm_M_least.2.1 10 = .ok (.iconst (-1), 1) := by decide +kernel
theorem dz_M_least_11 : decode zm_M_least.2.1 11 = .ok (.ireturn, 1) := by decide +kernel
theorem dz_M_least_12 : decode zm_M_least.2.1 12 = .ok (.bipush 100, 2) := by decide +kernel
theorem dz_M_least_14 : decode zm_M_least.2.1 14 = .ok (.istore_n 2, 1) := by decide +kernel
theorem dz_M_least_15 : decode zm_M_least.2.1 15 = .ok (.iconst 0, 1) := by decide +kernel
theorem dz_M_least_16 : decode zm_M_least.2.1 16 = .ok (.istore_n 3, 1) := by decide +kernel
theorem dz_M_least_17 : decode zm_M_least.2.1 17 = .ok (.iconst 0, 1) := by decide +kernel
theorem dz_M_least_18 : decode zm_M_least.2.1 18 = .ok (.istore 4, 2) := by decide +kernel
theorem dz_M_least_20 : decode zm_M_least.2.1 20 = .ok (.iload 4, 2) := by decide +kernel
theorem dz_M_least_22 : decode zm_M_least.2.1 22 = .ok (.iconst 1, 1) := by decide +kernel
theorem dz_M_least_23 : decode zm_M_least.2.1 23 = .ok (.aload_n 0, 1) := by decide +kernel
theorem dz_M_least_24 : decode zm_M_least.2.1 24 = .ok (.getfield 161, 3) := by decide +kernel
theorem dz_M_least_27 : decode zm_M_least.2.1 27 = .ok (.ishl, 1) := by decide +kernel
theorem dz_M_least_28 : decode zm_M_least.2.1 28 = .ok (.if_icmp .ge 36, 3) := by decide +kernel
theorem dz_M_least_31 : decode zm_M_least.2.1 31 = .ok (.iload 4, 2) := by decide +kernel
theorem dz_M_least_33 : decode zm_M_least.2.1 33 = .ok (.invokestatic 257, 3) := by decide +kernel
theorem dz_M_least_36 : decode zm_M_least.2.1 36 = .ok (.iload_n 2, 1) := by decide +kernel
theorem dz_M_least_37 : decode zm_M_least.2.1 37 = .ok (.if_icmp .ge 21, 3) := by decide +kernel
theorem dz_M_least_40 : decode zm_M_least.2.1 40 = .ok (.aload_n 0, 1) := by decide +kernel
theorem dz_M_least_41 : decode zm_M_least.2.1 41 = .ok (.iload 4, 2) := by decide +kernel
theorem dz_M_least_43 : decode zm_M_least.2.1 43 = .ok (.invokevirtual 260, 3) := by decide +kernel
theorem dz_M_least_46 : decode zm_M_least.2.1 46 = .ok (.ifCond .eq 12, 3) := by decide +kernel
theorem dz_M_least_49 : decode zm_M_least.2.1 49 = .ok (.iload 4, 2) := by decide +kernel
theorem dz_M_least_51 : decode zm_M_least.2.1 51 = .ok (.invokestatic 257, 3) := by decide +kernel
theorem dz_M_least_54 : decode zm_M_least.2.1 54 = .ok (.istore_n 2, 1) := by decide +kernel
theorem dz_M_least_55 : decode zm_M_least.2.1 55 = .ok (.iload 4, 2) := by decide +kernel
theorem dz_M_least_57 : decode zm_M_least.2.1 57 = .ok (.istore_n 3, 1) := by decide +kernel
theorem dz_M_least_58 : decode zm_M_least.2.1 58 = .ok (.iinc 4 1, 3) := by decide +kernel
theorem dz_M_least_61 : decode zm_M_least.2.1 61 = .ok (.goto (-41), 3) := by decide +kernel
theorem dz_M_least_64 : decode zm_M_least.2.1 64 = .ok (.iload_n 1, 1) := by decide +kernel
theorem dz_M_least_65 : decode zm_M_least.2.1 65 = .ok (.ifCond .ne 7, 3) := by decide +kernel
theorem dz_M_least_68 : decode zm_M_least.2.1 68 = .ok (.iload_n 2, 1) := by decide +kernel
theorem dz_M_least_69 : decode zm_M_least.2.1 69 = .ok (.goto 4, 3) := by decide +kernel
theorem dz_M_least_72 : decode zm_M_least.2.1 72 = .ok (.iload_n 3, 1) := by decide +kernel
theorem dz_M_least_73 : decode zm_M_least.2.1 73 = .ok (.ireturn, 1) := by decide +kernel
theorem dz_M_who_0 : decode zm_M_who.2.1 0 = .ok (.iload_n 1, 1) := by decide +kernel
theorem dz_M_who_1 : decode zm_M_who.2.1 1 = .ok (.invokestatic 217, 3) := by decide +kernel
theorem dz_M_who_4 : decode zm_M_who.2.1 4 = .ok (.ifCond .ne 5, 3) := by decide +kernel
theorem dz_M_who_7 : decode zm_M_who.2.1 7 = .ok (.iconst (-1), 1) := by decide +kernel
theorem dz_M_who_8 : decode zm_M_who.2.1 8 = .ok (.ireturn, 1) := by decide +kernel
theorem dz_M_who_9 : decode zm_M_who.2.1 9 = .ok (.iconst 0, 1) := by decide +kernel
theorem dz_M_who_10 : decode zm_M_who.2.1 10 = .ok (.istore_n 2, 1) := by decide +kernel
theorem dz_M_who_11 : decode zm_M_who.2.1 11 = .ok (.iconst 0, 1) := by decide +kernel
theorem dz_M_who_12 : decode zm_M_who.2.1 12 = .ok (.istore_n 3, 1) := by decide +kernel
theorem dz_M_who_13 : decode zm_M_who.2.1 13 = .ok (.iload_n 3, 1) := by decide +kernel
theorem dz_M_who_14 : decode zm_M_who.2.1 14 = .ok (.aload_n 0, 1) := by decide +kernel
theorem dz_M_who_15 : decode zm_M_who.2.1 15 = .ok (.invokevirtual 254, 3) := by decide +kernel
theorem dz_M_who_18 : decode zm_M_who.2.1 18 = .ok (.if_icmp .ge 35, 3) := by decide +kernel
theorem dz_M_who_21 : decode zm_M_who.2.1 21 = .ok (.aload_n 0, 1) := by decide +kernel
theorem dz_M_who_22 : decode zm_M_who.2.1 22 = .ok (.iload_n 1, 1) := by decide +kernel
theorem dz_M_who_23 : decode zm_M_who.2.1 23 = .ok (.iload_n 3, 1) := by decide +kernel
theorem dz_M_who_24 : decode zm_M_who.2.1 24 = .ok (.invokevirtual 220, 3) := by decide +kernel
theorem dz_M_who_27 : decode zm_M_who.2.1 27 = .ok (.istore 4, 2) := by decide +kernel
theorem dz_M_who_29 : decode zm_M_who.2.1 29 = .ok (.iload_n 2, 1) := by decide +kernel
theorem dz_M_who_30 : decode zm_M_who.2.1 30 = .ok (.iload 4, 2) := by decide +kernel
theorem dz_M_who_32 : decode zm_M_who.2.1 32 = .ok (.bipush (-4), 2) := by decide +kernel
theorem dz_M_who_34 : decode zm_M_who.2.1 34 = .ok (.if_icmp .ne 7, 3) := by decide +kernel
theorem dz_M_who_37 : decode zm_M_who.2.1 37 = .ok (.iconst 0, 1) := by decide +kernel
theorem dz_M_who_38 : decode zm_M_who.2.1 38 = .ok (.goto 7, 3) := by decide +kernel
theorem dz_M_who_41 : decode zm_M_who.2.1 41 = .ok (.iconst 1, 1) := by decide +kernel
theorem dz_M_who_42 : decode zm_M_who.2.1 42 = .ok (.iload 4, 2) := by decide +kernel
theorem dz_M_who_44 : decode zm_M_who.2.1 44 = .ok (.ishl, 1) := by decide +kernel
theorem dz_M_who_45 : decode zm_M_who.2.1 45 = .ok (.ior, 1) := by decide +kernel
theorem dz_M_who_46 : decode zm_M_who.2.1 46 = .ok (.istore_n 2, 1) := by decide +kernel
theorem dz_M_who_47 : decode zm_M_who.2.1 47 = .ok (.iinc 3 1, 3) := by decide +kernel
theorem dz_M_who_50 : decode zm_M_who.2.1 50 = .ok (.goto (-37), 3) := by decide +kernel
theorem dz_M_who_53 : decode zm_M_who.2.1 53 = .ok (.iload_n 2, 1) := by decide +kernel
theorem dz_M_who_54 : decode zm_M_who.2.1 54 = .ok (.ireturn, 1) := by decide +kernel
theorem dz_M_via_0 : decode zm_M_via.2.1 0 = .ok (.aload_n 0, 1) := by decide +kernel
theorem dz_M_via_1 : decode zm_M_via.2.1 1 = .ok (.iload_n 1, 1) := by decide +kernel
theorem dz_M_via_2 : decode zm_M_via.2.1 2 = .ok (.invokevirtual 203, 3) := by decide +kernel
theorem dz_M_via_5 : decode zm_M_via.2.1 5 = .ok (.ifCond .eq 10, 3) := by decide +kernel
theorem dz_M_via_8 : decode zm_M_via.2.1 8 = .ok (.iload_n 2, 1) := by decide +kernel
theorem dz_M_via_9 : decode zm_M_via.2.1 9 = .ok (.invokestatic 217, 3) := by decide +kernel
theorem dz_M_via_12 : decode zm_M_via.2.1 12 = .ok (.ifCond .ne 5, 3) := by decide +kernel
theorem dz_M_via_15 : decode zm_M_via.2.1 15 = .ok (.iconst (-1), 1) := by decide +kernel
theorem dz_M_via_16 : decode zm_M_via.2.1 16 = .ok (.ireturn, 1) := by decide +kernel
theorem dz_M_via_17 : decode zm_M_via.2.1 17 = .ok (.iconst 0, 1) := by decide +kernel
theorem dz_M_via_18 : decode zm_M_via.2.1 18 = .ok (.istore_n 3, 1) := by decide +kernel
theorem dz_M_via_19 : decode zm_M_via.2.1 19 = .ok (.iconst 0, 1) := by decide +kernel
theorem dz_M_via_20 : decode zm_M_via.2.1 20 = .ok (.istore 4, 2) := by decide +kernel
theorem dz_M_via_22 : decode zm_M_via.2.1 22 = .ok (.iload 4, 2) := by decide +kernel
theorem dz_M_via_24 : decode zm_M_via.2.1 24 = .ok (.aload_n 0, 1) := by decide +kernel
theorem dz_M_via_25 : decode zm_M_via.2.1 25 = .ok (.invokevirtual 254, 3) := by decide +kernel
theorem dz_M_via_28 : decode zm_M_via.2.1 28 = .ok (.if_icmp .ge 40, 3) := by decide +kernel
theorem dz_M_via_31 : decode zm_M_via.2.1 31 = .ok (.iload_n 3, 1) := by decide +kernel
theorem dz_M_via_32 : decode zm_M_via.2.1 32 = .ok (.aload_n 0, 1) := by decide +kernel
theorem dz_M_via_33 : decode zm_M_via.2.1 33 = .ok (.iload_n 2, 1) := by decide +kernel
theorem dz_M_via_34 : decode zm_M_via.2.1 34 = .ok (.iload 4, 2) := by decide +kernel
theorem dz_M_via_36 : decode zm_M_via.2.1 36 = .ok (.invokevirtual 220, 3) := by decide +kernel
theorem dz_M_via_39 : decode zm_M_via.2.1 39 = .ok (.iload_n 1, 1) := by decide +kernel
theorem dz_M_via_40 : decode zm_M_via.2.1 40 = .ok (.if_icmp .ne 19, 3) := by decide +kernel
theorem dz_M_via_43 : decode zm_M_via.2.1 43 = .ok (.iconst 1, 1) := by decide +kernel
theorem dz_M_via_44 : decode zm_M_via.2.1 44 = .ok (.aload_n 0, 1) := by decide +kernel
theorem dz_M_via_45 : decode zm_M_via.2.1 45 = .ok (.iload_n 2, 1) := by decide +kernel
theorem dz_M_via_46 : decode zm_M_via.2.1 46 = .ok (.iload 4, 2) := by decide +kernel
theorem dz_M_via_48 : decode zm_M_via.2.1 48 = .ok (.bipush 31, 2) := by decide +kernel
theorem dz_M_via_50 : decode zm_M_via.2.1 50 = .ok (.bipush (-4), 2) := by decide +kernel
theorem dz_M_via_52 : decode zm_M_via.2.1 52 = .ok (.invokevirtual 193, 3) := by decide +kernel
theorem dz_M_via_55 : decode zm_M_via.2.1 55 = .ok (.ishl, 1) := by decide +kernel
theorem dz_M_via_56 : decode zm_M_via.2.1 56 = .ok (.goto 4, 3) := by decide +kernel
theorem dz_M_via_59 : decode zm_M_via.2.1 59 = .ok (.iconst 0, 1) := by decide +kernel
theorem dz_M_via_60 : decode zm_M_via.2.1 60 = .ok (.ior, 1) := by decide +kernel
theorem dz_M_via_61 : decode zm_M_via.2.1 61 = .ok (.istore_n 3, 1) := by decide +kernel
theorem dz_M_via_62 : decode zm_M_via.2.1 62 = .ok (.iinc 4 1, 3) := by decide +kernel
theorem dz_M_via_65 : decode zm_M_via.2.1 65 = .ok (.goto (-43), 3) := by decide +kernel
theorem dz_M_via_68 : decode zm_M_via.2.1 68 = .ok (.iload_n 3, 1) := by decide +kernel
theorem dz_M_via_69 : decode zm_M_via.2.1 69 = .ok (.ireturn, 1) := by decide +kernel
theorem dz_M_lowest_0 : decode zm_M_lowest.2.1 0 = .ok (.lload_n 0, 1) := by decide +kernel
theorem dz_M_lowest_1 : decode zm_M_lowest.2.1 1 = .ok (.lstore 5, 2) := by decide +kernel
theorem dz_M_lowest_3 : decode zm_M_lowest.2.1 3 = .ok (.lload_n 2, 1) := by decide +kernel
theorem dz_M_lowest_4 : decode zm_M_lowest.2.1 4 = .ok (.lstore 7, 2) := by decide +kernel
theorem dz_M_lowest_6 : decode zm_M_lowest.2.1 6 = .ok (.lload 7, 2) := by decide +kernel
theorem dz_M_lowest_8 : decode zm_M_lowest.2.1 8 = .ok (.lconst 0, 1) := by decide +kernel
theorem dz_M_lowest_9 : decode zm_M_lowest.2.1 9 = .ok (.lcmp, 1) := by decide +kernel
theorem dz_M_lowest_10 : decode zm_M_lowest.2.1 10 = .ok (.ifCond .eq 21, 3) := by decide +kernel
theorem dz_M_lowest_13 : decode zm_M_lowest.2.1 13 = .ok (.lload 5, 2) := by decide +kernel
theorem dz_M_lowest_15 : decode zm_M_lowest.2.1 15 = .ok (.lload 7, 2) := by decide +kernel
theorem dz_M_lowest_17 : decode zm_M_lowest.2.1 17 = .ok (.lrem, 1) := by decide +kernel
theorem dz_M_lowest_18 : decode zm_M_lowest.2.1 18 = .ok (.lstore 9, 2) := by decide +kernel
theorem dz_M_lowest_20 : decode zm_M_lowest.2.1 20 = .ok (.lload 7, 2) := by decide +kernel
theorem dz_M_lowest_22 : decode zm_M_lowest.2.1 22 = .ok (.lstore 5, 2) := by decide +kernel
theorem dz_M_lowest_24 : decode zm_M_lowest.2.1 24 = .ok (.lload 9, 2) := by decide +kernel
theorem dz_M_lowest_26 : decode zm_M_lowest.2.1 26 = .ok (.lstore 7, 2) := by decide +kernel
theorem dz_M_lowest_28 : decode zm_M_lowest.2.1 28 = .ok (.goto (-22), 3) := by decide +kernel
theorem dz_M_lowest_31 : decode zm_M_lowest.2.1 31 = .ok (.iload 4, 2) := by decide +kernel
theorem dz_M_lowest_33 : decode zm_M_lowest.2.1 33 = .ok (.ifCond .ne 7, 3) := by decide +kernel
theorem dz_M_lowest_36 : decode zm_M_lowest.2.1 36 = .ok (.lload_n 0, 1) := by decide +kernel
theorem dz_M_lowest_37 : decode zm_M_lowest.2.1 37 = .ok (.goto 4, 3) := by decide +kernel
theorem dz_M_lowest_40 : decode zm_M_lowest.2.1 40 = .ok (.lload_n 2, 1) := by decide +kernel
theorem dz_M_lowest_41 : decode zm_M_lowest.2.1 41 = .ok (.lload 5, 2) := by decide +kernel
theorem dz_M_lowest_43 : decode zm_M_lowest.2.1 43 = .ok (.ldiv, 1) := by decide +kernel
theorem dz_M_lowest_44 : decode zm_M_lowest.2.1 44 = .ok (.lreturn, 1) := by decide +kernel
theorem dz_M_odds_0 : decode zm_M_odds.2.1 0 = .ok (.iload_n 1, 1) := by decide +kernel
theorem dz_M_odds_1 : decode zm_M_odds.2.1 1 = .ok (.i2l, 1) := by decide +kernel
theorem dz_M_odds_2 : decode zm_M_odds.2.1 2 = .ok (.lconst 0, 1) := by decide +kernel
theorem dz_M_odds_3 : decode zm_M_odds.2.1 3 = .ok (.ldc2_w 239, 3) := by decide +kernel
theorem dz_M_odds_6 : decode zm_M_odds.2.1 6 = .ok (.invokestatic 65, 3) := by decide +kernel
theorem dz_M_odds_9 : decode zm_M_odds.2.1 9 = .ok (.ifCond .eq 29, 3) := by decide +kernel
theorem dz_M_odds_12 : decode zm_M_odds.2.1 12 = .ok (.aload_n 0, 1) := by decide +kernel
theorem dz_M_odds_13 : decode zm_M_odds.2.1 13 = .ok (.iload_n 2, 1) := by decide +kernel
theorem dz_M_odds_14 : decode zm_M_odds.2.1 14 = .ok (.invokevirtual 203, 3) := by decide +kernel
theorem dz_M_odds_17 : decode zm_M_odds.2.1 17 = .ok (.ifCond .eq 21, 3) := by decide +kernel
theorem dz_M_odds_20 : decode zm_M_odds.2.1 20 = .ok (.iload_n 3, 1) := by decide +kernel
theorem dz_M_odds_21 : decode zm_M_odds.2.1 21 = .ok (.invokestatic 217, 3) := by decide +kernel
theorem dz_M_odds_24 : decode zm_M_odds.2.1 24 = .ok (.ifCond .eq 14, 3) := by decide +kernel
theorem dz_M_odds_27 : decode zm_M_odds.2.1 27 = .ok (.iload 4, 2) := by decide +kernel
theorem dz_M_odds_29 : decode zm_M_odds.2.1 29 = .ok (.i2l, 1) := by decide +kernel
theorem dz_M_odds_30 : decode zm_M_odds.2.1 30 = .ok (.lconst 0, 1) := by decide +kernel
theorem dz_M_odds_31 : decode zm_M_odds.2.1 31 = .ok (.lconst 1, 1) := by decide +kernel
theorem dz_M_odds_32 : decode zm_M_odds.2.1 32 = .ok (.invokestatic 65, 3) := by decide +kernel
theorem dz_M_odds_35 : decode zm_M_odds.2.1 35 = .ok (.ifCond .ne 7, 3) := by decide +kernel
theorem dz_M_odds_38 : decode zm_M_odds.2.1 38 = .ok (.ldc2_w 263, 3) := by decide +kernel
theorem dz_M_odds_41 : decode zm_M_odds.2.1 41 = .ok (.lreturn, 1) := by decide +kernel
theorem dz_M_odds_42 : decode zm_M_odds.2.1 42 = .ok (.aload_n 0, 1) := by decide +kernel
theorem dz_M_odds_43 : decode zm_M_odds.2.1 43 = .ok (.getfield 7, 3) := by decide +kernel
theorem dz_M_odds_46 : decode zm_M_odds.2.1 46 = .ok (.bipush 12, 2) := by decide +kernel
theorem dz_M_odds_48 : decode zm_M_odds.2.1 48 = .ok (.iaload, 1) := by decide +kernel
theorem dz_M_odds_49 : decode zm_M_odds.2.1 49 = .ok (.istore 5, 2) := by decide +kernel
theorem dz_M_odds_51 : decode zm_M_odds.2.1 51 = .ok (.lconst 0, 1) := by decide +kernel
theorem dz_M_odds_52 : decode zm_M_odds.2.1 52 = .ok (.lstore 6, 2) := by decide +kernel
theorem dz_M_odds_54 : decode zm_M_odds.2.1 54 = .ok (.lconst 1, 1) := by decide +kernel
theorem dz_M_odds_55 : decode zm_M_odds.2.1 55 = .ok (.lstore 8, 2) := by decide +kernel
theorem dz_M_odds_57 : decode zm_M_odds.2.1 57 = .ok (.iconst 0, 1) := by decide +kernel
theorem dz_M_odds_58 : decode zm_M_odds.2.1 58 = .ok (.istore 10, 2) := by decide +kernel
theorem dz_M_odds_60 : decode zm_M_odds.2.1 60 = .ok (.iload 10, 2) := by decide +kernel
theorem dz_M_odds_62 : decode zm_M_odds.2.1 62 = .ok (.aload_n 0, 1) := by decide +kernel
theorem dz_M_odds_63 : decode zm_M_odds.2.1 63 = .ok (.getfield 158, 3) := by decide +kernel
theorem dz_M_odds_66 : decode zm_M_odds.2.1 66 = .ok (.if_icmp .ge 31, 3) := by decide +kernel
theorem dz_M_odds_69 : decode zm_M_odds.2.1 69 = .ok (.lload 8, 2) := by decide +kernel
theorem dz_M_odds_71 : decode zm_M_odds.2.1 71 = .ok (.iload 10, 2) := by decide +kernel
theorem dz_M_odds_73 : decode zm_M_odds.2.1 73 = .ok (.iload 5, 2) := by decide +kernel
theorem dz_M_odds_75 : decode zm_M_odds.2.1 75 = .ok (.invokestatic 169, 3) := by decide +kernel
theorem dz_M_odds_78 : decode zm_M_odds.2.1 78 = .ok (.ifCond .eq 9, 3) := by decide +kernel
theorem dz_M_odds_81 : decode zm_M_odds.2.1 81 = .ok (.ldc2_w 239, 3) := by decide +kernel
theorem dz_M_odds_84 : decode zm_M_odds.2.1 84 = .ok (.goto 4, 3) := by decide +kernel
theorem dz_M_odds_87 : decode zm_M_odds.2.1 87 = .ok (.lconst 1, 1) := by decide +kernel
theorem dz_M_odds_88 : decode zm_M_odds.2.1 88 = .ok (.lmul, 1) := by decide +kernel
theorem dz_M_odds_89 : decode zm_M_odds.2.1 89 = .ok (.lstore 8, 2) := by decide +kernel
theorem dz_M_odds_91 : decode zm_M_odds.2.1 91 = .ok (.iinc 10 1, 3) := by decide +kernel
theorem dz_M_odds_94 : decode zm_M_odds.2.1 94 = .ok (.goto (-34), 3) := by decide +kernel
theorem dz_M_odds_97 : decode zm_M_odds.2.1 97 = .ok (.iconst 0, 1) := by decide +kernel
theorem dz_M_odds_98 : decode zm_M_odds.2.1 98 = .ok (.istore 10, 2) := by decide +kernel
theorem dz_M_odds_100 : decode zm_M_odds.2.1 100 = .ok (.iload 10, 2) := by decide +kernel
theorem dz_M_odds_102 : decode zm_M_odds.2.1 102 = .ok (.aload_n 0, 1) := by decide +kernel
theorem dz_M_odds_103 : decode zm_M_odds.2.1 103 = .ok (.invokevirtual 254, 3) := by decide +kernel
theorem dz_M_odds_106 : decode zm_M_odds.2.1 106 = .ok (.if_icmp .ge 97, 3) := by decide +kernel
theorem dz_M_odds_109 : decode zm_M_odds.2.1 109 = .ok (.iload 10, 2) := by decide +kernel
theorem dz_M_odds_111 : decode zm_M_odds.2.1 111 = .ok (.iload 5, 2) := by decide +kernel
theorem dz_M_odds_113 : decode zm_M_odds.2.1 113 = .ok (.iand, 1) := by decide +kernel
theorem dz_M_odds_114 : decode zm_M_odds.2.1 114 = .ok (.iload 5, 2) := by decide +kernel
theorem dz_M_odds_116 : decode zm_M_odds.2.1 116 = .ok (.if_icmp .ne 81, 3) := by decide +kernel
theorem dz_M_odds_119 : decode zm_M_odds.2.1 119 = .ok (.aload_n 0, 1) := by decide +kernel
theorem dz_M_odds_120 : decode zm_M_odds.2.1 120 = .ok (.iload_n 3, 1) := by decide +kernel
theorem dz_M_odds_121 : decode zm_M_odds.2.1 121 = .ok (.iload 10, 2) := by decide +kernel
theorem dz_M_odds_123 : decode zm_M_odds.2.1 123 = .ok (.invokevirtual 220, 3) := by decide +kernel
theorem dz_M_odds_126 : decode zm_M_odds.2.1 126 = .ok (.iload_n 2, 1) := by decide +kernel
theorem dz_M_odds_127 : decode zm_M_odds.2.1 127 = .ok (.if_icmp .ne 70, 3) := by decide +kernel
theorem dz_M_odds_130 : decode zm_M_odds.2.1 130 = .ok (.lconst 1, 1) := by decide +kernel
theorem dz_M_odds_131 : decode zm_M_odds.2.1 131 = .ok (.lstore 11, 2) := by decide +kernel
theorem dz_M_odds_133 : decode zm_M_odds.2.1 133 = .ok (.iconst 0, 1) := by decide +kernel
theorem dz_M_odds_134 : decode zm_M_odds.2.1 134 = .ok (.istore 13, 2) := by decide +kernel
theorem dz_M_odds_136 : decode zm_M_odds.2.1 136 = .ok (.iload 13, 2) := by decide +kernel
theorem dz_M_odds_138 : decode zm_M_odds.2.1 138 = .ok (.aload_n 0, 1) := by decide +kernel
theorem dz_M_odds_139 : decode zm_M_odds.2.1 139 = .ok (.getfield 158, 3) := by decide +kernel
theorem dz_M_odds_142 : decode zm_M_odds.2.1 142 = .ok (.if_icmp .ge 48, 3) := by decide +kernel
theorem dz_M_odds_145 : decode zm_M_odds.2.1 145 = .ok (.lload 11, 2) := by decide +kernel
theorem dz_M_odds_147 : decode zm_M_odds.2.1 147 = .ok (.iload 13, 2) := by decide +kernel
theorem dz_M_odds_149 : decode zm_M_odds.2.1 149 = .ok (.iload 5, 2) := by decide +kernel
theorem dz_M_odds_151 : decode zm_M_odds.2.1 151 = .ok (.invokestatic 169, 3) := by decide +kernel
theorem dz_M_odds_154 : decode zm_M_odds.2.1 154 = .ok (.ifCond .ne 7, 3) := by decide +kernel
theorem dz_M_odds_157 : decode zm_M_odds.2.1 157 = .ok (.lconst 1, 1) := by decide +kernel
theorem dz_M_odds_158 : decode zm_M_odds.2.1 158 = .ok (.goto 23, 3) := by decide +kernel
theorem dz_M_odds_161 : decode zm_M_odds.2.1 161 = .ok (.iload 13, 2) := by decide +kernel
theorem dz_M_odds_163 : decode zm_M_odds.2.1 163 = .ok (.iload 10, 2) := by decide +kernel
theorem dz_M_odds_165 : decode zm_M_odds.2.1 165 = .ok (.invokestatic 169, 3) := by decide +kernel
theorem dz_M_odds_168 : decode zm_M_odds.2.1 168 = .ok (.ifCond .eq 11, 3) := by decide +kernel
theorem dz_M_odds_171 : decode zm_M_odds.2.1 171 = .ok (.bipush 10, 2) := by decide +kernel
theorem dz_M_odds_173 : decode zm_M_odds.2.1 173 = .ok (.iload_n 1, 1) := by decide +kernel
theorem dz_M_odds_174 : decode zm_M_odds.2.1 174 = .ok (.isub, 1) := by decide +kernel
theorem dz_M_odds_175 : decode zm_M_odds.2.1 175 = .ok (.i2l, 1) := by decide +kernel
theorem dz_M_odds_176 : decode zm_M_odds.2.1 176 = .ok (.goto 5, 3) := by decide +kernel
theorem dz_M_odds_179 : decode zm_M_odds.2.1 179 = .ok (.iload_n 1, 1) := by decide +kernel
theorem dz_M_odds_180 : decode zm_M_odds.2.1 180 = .ok (.i2l, 1) := by decide +kernel
theorem dz_M_odds_181 : decode zm_M_odds.2.1 181 = .ok (.lmul, 1) := by decide +kernel
theorem dz_M_odds_182 : decode zm_M_odds.2.1 182 = .ok (.lstore 11, 2) := by decide +kernel
theorem dz_M_odds_184 : decode zm_M_odds.2.1 184 = .ok (.iinc 13 1, 3) := by decide +kernel
theorem dz_M_odds_187 : decode zm_M_odds.2.1 187 = .ok (.goto (-51), 3) := by decide +kernel
theorem dz_M_odds_190 : decode zm_M_odds.2.1 190 = .ok (.lload 6, 2) := by decide +kernel
theorem dz_M_odds_192 : decode zm_M_odds.2.1 192 = .ok (.lload 11, 2) := by decide +kernel
theorem dz_M_odds_194 : decode zm_M_odds.2.1 194 = .ok (.ladd, 1) := by decide +kernel
theorem dz_M_odds_195 : decode zm_M_odds.2.1 195 = .ok (.lstore 6, 2) := by decide +kernel
theorem dz_M_odds_197 : decode zm_M_odds.2.1 197 = .ok (.iinc 10 1, 3) := by decide +kernel
theorem dz_M_odds_200 : decode zm_M_odds.2.1 200 = .ok (.goto (-100), 3) := by decide +kernel
theorem dz_M_odds_203 : decode zm_M_odds.2.1 203 = .ok (.lload 6, 2) := by decide +kernel
theorem dz_M_odds_205 : decode zm_M_odds.2.1 205 = .ok (.lload 8, 2) := by decide +kernel
theorem dz_M_odds_207 : decode zm_M_odds.2.1 207 = .ok (.iload 4, 2) := by decide +kernel
theorem dz_M_odds_209 : decode zm_M_odds.2.1 209 = .ok (.invokestatic 265, 3) := by decide +kernel
theorem dz_M_odds_212 : decode zm_M_odds.2.1 212 = .ok (.lreturn, 1) := by decide +kernel
theorem dz_M_turn_0 : decode zm_M_turn.2.1 0 = .ok (.iload_n 1, 1) := by decide +kernel
theorem dz_M_turn_1 : decode zm_M_turn.2.1 1 = .ok (.i2l, 1) := by decide +kernel
theorem dz_M_turn_2 : decode zm_M_turn.2.1 2 = .ok (.lconst 0, 1) := by decide +kernel
theorem dz_M_turn_3 : decode zm_M_turn.2.1 3 = .ok (.ldc2_w 241, 3) := by decide +kernel
theorem dz_M_turn_6 : decode zm_M_turn.2.1 6 = .ok (.invokestatic 65, 3) := by decide +kernel
theorem dz_M_turn_9 : decode zm_M_turn.2.1 9 = .ok (.ifCond .eq 10, 3) := by decide +kernel
theorem dz_M_turn_12 : decode zm_M_turn.2.1 12 = .ok (.iload_n 2, 1) := by decide +kernel
theorem dz_M_turn_13 : decode zm_M_turn.2.1 13 = .ok (.invokestatic 217, 3) := by decide +kernel
theorem dz_M_turn_16 : decode zm_M_turn.2.1 16 = .ok (.ifCond .ne 5, 3) := by decide +kernel
theorem dz_M_turn_19 : decode zm_M_turn.2.1 19 = .ok (.iconst (-1), 1) := by decide +kernel
theorem dz_M_turn_20 : decode zm_M_turn.2.1 20 = .ok (.ireturn, 1) := by decide +kernel
theorem dz_M_turn_21 : decode zm_M_turn.2.1 21 = .ok (.aload_n 0, 1) := by decide +kernel
theorem dz_M_turn_22 : decode zm_M_turn.2.1 22 = .ok (.iload_n 2, 1) := by decide +kernel
theorem dz_M_turn_23 : decode zm_M_turn.2.1 23 = .ok (.aload_n 0, 1) := by decide +kernel
theorem dz_M_turn_24 : decode zm_M_turn.2.1 24 = .ok (.getfield 7, 3) := by decide +kernel
theorem dz_M_turn_27 : decode zm_M_turn.2.1 27 = .ok (.bipush 12, 2) := by decide +kernel
theorem dz_M_turn_29 : decode zm_M_turn.2.1 29 = .ok (.iaload, 1) := by decide +kernel
theorem dz_M_turn_30 : decode zm_M_turn.2.1 30 = .ok (.bipush 31, 2) := by decide +kernel
theorem dz_M_turn_32 : decode zm_M_turn.2.1 32 = .ok (.iload_n 1, 1) := by decide +kernel
theorem dz_M_turn_33 : decode zm_M_turn.2.1 33 = .ok (.invokevirtual 193, 3) := by decide +kernel
theorem dz_M_turn_36 : decode zm_M_turn.2.1 36 = .ok (.istore_n 3, 1) := by decide +kernel
theorem dz_M_turn_37 : decode zm_M_turn.2.1 37 = .ok (.iload_n 3, 1) := by decide +kernel
theorem dz_M_turn_38 : decode zm_M_turn.2.1 38 = .ok (.bipush (-4), 2) := by decide +kernel
theorem dz_M_turn_40 : decode zm_M_turn.2.1 40 = .ok (.if_icmp .ne 8, 3) := by decide +kernel
theorem dz_M_turn_43 : decode zm_M_turn.2.1 43 = .ok (.bipush (-4), 2) := by decide +kernel
theorem dz_M_turn_45 : decode zm_M_turn.2.1 45 = .ok (.goto 16, 3) := by decide +kernel
theorem dz_M_turn_48 : decode zm_M_turn.2.1 48 = .ok (.aload_n 0, 1) := by decide +kernel
theorem dz_M_turn_49 : decode zm_M_turn.2.1 49 = .ok (.iload_n 3, 1) := by decide +kernel
theorem dz_M_turn_50 : decode zm_M_turn.2.1 50 = .ok (.aload_n 0, 1) := by decide +kernel
theorem dz_M_turn_51 : decode zm_M_turn.2.1 51 = .ok (.getfield 7, 3) := by decide +kernel
theorem dz_M_turn_54 : decode zm_M_turn.2.1 54 = .ok (.bipush 12, 2) := by decide +kernel
theorem dz_M_turn_56 : decode zm_M_turn.2.1 56 = .ok (.iaload, 1) := by decide +kernel
theorem dz_M_turn_57 : decode zm_M_turn.2.1 57 = .ok (.iload_n 1, 1) := by decide +kernel
theorem dz_M_turn_58 : decode zm_M_turn.2.1 58 = .ok (.invokevirtual 190, 3) := by decide +kernel
theorem dz_M_turn_61 : decode zm_M_turn.2.1 61 = .ok (.ireturn, 1) := by decide +kernel
theorem dz_M_stops_0 : decode zm_M_stops.2.1 0 = .ok (.aload_n 0, 1) := by decide +kernel
theorem dz_M_stops_1 : decode zm_M_stops.2.1 1 = .ok (.getfield 7, 3) := by decide +kernel
theorem dz_M_stops_4 : decode zm_M_stops.2.1 4 = .ok (.iload_n 1, 1) := by decide +kernel
theorem dz_M_stops_5 : decode zm_M_stops.2.1 5 = .ok (.iaload, 1) := by decide +kernel
theorem dz_M_stops_6 : decode zm_M_stops.2.1 6 = .ok (.istore 5, 2) := by decide +kernel
theorem dz_M_stops_8 : decode zm_M_stops.2.1 8 = .ok (.aload_n 0, 1) := by decide +kernel
theorem dz_M_stops_9 : decode zm_M_stops.2.1 9 = .ok (.getfield 7, 3) := by decide +kernel
theorem dz_M_stops_12 : decode zm_M_stops.2.1 12 = .ok (.bipush 6, 2) := by decide +kernel
theorem dz_M_stops_14 : decode zm_M_stops.2.1 14 = .ok (.iload_n 1, 1) := by decide +kernel
theorem dz_M_stops_15 : decode zm_M_stops.2.1 15 = .ok (.iadd, 1) := by decide +kernel
theorem dz_M_stops_16 : decode zm_M_stops.2.1 16 = .ok (.iaload, 1) := by decide +kernel
theorem dz_M_stops_17 : decode zm_M_stops.2.1 17 = .ok (.istore 6, 2) := by decide +kernel
theorem dz_M_stops_19 : decode zm_M_stops.2.1 19 = .ok (.aload_n 0, 1) := by decide +kernel
theorem dz_M_stops_20 : decode zm_M_stops.2.1 20 = .ok (.getfield 7, 3) := by decide +kernel
theorem dz_M_stops_23 : decode zm_M_stops.2.1 23 = .ok (.iload_n 1, 1) := by decide +kernel
theorem dz_M_stops_24 : decode zm_M_stops.2.1 24 = .ok (.iload_n 3, 1) := by decide +kernel
theorem dz_M_stops_25 : decode zm_M_stops.2.1 25 = .ok (.iastore, 1) := by decide +kernel
theorem dz_M_stops_26 : decode zm_M_stops.2.1 26 = .ok (.aload_n 0, 1) := by decide +kernel
theorem dz_M_stops_27 : decode zm_M_stops.2.1 27 = .ok (.getfield 7, 3) := by decide +kernel
theorem dz_M_stops_30 : decode zm_M_stops.2.1 30 = .ok (.bipush 6, 2) := by decide +kernel
theorem dz_M_stops_32 : decode zm_M_stops.2.1 32 = .ok (.iload_n 1, 1) := by decide +kernel
theorem dz_M_stops_33 : decode zm_M_stops.2.1 33 = .ok (.iadd, 1) := by decide +kernel
theorem dz_M_stops_34 : decode zm_M_stops.2.1 34 = .ok (.iload 4, 2) := by decide +kernel
theorem dz_M_stops_36 : decode zm_M_stops.2.1 36 = .ok (.iastore, 1) := by decide +kernel
theorem dz_M_stops_37 : decode zm_M_stops.2.1 37 = .ok (.aload_n 0, 1) := by decide +kernel
theorem dz_M_stops_38 : decode zm_M_stops.2.1 38 = .ok (.iload_n 2, 1) := by decide +kernel
theorem dz_M_stops_39 : decode zm_M_stops.2.1 39 = .ok (.aload_n 0, 1) := by decide +kernel
theorem dz_M_stops_40 : decode zm_M_stops.2.1 40 = .ok (.getfield 7, 3) := by decide +kernel
theorem dz_M_stops_43 : decode zm_M_stops.2.1 43 = .ok (.bipush 12, 2) := by decide +kernel
theorem dz_M_stops_45 : decode zm_M_stops.2.1 45 = .ok (.iaload, 1) := by decide +kernel
theorem dz_M_stops_46 : decode zm_M_stops.2.1 46 = .ok (.invokevirtual 220, 3) := by decide +kernel
theorem dz_M_stops_49 : decode zm_M_stops.2.1 49 = .ok (.iload_n 1, 1) := by decide +kernel
theorem dz_M_stops_50 : decode zm_M_stops.2.1 50 = .ok (.if_icmp .ne 7, 3) := by decide +kernel
theorem dz_M_stops_53 : decode zm_M_stops.2.1 53 = .ok (.iconst 1, 1) := by decide +kernel
theorem dz_M_stops_54 : decode zm_M_stops.2.1 54 = .ok (.goto 4, 3) := by decide +kernel
theorem dz_M_stops_57 : decode zm_M_stops.2.1 57 = .ok (.iconst 0, 1) := by decide +kernel
theorem dz_M_stops_58 : decode zm_M_stops.2.1 58 = .ok (.istore 7, 2) := by decide +kernel
theorem dz_M_stops_60 : decode zm_M_stops.2.1 60 = .ok (.aload_n 0, 1) := by decide +kernel
theorem dz_M_stops_61 : decode zm_M_stops.2.1 61 = .ok (.getfield 7, 3) := by decide +kernel
theorem dz_M_stops_64 : decode zm_M_stops.2.1 64 = .ok (.iload_n 1, 1) := by decide +kernel
theorem dz_M_stops_65 : decode zm_M_stops.2.1 65 = .ok (.iload 5, 2) := by decide +kernel
theorem dz_M_stops_67 : decode zm_M_stops.2.1 67 = .ok (.iastore, 1) := by decide +kernel
theorem dz_M_stops_68 : decode zm_M_stops.2.1 68 = .ok (.aload_n 0, 1) := by decide +kernel
theorem dz_M_stops_69 : decode zm_M_stops.2.1 69 = .ok (.getfield 7, 3) := by decide +kernel
theorem dz_M_stops_72 : decode zm_M_stops.2.1 72 = .ok (.bipush 6, 2) := by decide +kernel
theorem dz_M_stops_74 : decode zm_M_stops.2.1 74 = .ok (.iload_n 1, 1) := by decide +kernel
theorem dz_M_stops_75 : decode zm_M_stops.2.1 75 = .ok (.iadd, 1) := by decide +kernel
theorem dz_M_stops_76 : decode zm_M_stops.2.1 76 = .ok (.iload 6, 2) := by decide +kernel
theorem dz_M_stops_78 : decode zm_M_stops.2.1 78 = .ok (.iastore, 1) := by decide +kernel
theorem dz_M_stops_79 : decode zm_M_stops.2.1 79 = .ok (.iload 7, 2) := by decide +kernel
theorem dz_M_stops_81 : decode zm_M_stops.2.1 81 = .ok (.ifCond .eq 7, 3) := by decide +kernel
theorem dz_M_stops_84 : decode zm_M_stops.2.1 84 = .ok (.lconst 1, 1) := by decide +kernel
theorem dz_M_stops_85 : decode zm_M_stops.2.1 85 = .ok (.goto 4, 3) := by decide +kernel
theorem dz_M_stops_88 : decode zm_M_stops.2.1 88 = .ok (.lconst 0, 1) := by decide +kernel
theorem dz_M_stops_89 : decode zm_M_stops.2.1 89 = .ok (.lreturn, 1) := by decide +kernel
theorem dz_M_tens_0 : decode zm_M_tens.2.1 0 = .ok (.iload_n 0, 1) := by decide +kernel
theorem dz_M_tens_1 : decode zm_M_tens.2.1 1 = .ok (.ifCond .ne 7, 3) := by decide +kernel
theorem dz_M_tens_4 : decode zm_M_tens.2.1 4 = .ok (.lconst 1, 1) := by decide +kernel
theorem dz_M_tens_5 : decode zm_M_tens.2.1 5 = .ok (.goto 28, 3) := by decide +kernel
theorem dz_M_tens_8 : decode zm_M_tens.2.1 8 = .ok (.iload_n 0, 1) := by decide +kernel
theorem dz_M_tens_9 : decode zm_M_tens.2.1 9 = .ok (.iconst 1, 1) := by decide +kernel
theorem dz_M_tens_10 : decode zm_M_tens.2.1 10 = .ok (.if_icmp .ne 9, 3) := by decide +kernel
theorem dz_M_tens_13 : decode zm_M_tens.2.1 13 = .ok (.ldc2_w 239, 3) := by decide +kernel
theorem dz_M_tens_16 : decode zm_M_tens.2.1 16 = .ok (.goto 17, 3) := by decide +kernel
theorem dz_M_tens_19 : decode zm_M_tens.2.1 19 = .ok (.iload_n 0, 1) := by decide +kernel
theorem dz_M_tens_20 : decode zm_M_tens.2.1 20 = .ok (.iconst 2, 1) := by decide +kernel
theorem dz_M_tens_21 : decode zm_M_tens.2.1 21 = .ok (.if_icmp .ne 9, 3) := by decide +kernel
theorem dz_M_tens_24 : decode zm_M_tens.2.1 24 = .ok (.ldc2_w 269, 3) := by decide +kernel
theorem dz_M_tens_27 : decode zm_M_tens.2.1 27 = .ok (.goto 6, 3) := by decide +kernel
theorem dz_M_tens_30 : decode zm_M_tens.2.1 30 = .ok (.ldc2_w 271, 3) := by decide +kernel
theorem dz_M_tens_33 : decode zm_M_tens.2.1 33 = .ok (.lreturn, 1) := by decide +kernel
theorem dz_M_triesFor_0 : decode zm_M_triesFor.2.1 0 = .ok (.aload_n 0, 1) := by decide +kernel
theorem dz_M_triesFor_1 : decode zm_M_triesFor.2.1 1 = .ok (.getfield 7, 3) := by decide +kernel
theorem dz_M_triesFor_4 : decode zm_M_triesFor.2.1 4 = .ok (.bipush 13, 2) := by decide +kernel
theorem dz_M_triesFor_6 : decode zm_M_triesFor.2.1 6 = .ok (.iload_n 1, 1) := by decide +kernel
theorem dz_M_triesFor_7 : decode zm_M_triesFor.2.1 7 = .ok (.iadd, 1) := by decide +kernel
theorem dz_M_triesFor_8 : decode zm_M_triesFor.2.1 8 = .ok (.iaload, 1) := by decide +kernel
theorem dz_M_triesFor_9 : decode zm_M_triesFor.2.1 9 = .ok (.iconst 5, 1) := by decide +kernel
theorem dz_M_triesFor_10 : decode zm_M_triesFor.2.1 10 = .ok (.iadd, 1) := by decide +kernel
theorem dz_M_triesFor_11 : decode zm_M_triesFor.2.1 11 = .ok (.istore 4, 2) := by decide +kernel
theorem dz_M_triesFor_13 : decode zm_M_triesFor.2.1 13 = .ok (.iload 4, 2) := by decide +kernel
theorem dz_M_triesFor_15 : decode zm_M_triesFor.2.1 15 = .ok (.i2l, 1) := by decide +kernel
theorem dz_M_triesFor_16 : decode zm_M_triesFor.2.1 16 = .ok (.aload_n 0, 1) := by decide +kernel
theorem dz_M_triesFor_17 : decode zm_M_triesFor.2.1 17 = .ok (.getfield 43, 3) := by decide +kernel
theorem dz_M_triesFor_20 : decode zm_M_triesFor.2.1 20 = .ok (.bipush 32, 2) := by decide +kernel
theorem dz_M_triesFor_22 : decode zm_M_triesFor.2.1 22 = .ok (.iload_n 2, 1) := by decide +kernel
theorem dz_M_triesFor_23 : decode zm_M_triesFor.2.1 23 = .ok (.iconst 1, 1) := by decide +kernel
theorem dz_M_triesFor_24 : decode zm_M_triesFor.2.1 24 = .ok (.isub, 1) := by decide +kernel
theorem dz_M_triesFor_25 : decode zm_M_triesFor.2.1 25 = .ok (.imul, 1) := by decide +kernel
theorem dz_M_triesFor_26 : decode zm_M_triesFor.2.1 26 = .ok (.iload_n 3, 1) := by decide +kernel
theorem dz_M_triesFor_27 : decode zm_M_triesFor.2.1 27 = .ok (.iconst 1, 1) := by decide +kernel
theorem dz_M_triesFor_28 : decode zm_M_triesFor.2.1 28 = .ok (.iload_n 1, 1) := by decide +kernel
theorem dz_M_triesFor_29 : decode zm_M_triesFor.2.1 29 = .ok (.ishl, 1) := by decide +kernel
theorem dz_M_triesFor_30 : decode zm_M_triesFor.2.1 30 = .ok (.ior, 1) := by decide +kernel
theorem dz_M_triesFor_31 : decode zm_M_triesFor.2.1 31 = .ok (.iadd, 1) := by decide +kernel
theorem dz_M_triesFor_32 : decode zm_M_triesFor.2.1 32 = .ok (.laload, 1) := by decide +kernel
theorem dz_M_triesFor_33 : decode zm_M_triesFor.2.1 33 = .ok (.lmul, 1) := by decide +kernel
theorem dz_M_triesFor_34 : decode zm_M_triesFor.2.1 34 = .ok (.bipush 10, 2) := by decide +kernel
theorem dz_M_triesFor_36 : decode zm_M_triesFor.2.1 36 = .ok (.iload 4, 2) := by decide +kernel
theorem dz_M_triesFor_38 : decode zm_M_triesFor.2.1 38 = .ok (.isub, 1) := by decide +kernel
theorem dz_M_triesFor_39 : decode zm_M_triesFor.2.1 39 = .ok (.i2l, 1) := by decide +kernel
theorem dz_M_triesFor_40 : decode zm_M_triesFor.2.1 40 = .ok (.aload_n 0, 1) := by decide +kernel
theorem dz_M_triesFor_41 : decode zm_M_triesFor.2.1 41 = .ok (.getfield 43, 3) := by decide +kernel
theorem dz_M_triesFor_44 : decode zm_M_triesFor.2.1 44 = .ok (.bipush 32, 2) := by decide +kernel
theorem dz_M_triesFor_46 : decode zm_M_triesFor.2.1 46 = .ok (.iload_n 2, 1) := by decide +kernel
theorem dz_M_triesFor_47 : decode zm_M_triesFor.2.1 47 = .ok (.iconst 1, 1) := by decide +kernel
theorem dz_M_triesFor_48 : decode zm_M_triesFor.2.1 48 = .ok (.isub, 1) := by decide +kernel
theorem dz_M_triesFor_49 : decode zm_M_triesFor.2.1 49 = .ok (.imul, 1) := by decide +kernel
theorem dz_M_triesFor_50 : decode zm_M_triesFor.2.1 50 = .ok (.iload_n 3, 1) := by decide +kernel
theorem dz_M_triesFor_51 : decode zm_M_triesFor.2.1 51 = .ok (.iadd, 1) := by decide +kernel
theorem dz_M_triesFor_52 : decode zm_M_triesFor.2.1 52 = .ok (.laload, 1) := by decide +kernel
theorem dz_M_triesFor_53 : decode zm_M_triesFor.2.1 53 = .ok (.lmul, 1) := by decide +kernel
theorem dz_M_triesFor_54 : decode zm_M_triesFor.2.1 54 = .ok (.ladd, 1) := by decide +kernel
theorem dz_M_triesFor_55 : decode zm_M_triesFor.2.1 55 = .ok (.lreturn, 1) := by decide +kernel
theorem dz_M_layValues_0 : decode zm_M_layValues.2.1 0 = .ok (.iconst 0, 1) := by decide +kernel
theorem dz_M_layValues_1 : decode zm_M_layValues.2.1 1 = .ok (.istore 4, 2) := by decide +kernel
theorem dz_M_layValues_3 : decode zm_M_layValues.2.1 3 = .ok (.iload 4, 2) := by decide +kernel
theorem dz_M_layValues_5 : decode zm_M_layValues.2.1 5 = .ok (.iload_n 3, 1) := by decide +kernel
theorem dz_M_layValues_6 : decode zm_M_layValues.2.1 6 = .ok (.if_icmp .gt 134, 3) := by decide +kernel
theorem dz_M_layValues_9 : decode zm_M_layValues.2.1 9 = .ok (.iconst 0, 1) := by decide +kernel
theorem dz_M_layValues_10 : decode zm_M_layValues.2.1 10 = .ok (.istore 5, 2) := by decide +kernel
theorem dz_M_layValues_12 : decode zm_M_layValues.2.1 12 = .ok (.iload 5, 2) := by decide +kernel
theorem dz_M_layValues_14 : decode zm_M_layValues.2.1 14 = .ok (.bipush 32, 2) := by decide +kernel
theorem dz_M_layValues_16 : decode zm_M_layValues.2.1 16 = .ok (.if_icmp .ge 118, 3) := by decide +kernel
theorem dz_M_layValues_19 : decode zm_M_layValues.2.1 19 = .ok (.aload_n 0, 1) := by decide +kernel
theorem dz_M_layValues_20 : decode zm_M_layValues.2.1 20 = .ok (.iload_n 1, 1) := by decide +kernel
theorem dz_M_layValues_21 : decode zm_M_layValues.2.1 21 = .ok (.iload_n 2, 1) := by decide +kernel
theorem dz_M_layValues_22 : decode zm_M_layValues.2.1 22 = .ok (.iload 5, 2) := by decide +kernel
theorem dz_M_layValues_24 : decode zm_M_layValues.2.1 24 = .ok (.aload_n 0, 1) := by decide +kernel
theorem dz_M_layValues_25 : decode zm_M_layValues.2.1 25 = .ok (.getfield 7, 3) := by decide +kernel
theorem dz_M_layValues_28 : decode zm_M_layValues.2.1 28 = .ok (.bipush 6, 2) := by decide +kernel
theorem dz_M_layValues_30 : decode zm_M_layValues.2.1 30 = .ok (.iload_n 1, 1) := by decide +kernel
theorem dz_M_layValues_31 : decode zm_M_layValues.2.1 31 = .ok (.iadd, 1) := by decide +kernel
theorem dz_M_layValues_32 : decode zm_M_layValues.2.1 32 = .ok (.iaload, 1) := by decide +kernel
theorem dz_M_layValues_33 : decode zm_M_layValues.2.1 33 = .ok (.iload_n 3, 1) := by decide +kernel
theorem dz_M_layValues_34 : decode zm_M_layValues.2.1 34 = .ok (.iadd, 1) := by decide +kernel
theorem dz_M_layValues_35 : decode zm_M_layValues.2.1 35 = .ok (.iload 4, 2) := by decide +kernel
theorem dz_M_layValues_37 : decode zm_M_layValues.2.1 37 = .ok (.isub, 1) := by decide +kernel
theorem dz_M_layValues_38 : decode zm_M_layValues.2.1 38 = .ok (.invokevirtual 273, 3) := by decide +kernel
theorem dz_M_layValues_41 : decode zm_M_layValues.2.1 41 = .ok (.iload 4, 2) := by decide +kernel
theorem dz_M_layValues_43 : decode zm_M_layValues.2.1 43 = .ok (.invokestatic 277, 3) := by decide +kernel
theorem dz_M_layValues_46 : decode zm_M_layValues.2.1 46 = .ok (.lmul, 1) := by decide +kernel
theorem dz_M_layValues_47 : decode zm_M_layValues.2.1 47 = .ok (.lstore 6, 2) := by decide +kernel
theorem dz_M_layValues_49 : decode zm_M_layValues.2.1 49 = .ok (.iconst 0, 1) := by decide +kernel
theorem dz_M_layValues_50 : decode zm_M_layValues.2.1 50 = .ok (.istore 8, 2) := by decide +kernel
theorem dz_M_layValues_52 : decode zm_M_layValues.2.1 52 = .ok (.iload 8, 2) := by decide +kernel
theorem dz_M_layValues_54 : decode zm_M_layValues.2.1 54 = .ok (.iconst 5, 1) := by decide +kernel
theorem dz_M_layValues_55 : decode zm_M_layValues.2.1 55 = .ok (.if_icmp .ge 58, 3) := by decide +kernel
theorem dz_M_layValues_58 : decode zm_M_layValues.2.1 58 = .ok (.iload 4, 2) := by decide +kernel
theorem dz_M_layValues_60 : decode zm_M_layValues.2.1 60 = .ok (.ifCond .le 53, 3) := by decide +kernel
theorem dz_M_layValues_63 : decode zm_M_layValues.2.1 63 = .ok (.iload 5, 2) := by decide +kernel
theorem dz_M_layValues_65 : decode zm_M_layValues.2.1 65 = .ok (.iload 8, 2) := by decide +kernel
theorem dz_M_layValues_67 : decode zm_M_layValues.2.1 67 = .ok (.ishr, 1) := by decide +kernel
theorem dz_M_layValues_68 : decode zm_M_layValues.2.1 68 = .ok (.iconst 1, 1) := by decide +kernel
theorem dz_M_layValues_69 : decode zm_M_layValues.2.1 69 = .ok (.iand, 1) := by decide +kernel
theorem dz_M_layValues_70 : decode zm_M_layValues.2.1 70 = .ok (.iconst 1, 1) := by decide +kernel
theorem dz_M_layValues_71 : decode zm_M_layValues.2.1 71 = .ok (.if_icmp .ne 7, 3) := by decide +kernel
theorem dz_M_layValues_74 : decode zm_M_layValues.2.1 74 = .ok (.lconst 0, 1) := by decide +kernel
theorem dz_M_layValues_75 : decode zm_M_layValues.2.1 75 = .ok (.goto 13, 3) := by decide +kernel
theorem dz_M_layValues_78 : decode zm_M_layValues.2.1 78 = .ok (.aload_n 0, 1) := by decide +kernel
theorem dz_M_layValues_79 : decode zm_M_layValues.2.1 79 = .ok (.iload 8, 2) := by decide +kernel
theorem dz_M_layValues_81 : decode zm_M_layValues.2.1 81 = .ok (.iload 4, 2) := by decide +kernel
theorem dz_M_layValues_83 : decode zm_M_layValues.2.1 83 = .ok (.iload 5, 2) := by decide +kernel
theorem dz_M_layValues_85 : decode zm_M_layValues.2.1 85 = .ok (.invokevirtual 281, 3) := by decide +kernel
theorem dz_M_layValues_88 : decode zm_M_layValues.2.1 88 = .ok (.lstore 9, 2) := by decide +kernel
theorem dz_M_layValues_90 : decode zm_M_layValues.2.1 90 = .ok (.lload 9, 2) := by decide +kernel
theorem dz_M_layValues_92 : decode zm_M_layValues.2.1 92 = .ok (.lload 6, 2) := by decide +kernel
theorem dz_M_layValues_94 : decode zm_M_layValues.2.1 94 = .ok (.lcmp, 1) := by decide +kernel
theorem dz_M_layValues_95 : decode zm_M_layValues.2.1 95 = .ok (.ifCond .le 8, 3) := by decide +kernel
theorem dz_M_layValues_98 : decode zm_M_layValues.2.1 98 = .ok (.lload 9, 2) := by decide +kernel
theorem dz_M_layValues_100 : decode zm_M_layValues.2.1 100 = .ok (.goto 5, 3) := by decide +kernel
theorem dz_M_layValues_103 : decode zm_M_layValues.2.1 103 = .ok (.lload 6, 2) := by decide +kernel
theorem dz_M_layValues_105 : decode zm_M_layValues.2.1 105 = .ok (.lstore 6, 2) := by decide +kernel
theorem dz_M_layValues_107 : decode zm_M_layValues.2.1 107 = .ok (.iinc 8 1, 3) := by decide +kernel
theorem dz_M_layValues_110 : decode zm_M_layValues.2.1 110 = .ok (.goto (-58), 3) := by decide +kernel
theorem dz_M_layValues_113 : decode zm_M_layValues.2.1 113 = .ok (.aload_n 0, 1) := by decide +kernel
theorem dz_M_layValues_114 : decode zm_M_layValues.2.1 114 = .ok (.getfield 43, 3) := by decide +kernel
theorem dz_M_layValues_117 : decode zm_M_layValues.2.1 117 = .ok (.bipush 32, 2) := by decide +kernel
theorem dz_M_layValues_119 : decode zm_M_layValues.2.1 119 = .ok (.iload 4, 2) := by decide +kernel
theorem dz_M_layValues_121 : decode zm_M_layValues.2.1 121 = .ok (.imul, 1) := by decide +kernel
theorem dz_M_layValues_122 : decode zm_M_layValues.2.1 122 = .ok (.iload 5, 2) := by decide +kernel
theorem dz_M_layValues_124 : decode zm_M_layValues.2.1 124 = .ok (.iadd, 1) := by decide +kernel
theorem dz_M_layValues_125 : decode zm_M_layValues.2.1 125 = .ok (.lload 6, 2) := by decide +kernel
theorem dz_M_layValues_127 : decode zm_M_layValues.2.1 127 = .ok (.lastore, 1) := by decide +kernel
theorem dz_M_layValues_128 : decode zm_M_layValues.2.1 128 = .ok (.iinc 5 1, 3) := by decide +kernel
theorem dz_M_layValues_131 : decode zm_M_layValues.2.1 131 = .ok (.goto (-119), 3) := by decide +kernel
theorem dz_M_layValues_134 : decode zm_M_layValues.2.1 134 = .ok (.iinc 4 1, 3) := by decide +kernel
theorem dz_M_layValues_137 : decode zm_M_layValues.2.1 137 = .ok (.goto (-134), 3) := by decide +kernel
theorem dz_M_layValues_140 : decode zm_M_layValues.2.1 140 = .ok (.return_, 1) := by decide +kernel
theorem dz_M_best_0 : decode zm_M_best.2.1 0 = .ok (.aload_n 0, 1) := by decide +kernel
theorem dz_M_best_1 : decode zm_M_best.2.1 1 = .ok (.iload_n 1, 1) := by decide +kernel
theorem dz_M_best_2 : decode zm_M_best.2.1 2 = .ok (.invokevirtual 203, 3) := by decide +kernel
theorem dz_M_best_5 : decode zm_M_best.2.1 5 = .ok (.ifCond .eq 35, 3) := by decide +kernel
theorem dz_M_best_8 : decode zm_M_best.2.1 8 = .ok (.iload_n 2, 1) := by decide +kernel
theorem dz_M_best_9 : decode zm_M_best.2.1 9 = .ok (.invokestatic 217, 3) := by decide +kernel
theorem dz_M_best_12 : decode zm_M_best.2.1 12 = .ok (.ifCond .eq 28, 3) := by decide +kernel
theorem dz_M_best_15 : decode zm_M_best.2.1 15 = .ok (.iload_n 3, 1) := by decide +kernel
theorem dz_M_best_16 : decode zm_M_best.2.1 16 = .ok (.i2l, 1) := by decide +kernel
theorem dz_M_best_17 : decode zm_M_best.2.1 17 = .ok (.lconst 0, 1) := by decide +kernel
theorem dz_M_best_18 : decode zm_M_best.2.1 18 = .ok (.ldc2_w 167, 3) := by decide +kernel
theorem dz_M_best_21 : decode zm_M_best.2.1 21 = .ok (.invokestatic 65, 3) := by decide +kernel
theorem dz_M_best_24 : decode zm_M_best.2.1 24 = .ok (.ifCond .eq 16, 3) := by decide +kernel
theorem dz_M_best_27 : decode zm_M_best.2.1 27 = .ok (.iload 4, 2) := by decide +kernel
theorem dz_M_best_29 : decode zm_M_best.2.1 29 = .ok (.i2l, 1) := by decide +kernel
theorem dz_M_best_30 : decode zm_M_best.2.1 30 = .ok (.lconst 0, 1) := by decide +kernel
theorem dz_M_best_31 : decode zm_M_best.2.1 31 = .ok (.ldc2_w 241, 3) := by decide +kernel
theorem dz_M_best_34 : decode zm_M_best.2.1 34 = .ok (.invokestatic 65, 3) := by decide +kernel
theorem dz_M_best_37 : decode zm_M_best.2.1 37 = .ok (.ifCond .ne 7, 3) := by decide +kernel
theorem dz_M_best_40 : decode zm_M_best.2.1 40 = .ok (.ldc2_w 263, 3) := by decide +kernel
theorem dz_M_best_43 : decode zm_M_best.2.1 43 = .ok (.lreturn, 1) := by decide +kernel
theorem dz_M_best_44 : decode zm_M_best.2.1 44 = .ok (.iconst 3, 1) := by decide +kernel
theorem dz_M_best_45 : decode zm_M_best.2.1 45 = .ok (.aload_n 0, 1) := by decide +kernel
theorem dz_M_best_46 : decode zm_M_best.2.1 46 = .ok (.getfield 7, 3) := by decide +kernel
theorem dz_M_best_49 : decode zm_M_best.2.1 49 = .ok (.bipush 6, 2) := by decide +kernel
theorem dz_M_best_51 : decode zm_M_best.2.1 51 = .ok (.iload_n 1, 1) := by decide +kernel
theorem dz_M_best_52 : decode zm_M_best.2.1 52 = .ok (.iadd, 1) := by decide +kernel
theorem dz_M_best_53 : decode zm_M_best.2.1 53 = .ok (.iaload, 1) := by decide +kernel
theorem dz_M_best_54 : decode zm_M_best.2.1 54 = .ok (.isub, 1) := by decide +kernel
theorem dz_M_best_55 : decode zm_M_best.2.1 55 = .ok (.istore 5, 2) := by decide +kernel
theorem dz_M_best_57 : decode zm_M_best.2.1 57 = .ok (.iload_n 1, 1) := by decide +kernel
theorem dz_M_best_58 : decode zm_M_best.2.1 58 = .ok (.aload_n 0, 1) := by decide +kernel
theorem dz_M_best_59 : decode zm_M_best.2.1 59 = .ok (.getfield 7, 3) := by decide +kernel
theorem dz_M_best_62 : decode zm_M_best.2.1 62 = .ok (.bipush 12, 2) := by decide +kernel
theorem dz_M_best_64 : decode zm_M_best.2.1 64 = .ok (.iaload, 1) := by decide +kernel
theorem dz_M_best_65 : decode zm_M_best.2.1 65 = .ok (.invokestatic 169, 3) := by decide +kernel
theorem dz_M_best_68 : decode zm_M_best.2.1 68 = .ok (.ifCond .ne 7, 3) := by decide +kernel
theorem dz_M_best_71 : decode zm_M_best.2.1 71 = .ok (.iconst 0, 1) := by decide +kernel
theorem dz_M_best_72 : decode zm_M_best.2.1 72 = .ok (.goto 15, 3) := by decide +kernel
theorem dz_M_best_75 : decode zm_M_best.2.1 75 = .ok (.iload_n 3, 1) := by decide +kernel
theorem dz_M_best_76 : decode zm_M_best.2.1 76 = .ok (.iload 5, 2) := by decide +kernel
theorem dz_M_best_78 : decode zm_M_best.2.1 78 = .ok (.if_icmp .ge 7, 3) := by decide +kernel
theorem dz_M_best_81 : decode zm_M_best.2.1 81 = .ok (.iload_n 3, 1) := by decide +kernel
theorem dz_M_best_82 : decode zm_M_best.2.1 82 = .ok (.goto 5, 3) := by decide +kernel
theorem dz_M_best_85 : decode zm_M_best.2.1 85 = .ok (.iload 5, 2) := by decide +kernel
theorem dz_M_best_87 : decode zm_M_best.2.1 87 = .ok (.istore 6, 2) := by decide +kernel
theorem dz_M_best_89 : decode zm_M_best.2.1 89 = .ok (.aload_n 0, 1) := by decide +kernel
theorem dz_M_best_90 : decode zm_M_best.2.1 90 = .ok (.iload_n 1, 1) := by decide +kernel
theorem dz_M_best_91 : decode zm_M_best.2.1 91 = .ok (.iload_n 2, 1) := by decide +kernel
theorem dz_M_best_92 : decode zm_M_best.2.1 92 = .ok (.iload 6, 2) := by decide +kernel
theorem dz_M_best_94 : decode zm_M_best.2.1 94 = .ok (.invokevirtual 285, 3) := by decide +kernel
theorem dz_M_best_97 : decode zm_M_best.2.1 97 = .ok (.iload 4, 2) := by decide +kernel
theorem dz_M_best_99 : decode zm_M_best.2.1 99 = .ok (.iconst 2, 1) := by decide +kernel
theorem dz_M_best_100 : decode zm_M_best.2.1 100 = .ok (.if_icmp .ge 31, 3) := by decide +kernel
theorem dz_M_best_103 : decode zm_M_best.2.1 103 = .ok (.aload_n 0, 1) := by decide +kernel
theorem dz_M_best_104 : decode zm_M_best.2.1 104 = .ok (.getfield 43, 3) := by decide +kernel
theorem dz_M_best_107 : decode zm_M_best.2.1 107 = .ok (.bipush 32, 2) := by decide +kernel
theorem dz_M_best_109 : decode zm_M_best.2.1 109 = .ok (.iload 6, 2) := by decide +kernel
theorem dz_M_best_111 : decode zm_M_best.2.1 111 = .ok (.imul, 1) := by decide +kernel
theorem dz_M_best_112 : decode zm_M_best.2.1 112 = .ok (.aload_n 0, 1) := by decide +kernel
theorem dz_M_best_113 : decode zm_M_best.2.1 113 = .ok (.getfield 7, 3) := by decide +kernel
theorem dz_M_best_116 : decode zm_M_best.2.1 116 = .ok (.iload_n 1, 1) := by decide +kernel
theorem dz_M_best_117 : decode zm_M_best.2.1 117 = .ok (.iaload, 1) := by decide +kernel
theorem dz_M_best_118 : decode zm_M_best.2.1 118 = .ok (.iadd, 1) := by decide +kernel
theorem dz_M_best_119 : decode zm_M_best.2.1 119 = .ok (.laload, 1) := by decide +kernel
theorem dz_M_best_120 : decode zm_M_best.2.1 120 = .ok (.iload 6, 2) := by decide +kernel
theorem dz_M_best_122 : decode zm_M_best.2.1 122 = .ok (.invokestatic 277, 3) := by decide +kernel
theorem dz_M_best_125 : decode zm_M_best.2.1 125 = .ok (.iload 4, 2) := by decide +kernel
theorem dz_M_best_127 : decode zm_M_best.2.1 127 = .ok (.invokestatic 265, 3) := by decide +kernel
theorem dz_M_best_130 : decode zm_M_best.2.1 130 = .ok (.lreturn, 1) := by decide +kernel
theorem dz_M_best_131 : decode zm_M_best.2.1 131 = .ok (.iconst 5, 1) := by decide +kernel
theorem dz_M_best_132 : decode zm_M_best.2.1 132 = .ok (.istore 7, 2) := by decide +kernel
theorem dz_M_best_134 : decode zm_M_best.2.1 134 = .ok (.aload_n 0, 1) := by decide +kernel
theorem dz_M_best_135 : decode zm_M_best.2.1 135 = .ok (.iload_n 1, 1) := by decide +kernel
theorem dz_M_best_136 : decode zm_M_best.2.1 136 = .ok (.iload_n 2, 1) := by decide +kernel
theorem dz_M_best_137 : decode zm_M_best.2.1 137 = .ok (.aload_n 0, 1) := by decide +kernel
theorem dz_M_best_138 : decode zm_M_best.2.1 138 = .ok (.getfield 7, 3) := by decide +kernel
theorem dz_M_best_141 : decode zm_M_best.2.1 141 = .ok (.iload_n 1, 1) := by decide +kernel
theorem dz_M_best_142 : decode zm_M_best.2.1 142 = .ok (.iaload, 1) := by decide +kernel
theorem dz_M_best_143 : decode zm_M_best.2.1 143 = .ok (.aload_n 0, 1) := by decide +kernel
theorem dz_M_best_144 : decode zm_M_best.2.1 144 = .ok (.getfield 7, 3) := by decide +kernel
theorem dz_M_best_147 : decode zm_M_best.2.1 147 = .ok (.bipush 6, 2) := by decide +kernel
theorem dz_M_best_149 : decode zm_M_best.2.1 149 = .ok (.iload_n 1, 1) := by decide +kernel
theorem dz_M_best_150 : decode zm_M_best.2.1 150 = .ok (.iadd, 1) := by decide +kernel
theorem dz_M_best_151 : decode zm_M_best.2.1 151 = .ok (.iaload, 1) := by decide +kernel
theorem dz_M_best_152 : decode zm_M_best.2.1 152 = .ok (.invokevirtual 273, 3) := by decide +kernel
theorem dz_M_best_155 : decode zm_M_best.2.1 155 = .ok (.iload 6, 2) := by decide +kernel
theorem dz_M_best_157 : decode zm_M_best.2.1 157 = .ok (.invokestatic 277, 3) := by decide +kernel
theorem dz_M_best_160 : decode zm_M_best.2.1 160 = .ok (.lmul, 1) := by decide +kernel
theorem dz_M_best_161 : decode zm_M_best.2.1 161 = .ok (.lstore 8, 2) := by decide +kernel
theorem dz_M_best_163 : decode zm_M_best.2.1 163 = .ok (.iconst 0, 1) := by decide +kernel
theorem dz_M_best_164 : decode zm_M_best.2.1 164 = .ok (.istore 10, 2) := by decide +kernel
theorem dz_M_best_166 : decode zm_M_best.2.1 166 = .ok (.iload 10, 2) := by decide +kernel
theorem dz_M_best_168 : decode zm_M_best.2.1 168 = .ok (.iconst 5, 1) := by decide +kernel
theorem dz_M_best_169 : decode zm_M_best.2.1 169 = .ok (.if_icmp .ge 83, 3) := by decide +kernel
theorem dz_M_best_172 : decode zm_M_best.2.1 172 = .ok (.iload 6, 2) := by decide +kernel
theorem dz_M_best_174 : decode zm_M_best.2.1 174 = .ok (.ifCond .le 78, 3) := by decide +kernel
theorem dz_M_best_177 : decode zm_M_best.2.1 177 = .ok (.aload_n 0, 1) := by decide +kernel
theorem dz_M_best_178 : decode zm_M_best.2.1 178 = .ok (.getfield 7, 3) := by decide +kernel
theorem dz_M_best_181 : decode zm_M_best.2.1 181 = .ok (.iload_n 1, 1) := by decide +kernel
theorem dz_M_best_182 : decode zm_M_best.2.1 182 = .ok (.iaload, 1) := by decide +kernel
theorem dz_M_best_183 : decode zm_M_best.2.1 183 = .ok (.iload 10, 2) := by decide +kernel
theorem dz_M_best_185 : decode zm_M_best.2.1 185 = .ok (.ishr, 1) := by decide +kernel
theorem dz_M_best_186 : decode zm_M_best.2.1 186 = .ok (.iconst 1, 1) := by decide +kernel
theorem dz_M_best_187 : decode zm_M_best.2.1 187 = .ok (.iand, 1) := by decide +kernel
theorem dz_M_best_188 : decode zm_M_best.2.1 188 = .ok (.iconst 1, 1) := by decide +kernel
theorem dz_M_best_189 : decode zm_M_best.2.1 189 = .ok (.if_icmp .ne 7, 3) := by decide +kernel
theorem dz_M_best_192 : decode zm_M_best.2.1 192 = .ok (.lconst 0, 1) := by decide +kernel
theorem dz_M_best_193 : decode zm_M_best.2.1 193 = .ok (.goto 17, 3) := by decide +kernel
theorem dz_M_best_196 : decode zm_M_best.2.1 196 = .ok (.aload_n 0, 1) := by decide +kernel
theorem dz_M_best_197 : decode zm_M_best.2.1 197 = .ok (.iload 10, 2) := by decide +kernel
theorem dz_M_best_199 : decode zm_M_best.2.1 199 = .ok (.iload 6, 2) := by decide +kernel
theorem dz_M_best_201 : decode zm_M_best.2.1 201 = .ok (.aload_n 0, 1) := by decide +kernel
theorem dz_M_best_202 : decode zm_M_best.2.1 202 = .ok (.getfield 7, 3) := by decide +kernel
theorem dz_M_best_205 : decode zm_M_best.2.1 205 = .ok (.iload_n 1, 1) := by decide +kernel
theorem dz_M_best_206 : decode zm_M_best.2.1 206 = .ok (.iaload, 1) := by decide +kernel
theorem dz_M_best_207 : decode zm_M_best.2.1 207 = .ok (.invokevirtual 281, 3) := by decide +kernel
theorem dz_M_best_210 : decode zm_M_best.2.1 210 = .ok (.lstore 11, 2) := by decide +kernel
theorem dz_M_best_212 : decode zm_M_best.2.1 212 = .ok (.lload 11, 2) := by decide +kernel
theorem dz_M_best_214 : decode zm_M_best.2.1 214 = .ok (.lload 8, 2) := by decide +kernel
theorem dz_M_best_216 : decode zm_M_best.2.1 216 = .ok (.lcmp, 1) := by decide +kernel
theorem dz_M_best_217 : decode zm_M_best.2.1 217 = .ok (.ifCond .le 8, 3) := by decide +kernel
theorem dz_M_best_220 : decode zm_M_best.2.1 220 = .ok (.iload 10, 2) := by decide +kernel
theorem dz_M_best_222 : decode zm_M_best.2.1 222 = .ok (.goto 5, 3) := by decide +kernel
theorem dz_M_best_225 : decode zm_M_best.2.1 225 = .ok (.iload 7, 2) := by decide +kernel
theorem dz_M_best_227 : decode zm_M_best.2.1 227 = .ok (.istore 7, 2) := by decide +kernel
theorem dz_M_best_229 : decode zm_M_best.2.1 229 = .ok (.lload 11, 2) := by decide +kernel
theorem dz_M_best_231 : decode zm_M_best.2.1 231 = .ok (.lload 8, 2) := by decide +kernel
theorem dz_M_best_233 : decode zm_M_best.2.1 233 = .ok (.lcmp, 1) := by decide +kernel
theorem dz_M_best_234 : decode zm_M_best.2.1 234 = .ok (.ifCond .le 8, 3) := by decide +kernel
theorem dz_M_best_237 : decode zm_M_best.2.1 237 = .ok (.lload 11, 2) := by decide +kernel
theorem dz_M_best_239 : decode zm_M_best.2.1 239 = .ok (.goto 5, 3) := by decide +kernel
theorem dz_M_best_242 : decode zm_M_best.2.1 242 = .ok (.lload 8, 2) := by decide +kernel
theorem dz_M_best_244 : decode zm_M_best.2.1 244 = .ok (.lstore 8, 2) := by decide +kernel
theorem dz_M_best_246 : decode zm_M_best.2.1 246 = .ok (.iinc 10 1, 3) := by decide +kernel
theorem dz_M_best_249 : decode zm_M_best.2.1 249 = .ok (.goto (-83), 3) := by decide +kernel
theorem dz_M_best_252 : decode zm_M_best.2.1 252 = .ok (.iload 7, 2) := by decide +kernel
theorem dz_M_best_254 : decode zm_M_best.2.1 254 = .ok (.i2l, 1) := by decide +kernel
theorem dz_M_best_255 : decode zm_M_best.2.1 255 = .ok (.lreturn, 1) := by decide +kernel
theorem dz_M_see_0 : decode zm_M_see.2.1 0 = .ok (.iload_n 1, 1) := by decide +kernel
theorem dz_M_see_1 : decode zm_M_see.2.1 1 = .ok (.invokestatic 217, 3) := by decide +kernel
theorem dz_M_see_4 : decode zm_M_see.2.1 4 = .ok (.ifCond .eq 17, 3) := by decide +kernel
theorem dz_M_see_7 : decode zm_M_see.2.1 7 = .ok (.aload_n 0, 1) := by decide +kernel
theorem dz_M_see_8 : decode zm_M_see.2.1 8 = .ok (.iload_n 2, 1) := by decide +kernel
theorem dz_M_see_9 : decode zm_M_see.2.1 9 = .ok (.invokevirtual 203, 3) := by decide +kernel
theorem dz_M_see_12 : decode zm_M_see.2.1 12 = .ok (.ifCond .ne 11, 3) := by decide +kernel
theorem dz_M_see_15 : decode zm_M_see.2.1 15 = .ok (.iload_n 2, 1) := by decide +kernel
theorem dz_M_see_16 : decode zm_M_see.2.1 16 = .ok (.bipush (-4), 2) := by decide +kernel
theorem dz_M_see_18 : decode zm_M_see.2.1 18 = .ok (.if_icmp .eq 5, 3) := by decide +kernel
theorem dz_M_see_21 : decode zm_M_see.2.1 21 = .ok (.iconst (-1), 1) := by decide +kernel
theorem dz_M_see_22 : decode zm_M_see.2.1 22 = .ok (.ireturn, 1) := by decide +kernel
theorem dz_M_see_23 : decode zm_M_see.2.1 23 = .ok (.aload_n 0, 1) := by decide +kernel
theorem dz_M_see_24 : decode zm_M_see.2.1 24 = .ok (.getfield 164, 3) := by decide +kernel
theorem dz_M_see_27 : decode zm_M_see.2.1 27 = .ok (.bipush 6, 2) := by decide +kernel
theorem dz_M_see_29 : decode zm_M_see.2.1 29 = .ok (.if_icmp .ne 6, 3) := by decide +kernel
theorem dz_M_see_32 : decode zm_M_see.2.1 32 = .ok (.bipush (-3), 2) := by decide +kernel
theorem dz_M_see_34 : decode zm_M_see.2.1 34 = .ok (.ireturn, 1) := by decide +kernel
theorem dz_M_see_35 : decode zm_M_see.2.1 35 = .ok (.aload_n 0, 1) := by decide +kernel
theorem dz_M_see_36 : decode zm_M_see.2.1 36 = .ok (.getfield 47, 3) := by decide +kernel
theorem dz_M_see_39 : decode zm_M_see.2.1 39 = .ok (.iconst 2, 1) := by decide +kernel
theorem dz_M_see_40 : decode zm_M_see.2.1 40 = .ok (.aload_n 0, 1) := by decide +kernel
theorem dz_M_see_41 : decode zm_M_see.2.1 41 = .ok (.getfield 164, 3) := by decide +kernel
theorem dz_M_see_44 : decode zm_M_see.2.1 44 = .ok (.imul, 1) := by decide +kernel
theorem dz_M_see_45 : decode zm_M_see.2.1 45 = .ok (.iload_n 1, 1) := by decide +kernel
theorem dz_M_see_46 : decode zm_M_see.2.1 46 = .ok (.iastore, 1) := by decide +kernel
theorem dz_M_see_47 : decode zm_M_see.2.1 47 = .ok (.aload_n 0, 1) := by decide +kernel
theorem dz_M_see_48 : decode zm_M_see.2.1 48 = .ok (.getfield 47, 3) := by decide +kernel
theorem dz_M_see_51 : decode zm_M_see.2.1 51 = .ok (.iconst 2, 1) := by decide +kernel
theorem dz_M_see_52 : decode zm_M_see.2.1 52 = .ok (.aload_n 0, 1) := by decide +kernel
theorem dz_M_see_53 : decode zm_M_see.2.1 53 = .ok (.getfield 164, 3) := by decide +kernel
theorem dz_M_see_56 : decode zm_M_see.2.1 56 = .ok (.imul, 1) := by decide +kernel
theorem dz_M_see_57 : decode zm_M_see.2.1 57 = .ok (.iconst 1, 1) := by decide +kernel
theorem dz_M_see_58 : decode zm_M_see.2.1 58 = .ok (.iadd, 1) := by decide +kernel
theorem dz_M_see_59 : decode zm_M_see.2.1 59 = .ok (.iload_n 2, 1) := by decide +kernel
theorem dz_M_see_60 : decode zm_M_see.2.1 60 = .ok (.iastore, 1) := by decide +kernel
theorem dz_M_see_61 : decode zm_M_see.2.1 61 = .ok (.aload_n 0, 1) := by decide +kernel
theorem dz_M_see_62 : decode zm_M_see.2.1 62 = .ok (.dup, 1) := by decide +kernel
theorem dz_M_see_63 : decode zm_M_see.2.1 63 = .ok (.getfield 164, 3) := by decide +kernel
theorem dz_M_see_66 : decode zm_M_see.2.1 66 = .ok (.iconst 1, 1) := by decide +kernel
theorem dz_M_see_67 : decode zm_M_see.2.1 67 = .ok (.iadd, 1) := by decide +kernel
theorem dz_M_see_68 : decode zm_M_see.2.1 68 = .ok (.putfield 164, 3) := by decide +kernel
theorem dz_M_see_71 : decode zm_M_see.2.1 71 = .ok (.aload_n 0, 1) := by decide +kernel
theorem dz_M_see_72 : decode zm_M_see.2.1 72 = .ok (.getfield 164, 3) := by decide +kernel
theorem dz_M_see_75 : decode zm_M_see.2.1 75 = .ok (.ireturn, 1) := by decide +kernel
theorem dz_M_forget_0 : decode zm_M_forget.2.1 0 = .ok (.iload_n 1, 1) := by decide +kernel
theorem dz_M_forget_1 : decode zm_M_forget.2.1 1 = .ok (.i2l, 1) := by decide +kernel
theorem dz_M_forget_2 : decode zm_M_forget.2.1 2 = .ok (.lconst 0, 1) := by decide +kernel
theorem dz_M_forget_3 : decode zm_M_forget.2.1 3 = .ok (.aload_n 0, 1) := by decide +kernel
theorem dz_M_forget_4 : decode zm_M_forget.2.1 4 = .ok (.getfield 164, 3) := by decide +kernel
theorem dz_M_forget_7 : decode zm_M_forget.2.1 7 = .ok (.i2l, 1) := by decide +kernel
theorem dz_M_forget_8 : decode zm_M_forget.2.1 8 = .ok (.invokestatic 65, 3) := by decide +kernel
theorem dz_M_forget_11 : decode zm_M_forget.2.1 11 = .ok (.ifCond .ne 5, 3) := by decide +kernel
theorem dz_M_forget_14 : decode zm_M_forget.2.1 14 = .ok (.iconst (-1), 1) := by decide +kernel
theorem dz_M_forget_15 : decode zm_M_forget.2.1 15 = .ok (.ireturn, 1) := by decide +kernel
theorem dz_M_forget_16 : decode zm_M_forget.2.1 16 = .ok (.aload_n 0, 1) := by decide +kernel
theorem dz_M_forget_17 : decode zm_M_forget.2.1 17 = .ok (.getfield 164, 3) := by decide +kernel
theorem dz_M_forget_20 : decode zm_M_forget.2.1 20 = .ok (.istore_n 2, 1) := by decide +kernel
theorem dz_M_forget_21 : decode zm_M_forget.2.1 21 = .ok (.aload_n 0, 1) := by decide +kernel
theorem dz_M_forget_22 : decode zm_M_forget.2.1 22 = .ok (.iload_n 1, 1) := by decide +kernel
theorem dz_M_forget_23 : decode zm_M_forget.2.1 23 = .ok (.putfield 164, 3) := by decide +kernel
theorem dz_M_forget_26 : decode zm_M_forget.2.1 26 = .ok (.iload_n 2, 1) := by decide +kernel
theorem dz_M_forget_27 : decode zm_M_forget.2.1 27 = .ok (.ireturn, 1) := by decide +kernel
theorem dz_M_fits_0 : decode zm_M_fits.2.1 0 = .ok (.iload_n 1, 1) := by decide +kernel
theorem dz_M_fits_1 : decode zm_M_fits.2.1 1 = .ok (.i2l, 1) := by decide +kernel
theorem dz_M_fits_2 : decode zm_M_fits.2.1 2 = .ok (.lconst 0, 1) := by decide +kernel
theorem dz_M_fits_3 : decode zm_M_fits.2.1 3 = .ok (.ldc2_w 167, 3) := by decide +kernel
theorem dz_M_fits_6 : decode zm_M_fits.2.1 6 = .ok (.invokestatic 65, 3) := by decide +kernel
theorem dz_M_fits_9 : decode zm_M_fits.2.1 9 = .ok (.ifCond .ne 5, 3) := by decide +kernel
theorem dz_M_fits_12 : decode zm_M_fits.2.1 12 = .ok (.iconst (-1), 1) := by decide +kernel
theorem dz_M_fits_13 : decode zm_M_fits.2.1 13 = .ok (.ireturn, 1) := by decide +kernel
theorem dz_M_fits_14 : decode zm_M_fits.2.1 14 = .ok (.iconst 0, 1) := by decide +kernel
theorem dz_M_fits_15 : decode zm_M_fits.2.1 15 = .ok (.istore_n 2, 1) := by decide +kernel
theorem dz_M_fits_16 : decode zm_M_fits.2.1 16 = .ok (.bipush (-4), 2) := by decide +kernel
theorem dz_M_fits_18 : decode zm_M_fits.2.1 18 = .ok (.istore_n 3, 1) := by decide +kernel
theorem dz_M_fits_19 : decode zm_M_fits.2.1 19 = .ok (.aload_n 0, 1) := by decide +kernel
theorem dz_M_fits_20 : decode zm_M_fits.2.1 20 = .ok (.invokevirtual 254, 3) := by decide +kernel
theorem dz_M_fits_23 : decode zm_M_fits.2.1 23 = .ok (.iconst 1, 1) := by decide +kernel
theorem dz_M_fits_24 : decode zm_M_fits.2.1 24 = .ok (.isub, 1) := by decide +kernel
theorem dz_M_fits_25 : decode zm_M_fits.2.1 25 = .ok (.istore 4, 2) := by decide +kernel
theorem dz_M_fits_27 : decode zm_M_fits.2.1 27 = .ok (.aload_n 0, 1) := by decide +kernel
theorem dz_M_fits_28 : decode zm_M_fits.2.1 28 = .ok (.invokevirtual 254, 3) := by decide +kernel
theorem dz_M_fits_31 : decode zm_M_fits.2.1 31 = .ok (.iconst 1, 1) := by decide +kernel
theorem dz_M_fits_32 : decode zm_M_fits.2.1 32 = .ok (.isub, 1) := by decide +kernel
theorem dz_M_fits_33 : decode zm_M_fits.2.1 33 = .ok (.istore 5, 2) := by decide +kernel
theorem dz_M_fits_35 : decode zm_M_fits.2.1 35 = .ok (.iconst 0, 1) := by decide +kernel
theorem dz_M_fits_36 : decode zm_M_fits.2.1 36 = .ok (.istore 6, 2) := by decide +kernel
theorem dz_M_fits_38 : decode zm_M_fits.2.1 38 = .ok (.iload 6, 2) := by decide +kernel
theorem dz_M_fits_40 : decode zm_M_fits.2.1 40 = .ok (.aload_n 0, 1) := by decide +kernel
theorem dz_M_fits_41 : decode zm_M_fits.2.1 41 = .ok (.invokevirtual 254, 3) := by decide +kernel
theorem dz_M_fits_44 : decode zm_M_fits.2.1 44 = .ok (.if_icmp .ge 106, 3) := by decide +kernel
theorem dz_M_fits_47 : decode zm_M_fits.2.1 47 = .ok (.iconst 1, 1) := by decide +kernel
theorem dz_M_fits_48 : decode zm_M_fits.2.1 48 = .ok (.istore 7, 2) := by decide +kernel
theorem dz_M_fits_50 : decode zm_M_fits.2.1 50 = .ok (.iconst 0, 1) := by decide +kernel
theorem dz_M_fits_51 : decode zm_M_fits.2.1 51 = .ok (.istore 8, 2) := by decide +kernel
theorem dz_M_fits_53 : decode zm_M_fits.2.1 53 = .ok (.iload 8, 2) := by decide +kernel
theorem dz_M_fits_55 : decode zm_M_fits.2.1 55 = .ok (.aload_n 0, 1) := by decide +kernel
theorem dz_M_fits_56 : decode zm_M_fits.2.1 56 = .ok (.getfield 164, 3) := by decide +kernel
theorem dz_M_fits_59 : decode zm_M_fits.2.1 59 = .ok (.if_icmp .ge 50, 3) := by decide +kernel
theorem dz_M_fits_62 : decode zm_M_fits.2.1 62 = .ok (.iload 7, 2) := by decide +kernel
theorem dz_M_fits_64 : decode zm_M_fits.2.1 64 = .ok (.ifCond .eq 36, 3) := by decide +kernel
theorem dz_M_fits_67 : decode zm_M_fits.2.1 67 = .ok (.aload_n 0, 1) := by decide +kernel
theorem dz_M_fits_68 : decode zm_M_fits.2.1 68 = .ok (.aload_n 0, 1) := by decide +kernel
theorem dz_M_fits_69 : decode zm_M_fits.2.1 69 = .ok (.getfield 47, 3) := by decide +kernel
theorem dz_M_fits_72 : decode zm_M_fits.2.1 72 = .ok (.iconst 2, 1) := by decide +kernel
theorem dz_M_fits_73 : decode zm_M_fits.2.1 73 = .ok (.iload 8, 2) := by decide +kernel
theorem dz_M_fits_75 : decode zm_M_fits.2.1 75 = .ok (.imul, 1) := by decide +kernel
theorem dz_M_fits_76 : decode zm_M_fits.2.1 76 = .ok (.iaload, 1) := by decide +kernel
theorem dz_M_fits_77 : decode zm_M_fits.2.1 77 = .ok (.iload 6, 2) := by decide +kernel
theorem dz_M_fits_79 : decode zm_M_fits.2.1 79 = .ok (.invokevirtual 220, 3) := by decide +kernel
theorem dz_M_fits_82 : decode zm_M_fits.2.1 82 = .ok (.aload_n 0, 1) := by decide +kernel
theorem dz_M_fits_83 : decode zm_M_fits.2.1 83 = .ok (.getfield 47, 3) := by decide +kernel
theorem dz_M_fits_86 : decode zm_M_fits.2.1 86 = .ok (.iconst 2, 1) := by decide +kernel
theorem dz_M_fits_87 : decode zm_M_fits.2.1 87 = .ok (.iload 8, 2) := by decide +kernel
theorem dz_M_fits_89 : decode zm_M_fits.2.1 89 = .ok (.imul, 1) := by decide +kernel
theorem dz_M_fits_90 : decode zm_M_fits.2.1 90 = .ok (.iconst 1, 1) := by decide +kernel
theorem dz_M_fits_91 : decode zm_M_fits.2.1 91 = .ok (.iadd, 1) := by decide +kernel
theorem dz_M_fits_92 : decode zm_M_fits.2.1 92 = .ok (.iaload, 1) := by decide +kernel
theorem dz_M_fits_93 : decode zm_M_fits.2.1 93 = .ok (.if_icmp .ne 7, 3) := by decide +kernel
theorem dz_M_fits_96 : decode zm_M_fits.2.1 96 = .ok (.iconst 1, 1) := by decide +kernel
theorem dz_M_fits_97 : decode zm_M_fits.2.1 97 = .ok (.goto 4, 3) := by decide +kernel
theorem dz_M_fits_100 : decode zm_M_fits.2.1 100 = .ok (.iconst 0, 1) := by decide +kernel
theorem dz_M_fits_101 : decode zm_M_fits.2.1 101 = .ok (.istore 7, 2) := by decide +kernel
theorem dz_M_fits_103 : decode zm_M_fits.2.1 103 = .ok (.iinc 8 1, 3) := by decide +kernel
theorem dz_M_fits_106 : decode zm_M_fits.2.1 106 = .ok (.goto (-53), 3) := by decide +kernel
theorem dz_M_fits_109 : decode zm_M_fits.2.1 109 = .ok (.iload 7, 2) := by decide +kernel
theorem dz_M_fits_111 : decode zm_M_fits.2.1 111 = .ok (.ifCond .eq 33, 3) := by decide +kernel
theorem dz_M_fits_114 : decode zm_M_fits.2.1 114 = .ok (.iload_n 2, 1) := by decide +kernel
theorem dz_M_fits_115 : decode zm_M_fits.2.1 115 = .ok (.ifCond .ne 8, 3) := by decide +kernel
theorem dz_M_fits_118 : decode zm_M_fits.2.1 118 = .ok (.iload 6, 2) := by decide +kernel
theorem dz_M_fits_120 : decode zm_M_fits.2.1 120 = .ok (.goto 4, 3) := by decide +kernel
theorem dz_M_fits_123 : decode zm_M_fits.2.1 123 = .ok (.iload_n 3, 1) := by decide +kernel
theorem dz_M_fits_124 : decode zm_M_fits.2.1 124 = .ok (.istore_n 3, 1) := by decide +kernel
theorem dz_M_fits_125 : decode zm_M_fits.2.1 125 = .ok (.iload 4, 2) := by decide +kernel
theorem dz_M_fits_127 : decode zm_M_fits.2.1 127 = .ok (.iload 6, 2) := by decide +kernel
theorem dz_M_fits_129 : decode zm_M_fits.2.1 129 = .ok (.iand, 1) := by decide +kernel
theorem dz_M_fits_130 : decode zm_M_fits.2.1 130 = .ok (.istore 4, 2) := by decide +kernel
theorem dz_M_fits_132 : decode zm_M_fits.2.1 132 = .ok (.iload 5, 2) := by decide +kernel
theorem dz_M_fits_134 : decode zm_M_fits.2.1 134 = .ok (.iload 6, 2) := by decide +kernel
theorem dz_M_fits_136 : decode zm_M_fits.2.1 136 = .ok (.iconst (-1), 1) := by decide +kernel
theorem dz_M_fits_137 : decode zm_M_fits.2.1 137 = .ok (.ixor, 1) := by decide +kernel
theorem dz_M_fits_138 : decode zm_M_fits.2.1 138 = .ok (.iand, 1) := by decide +kernel
theorem dz_M_fits_139 : decode zm_M_fits.2.1 139 = .ok (.istore 5, 2) := by decide +kernel
theorem dz_M_fits_141 : decode zm_M_fits.2.1 141 = .ok (.iinc 2 1, 3) := by decide +kernel
theorem dz_M_fits_144 : decode zm_M_fits.2.1 144 = .ok (.iinc 6 1, 3) := by decide +kernel
theorem dz_M_fits_147 : decode zm_M_fits.2.1 147 = .ok (.goto (-109), 3) := by decide +kernel
theorem dz_M_fits_150 : decode zm_M_fits.2.1 150 = .ok (.iload_n 1, 1) := by decide +kernel
theorem dz_M_fits_151 : decode zm_M_fits.2.1 151 = .ok (.ifCond .ne 7, 3) := by decide +kernel
theorem dz_M_fits_154 : decode zm_M_fits.2.1 154 = .ok (.iload_n 2, 1) := by decide +kernel
theorem dz_M_fits_155 : decode zm_M_fits.2.1 155 = .ok (.goto 33, 3) := by decide +kernel
theorem dz_M_fits_158 : decode zm_M_fits.2.1 158 = .ok (.iload_n 2, 1) := by decide +kernel
theorem dz_M_fits_159 : decode zm_M_fits.2.1 159 = .ok (.ifCond .ne 8, 3) := by decide +kernel
theorem dz_M_fits_162 : decode zm_M_fits.2.1 162 = .ok (.bipush (-4), 2) := by decide +kernel
theorem dz_M_fits_164 : decode zm_M_fits.2.1 164 = .ok (.goto 24, 3) := by decide +kernel
theorem dz_M_fits_167 : decode zm_M_fits.2.1 167 = .ok (.iload_n 1, 1) := by decide +kernel
theorem dz_M_fits_168 : decode zm_M_fits.2.1 168 = .ok (.iconst 1, 1) := by decide +kernel
theorem dz_M_fits_169 : decode zm_M_fits.2.1 169 = .ok (.if_icmp .ne 7, 3) := by decide +kernel
theorem dz_M_fits_172 : decode zm_M_fits.2.1 172 = .ok (.iload_n 3, 1) := by decide +kernel
theorem dz_M_fits_173 : decode zm_M_fits.2.1 173 = .ok (.goto 15, 3) := by decide +kernel
theorem dz_M_fits_176 : decode zm_M_fits.2.1 176 = .ok (.iload_n 1, 1) := by decide +kernel
theorem dz_M_fits_177 : decode zm_M_fits.2.1 177 = .ok (.iconst 2, 1) := by decide +kernel
theorem dz_M_fits_178 : decode zm_M_fits.2.1 178 = .ok (.if_icmp .ne 8, 3) := by decide +kernel
theorem dz_M_fits_181 : decode zm_M_fits.2.1 181 = .ok (.iload 4, 2) := by decide +kernel
theorem dz_M_fits_183 : decode zm_M_fits.2.1 183 = .ok (.goto 5, 3) := by decide +kernel
theorem dz_M_fits_186 : decode zm_M_fits.2.1 186 = .ok (.iload 5, 2) := by decide +kernel
theorem dz_M_fits_188 : decode zm_M_fits.2.1 188 = .ok (.ireturn, 1) := by decide +kernel
theorem dz_M_drift_0 : decode zm_M_drift.2.1 0 = .ok (.iload_n 2, 1) := by decide +kernel
theorem dz_M_drift_1 : decode zm_M_drift.2.1 1 = .ok (.i2l, 1) := by decide +kernel
theorem dz_M_drift_2 : decode zm_M_drift.2.1 2 = .ok (.lconst 1, 1) := by decide +kernel
theorem dz_M_drift_3 : decode zm_M_drift.2.1 3 = .ok (.ldc2_w 289, 3) := by decide +kernel
theorem dz_M_drift_6 : decode zm_M_drift.2.1 6 = .ok (.invokestatic 65, 3) := by decide +kernel
theorem dz_M_drift_9 : decode zm_M_drift.2.1 9 = .ok (.ifCond .eq 13, 3) := by decide +kernel
theorem dz_M_drift_12 : decode zm_M_drift.2.1 12 = .ok (.iload_n 3, 1) := by decide +kernel
theorem dz_M_drift_13 : decode zm_M_drift.2.1 13 = .ok (.i2l, 1) := by decide +kernel
theorem dz_M_drift_14 : decode zm_M_drift.2.1 14 = .ok (.lconst 0, 1) := by decide +kernel
theorem dz_M_drift_15 : decode zm_M_drift.2.1 15 = .ok (.lconst 1, 1) := by decide +kernel
theorem dz_M_drift_16 : decode zm_M_drift.2.1 16 = .ok (.invokestatic 65, 3) := by decide +kernel
theorem dz_M_drift_19 : decode zm_M_drift.2.1 19 = .ok (.ifCond .ne 5, 3) := by decide +kernel
theorem dz_M_drift_22 : decode zm_M_drift.2.1 22 = .ok (.iconst (-1), 1) := by decide +kernel
theorem dz_M_drift_23 : decode zm_M_drift.2.1 23 = .ok (.ireturn, 1) := by decide +kernel
theorem dz_M_drift_24 : decode zm_M_drift.2.1 24 = .ok (.aload_n 0, 1) := by decide +kernel
theorem dz_M_drift_25 : decode zm_M_drift.2.1 25 = .ok (.getfield 158, 3) := by decide +kernel
theorem dz_M_drift_28 : decode zm_M_drift.2.1 28 = .ok (.ifCond .ne 6, 3) := by decide +kernel
theorem dz_M_drift_31 : decode zm_M_drift.2.1 31 = .ok (.bipush (-2), 2) := by decide +kernel
theorem dz_M_drift_33 : decode zm_M_drift.2.1 33 = .ok (.ireturn, 1) := by decide +kernel
theorem dz_M_drift_34 : decode zm_M_drift.2.1 34 = .ok (.aload_n 0, 1) := by decide +kernel
theorem dz_M_drift_35 : decode zm_M_drift.2.1 35 = .ok (.iconst 0, 1) := by decide +kernel
theorem dz_M_drift_36 : decode zm_M_drift.2.1 36 = .ok (.bipush 84, 2) := by decide +kernel
theorem dz_M_drift_38 : decode zm_M_drift.2.1 38 = .ok (.invokevirtual 246, 3) := by decide +kernel
theorem dz_M_drift_41 : decode zm_M_drift.2.1 41 = .ok (.iload_n 1, 1) := by decide +kernel
theorem dz_M_drift_42 : decode zm_M_drift.2.1 42 = .ok (.istore 4, 2) := by decide +kernel
theorem dz_M_drift_44 : decode zm_M_drift.2.1 44 = .ok (.iconst 0, 1) := by decide +kernel
theorem dz_M_drift_45 : decode zm_M_drift.2.1 45 = .ok (.istore 5, 2) := by decide +kernel
theorem dz_M_drift_47 : decode zm_M_drift.2.1 47 = .ok (.aload_n 0, 1) := by decide +kernel
theorem dz_M_drift_48 : decode zm_M_drift.2.1 48 = .ok (.iconst 0, 1) := by decide +kernel
theorem dz_M_drift_49 : decode zm_M_drift.2.1 49 = .ok (.aload_n 0, 1) := by decide +kernel
theorem dz_M_drift_50 : decode zm_M_drift.2.1 50 = .ok (.getfield 7, 3) := by decide +kernel
theorem dz_M_drift_53 : decode zm_M_drift.2.1 53 = .ok (.bipush 12, 2) := by decide +kernel
theorem dz_M_drift_55 : decode zm_M_drift.2.1 55 = .ok (.iaload, 1) := by decide +kernel
theorem dz_M_drift_56 : decode zm_M_drift.2.1 56 = .ok (.invokevirtual 220, 3) := by decide +kernel
theorem dz_M_drift_59 : decode zm_M_drift.2.1 59 = .ok (.istore 6, 2) := by decide +kernel
theorem dz_M_drift_61 : decode zm_M_drift.2.1 61 = .ok (.iconst 0, 1) := by decide +kernel
theorem dz_M_drift_62 : decode zm_M_drift.2.1 62 = .ok (.istore 7, 2) := by decide +kernel
theorem dz_M_drift_64 : decode zm_M_drift.2.1 64 = .ok (.iload 7, 2) := by decide +kernel
theorem dz_M_drift_66 : decode zm_M_drift.2.1 66 = .ok (.iload_n 2, 1) := by decide +kernel
theorem dz_M_drift_67 : decode zm_M_drift.2.1 67 = .ok (.if_icmp .ge 153, 3) := by decide +kernel
theorem dz_M_drift_70 : decode zm_M_drift.2.1 70 = .ok (.iload 4, 2) := by decide +kernel
theorem dz_M_drift_72 : decode zm_M_drift.2.1 72 = .ok (.ldc_w 291, 3) := by decide +kernel
theorem dz_M_drift_75 : decode zm_M_drift.2.1 75 = .ok (.imul, 1) := by decide +kernel
theorem dz_M_drift_76 : decode zm_M_drift.2.1 76 = .ok (.sipush 12345, 3) := by decide +kernel
theorem dz_M_drift_79 : decode zm_M_drift.2.1 79 = .ok (.iadd, 1) := by decide +kernel
theorem dz_M_drift_80 : decode zm_M_drift.2.1 80 = .ok (.istore 4, 2) := by decide +kernel
theorem dz_M_drift_82 : decode zm_M_drift.2.1 82 = .ok (.iload 4, 2) := by decide +kernel
theorem dz_M_drift_84 : decode zm_M_drift.2.1 84 = .ok (.bipush 16, 2) := by decide +kernel
theorem dz_M_drift_86 : decode zm_M_drift.2.1 86 = .ok (.ishr, 1) := by decide +kernel
theorem dz_M_drift_87 : decode zm_M_drift.2.1 87 = .ok (.sipush 32767, 3) := by decide +kernel
theorem dz_M_drift_90 : decode zm_M_drift.2.1 90 = .ok (.iand, 1) := by decide +kernel
theorem dz_M_drift_91 : decode zm_M_drift.2.1 91 = .ok (.aload_n 0, 1) := by decide +kernel
theorem dz_M_drift_92 : decode zm_M_drift.2.1 92 = .ok (.getfield 158, 3) := by decide +kernel
theorem dz_M_drift_95 : decode zm_M_drift.2.1 95 = .ok (.irem, 1) := by decide +kernel
theorem dz_M_drift_96 : decode zm_M_drift.2.1 96 = .ok (.istore 8, 2) := by decide +kernel
theorem dz_M_drift_98 : decode zm_M_drift.2.1 98 = .ok (.iload 4, 2) := by decide +kernel
theorem dz_M_drift_100 : decode zm_M_drift.2.1 100 = .ok (.ldc_w 291, 3) := by decide +kernel
theorem dz_M_drift_103 : decode zm_M_drift.2.1 103 = .ok (.imul, 1) := by decide +kernel
theorem dz_M_drift_104 : decode zm_M_drift.2.1 104 = .ok (.sipush 12345, 3) := by decide +kernel
theorem dz_M_drift_107 : decode zm_M_drift.2.1 107 = .ok (.iadd, 1) := by decide +kernel
theorem dz_M_drift_108 : decode zm_M_drift.2.1 108 = .ok (.istore 4, 2) := by decide +kernel
theorem dz_M_drift_110 : decode zm_M_drift.2.1 110 = .ok (.bipush 10, 2) := by decide +kernel
theorem dz_M_drift_112 : decode zm_M_drift.2.1 112 = .ok (.iload 8, 2) := by decide +kernel
theorem dz_M_drift_114 : decode zm_M_drift.2.1 114 = .ok (.imul, 1) := by decide +kernel
theorem dz_M_drift_115 : decode zm_M_drift.2.1 115 = .ok (.iload 4, 2) := by decide +kernel
theorem dz_M_drift_117 : decode zm_M_drift.2.1 117 = .ok (.bipush 16, 2) := by decide +kernel
theorem dz_M_drift_119 : decode zm_M_drift.2.1 119 = .ok (.ishr, 1) := by decide +kernel
theorem dz_M_drift_120 : decode zm_M_drift.2.1 120 = .ok (.sipush 32767, 3) := by decide +kernel
theorem dz_M_drift_123 : decode zm_M_drift.2.1 123 = .ok (.iand, 1) := by decide +kernel
theorem dz_M_drift_124 : decode zm_M_drift.2.1 124 = .ok (.bipush 7, 2) := by decide +kernel
theorem dz_M_drift_126 : decode zm_M_drift.2.1 126 = .ok (.irem, 1) := by decide +kernel
theorem dz_M_drift_127 : decode zm_M_drift.2.1 127 = .ok (.iadd, 1) := by decide +kernel
theorem dz_M_drift_128 : decode zm_M_drift.2.1 128 = .ok (.istore 9, 2) := by decide +kernel
theorem dz_M_drift_130 : decode zm_M_drift.2.1 130 = .ok (.aload_n 0, 1) := by decide +kernel
theorem dz_M_drift_131 : decode zm_M_drift.2.1 131 = .ok (.iload 9, 2) := by decide +kernel
theorem dz_M_drift_133 : decode zm_M_drift.2.1 133 = .ok (.invokevirtual 226, 3) := by decide +kernel
theorem dz_M_drift_136 : decode zm_M_drift.2.1 136 = .ok (.ifCond .eq 9, 3) := by decide +kernel
theorem dz_M_drift_139 : decode zm_M_drift.2.1 139 = .ok (.aload_n 0, 1) := by decide +kernel
theorem dz_M_drift_140 : decode zm_M_drift.2.1 140 = .ok (.iload 9, 2) := by decide +kernel
theorem dz_M_drift_142 : decode zm_M_drift.2.1 142 = .ok (.invokevirtual 229, 3) := by decide +kernel
theorem dz_M_drift_145 : decode zm_M_drift.2.1 145 = .ok (.aload_n 0, 1) := by decide +kernel
theorem dz_M_drift_146 : decode zm_M_drift.2.1 146 = .ok (.getfield 7, 3) := by decide +kernel
theorem dz_M_drift_149 : decode zm_M_drift.2.1 149 = .ok (.bipush 12, 2) := by decide +kernel
theorem dz_M_drift_151 : decode zm_M_drift.2.1 151 = .ok (.aload_n 0, 1) := by decide +kernel
theorem dz_M_drift_152 : decode zm_M_drift.2.1 152 = .ok (.getfield 7, 3) := by decide +kernel
theorem dz_M_drift_155 : decode zm_M_drift.2.1 155 = .ok (.bipush 12, 2) := by decide +kernel
theorem dz_M_drift_157 : decode zm_M_drift.2.1 157 = .ok (.iaload, 1) := by decide +kernel
theorem dz_M_drift_158 : decode zm_M_drift.2.1 158 = .ok (.aload_n 0, 1) := by decide +kernel
theorem dz_M_drift_159 : decode zm_M_drift.2.1 159 = .ok (.invokevirtual 254, 3) := by decide +kernel
theorem dz_M_drift_162 : decode zm_M_drift.2.1 162 = .ok (.iconst 1, 1) := by decide +kernel
theorem dz_M_drift_163 : decode zm_M_drift.2.1 163 = .ok (.isub, 1) := by decide +kernel
theorem dz_M_drift_164 : decode zm_M_drift.2.1 164 = .ok (.if_icmp .ne 7, 3) := by decide +kernel
theorem dz_M_drift_167 : decode zm_M_drift.2.1 167 = .ok (.iconst 0, 1) := by decide +kernel
theorem dz_M_drift_168 : decode zm_M_drift.2.1 168 = .ok (.goto 10, 3) := by decide +kernel
theorem dz_M_drift_171 : decode zm_M_drift.2.1 171 = .ok (.aload_n 0, 1) := by decide +kernel
theorem dz_M_drift_172 : decode zm_M_drift.2.1 172 = .ok (.getfield 7, 3) := by decide +kernel
theorem dz_M_drift_175 : decode zm_M_drift.2.1 175 = .ok (.bipush 12, 2) := by decide +kernel
theorem dz_M_drift_177 : decode zm_M_drift.2.1 177 = .ok (.iaload, 1) := by decide +kernel
theorem dz_M_drift_178 : decode zm_M_drift.2.1 178 = .ok (.iastore, 1) := by decide +kernel
theorem dz_M_drift_179 : decode zm_M_drift.2.1 179 = .ok (.aload_n 0, 1) := by decide +kernel
theorem dz_M_drift_180 : decode zm_M_drift.2.1 180 = .ok (.iconst 0, 1) := by decide +kernel
theorem dz_M_drift_181 : decode zm_M_drift.2.1 181 = .ok (.aload_n 0, 1) := by decide +kernel
theorem dz_M_drift_182 : decode zm_M_drift.2.1 182 = .ok (.getfield 7, 3) := by decide +kernel
theorem dz_M_drift_185 : decode zm_M_drift.2.1 185 = .ok (.bipush 12, 2) := by decide +kernel
theorem dz_M_drift_187 : decode zm_M_drift.2.1 187 = .ok (.iaload, 1) := by decide +kernel
theorem dz_M_drift_188 : decode zm_M_drift.2.1 188 = .ok (.invokevirtual 220, 3) := by decide +kernel
theorem dz_M_drift_191 : decode zm_M_drift.2.1 191 = .ok (.istore 10, 2) := by decide +kernel
theorem dz_M_drift_193 : decode zm_M_drift.2.1 193 = .ok (.iload 5, 2) := by decide +kernel
theorem dz_M_drift_195 : decode zm_M_drift.2.1 195 = .ok (.iload 10, 2) := by decide +kernel
theorem dz_M_drift_197 : decode zm_M_drift.2.1 197 = .ok (.iload 6, 2) := by decide +kernel
theorem dz_M_drift_199 : decode zm_M_drift.2.1 199 = .ok (.if_icmp .eq 7, 3) := by decide +kernel
theorem dz_M_drift_202 : decode zm_M_drift.2.1 202 = .ok (.iconst 1, 1) := by decide +kernel
theorem dz_M_drift_203 : decode zm_M_drift.2.1 203 = .ok (.goto 4, 3) := by decide +kernel
theorem dz_M_drift_206 : decode zm_M_drift.2.1 206 = .ok (.iconst 0, 1) := by decide +kernel
theorem dz_M_drift_207 : decode zm_M_drift.2.1 207 = .ok (.iadd, 1) := by decide +kernel
theorem dz_M_drift_208 : decode zm_M_drift.2.1 208 = .ok (.istore 5, 2) := by decide +kernel
theorem dz_M_drift_210 : decode zm_M_drift.2.1 210 = .ok (.iload 10, 2) := by decide +kernel
theorem dz_M_drift_212 : decode zm_M_drift.2.1 212 = .ok (.istore 6, 2) := by decide +kernel
theorem dz_M_drift_214 : decode zm_M_drift.2.1 214 = .ok (.iinc 7 1, 3) := by decide +kernel
theorem dz_M_drift_217 : decode zm_M_drift.2.1 217 = .ok (.goto (-153), 3) := by decide +kernel
theorem dz_M_drift_220 : decode zm_M_drift.2.1 220 = .ok (.aload_n 0, 1) := by decide +kernel
theorem dz_M_drift_221 : decode zm_M_drift.2.1 221 = .ok (.bipush 84, 2) := by decide +kernel
theorem dz_M_drift_223 : decode zm_M_drift.2.1 223 = .ok (.iconst 0, 1) := by decide +kernel
theorem dz_M_drift_224 : decode zm_M_drift.2.1 224 = .ok (.invokevirtual 246, 3) := by decide +kernel
theorem dz_M_drift_227 : decode zm_M_drift.2.1 227 = .ok (.iload_n 3, 1) := by decide +kernel
theorem dz_M_drift_228 : decode zm_M_drift.2.1 228 = .ok (.ifCond .ne 8, 3) := by decide +kernel
theorem dz_M_drift_231 : decode zm_M_drift.2.1 231 = .ok (.iload 5, 2) := by decide +kernel
theorem dz_M_drift_233 : decode zm_M_drift.2.1 233 = .ok (.goto 5, 3) := by decide +kernel
theorem dz_M_drift_236 : decode zm_M_drift.2.1 236 = .ok (.iload 6, 2) := by decide +kernel
theorem dz_M_drift_238 : decode zm_M_drift.2.1 238 = .ok (.ireturn, 1) := by decide +kernel
theorem dz_M_keep_0 : decode zm_M_keep.2.1 0 = .ok (.iload_n 1, 1) := by decide +kernel
theorem dz_M_keep_1 : decode zm_M_keep.2.1 1 = .ok (.i2l, 1) := by decide +kernel
theorem dz_M_keep_2 : decode zm_M_keep.2.1 2 = .ok (.lconst 0, 1) := by decide +kernel
theorem dz_M_keep_3 : decode zm_M_keep.2.1 3 = .ok (.lconst 1, 1) := by decide +kernel
theorem dz_M_keep_4 : decode zm_M_keep.2.1 4 = .ok (.invokestatic 65, 3) := by decide +kernel
theorem dz_M_keep_7 : decode zm_M_keep.2.1 7 = .ok (.ifCond .ne 5, 3) := by decide +kernel
theorem dz_M_keep_10 : decode zm_M_keep.2.1 10 = .ok (.iconst (-1), 1) := by decide +kernel
theorem dz_M_keep_11 : decode zm_M_keep.2.1 11 = .ok (.ireturn, 1) := by decide +kernel
theorem dz_M_keep_12 : decode zm_M_keep.2.1 12 = .ok (.aload_n 0, 1) := by decide +kernel
theorem dz_M_keep_13 : decode zm_M_keep.2.1 13 = .ok (.iconst 0, 1) := by decide +kernel
theorem dz_M_keep_14 : decode zm_M_keep.2.1 14 = .ok (.bipush 28, 2) := by decide +kernel
theorem dz_M_keep_16 : decode zm_M_keep.2.1 16 = .ok (.iload_n 1, 1) := by decide +kernel
theorem dz_M_keep_17 : decode zm_M_keep.2.1 17 = .ok (.iconst 1, 1) := by decide +kernel
theorem dz_M_keep_18 : decode zm_M_keep.2.1 18 = .ok (.iadd, 1) := by decide +kernel
theorem dz_M_keep_19 : decode zm_M_keep.2.1 19 = .ok (.imul, 1) := by decide +kernel
theorem dz_M_keep_20 : decode zm_M_keep.2.1 20 = .ok (.invokevirtual 246, 3) := by decide +kernel
theorem dz_M_keep_23 : decode zm_M_keep.2.1 23 = .ok (.aload_n 0, 1) := by decide +kernel
theorem dz_M_keep_24 : decode zm_M_keep.2.1 24 = .ok (.getfield 50, 3) := by decide +kernel
theorem dz_M_keep_27 : decode zm_M_keep.2.1 27 = .ok (.iload_n 1, 1) := by decide +kernel
theorem dz_M_keep_28 : decode zm_M_keep.2.1 28 = .ok (.baload, 1) := by decide +kernel
theorem dz_M_keep_29 : decode zm_M_keep.2.1 29 = .ok (.ifCond .eq 7, 3) := by decide +kernel
theorem dz_M_keep_32 : decode zm_M_keep.2.1 32 = .ok (.iconst 1, 1) := by decide +kernel
theorem dz_M_keep_33 : decode zm_M_keep.2.1 33 = .ok (.goto 4, 3) := by decide +kernel
theorem dz_M_keep_36 : decode zm_M_keep.2.1 36 = .ok (.iconst 0, 1) := by decide +kernel
theorem dz_M_keep_37 : decode zm_M_keep.2.1 37 = .ok (.istore_n 2, 1) := by decide +kernel
theorem dz_M_keep_38 : decode zm_M_keep.2.1 38 = .ok (.aload_n 0, 1) := by decide +kernel
theorem dz_M_keep_39 : decode zm_M_keep.2.1 39 = .ok (.getfield 50, 3) := by decide +kernel
theorem dz_M_keep_42 : decode zm_M_keep.2.1 42 = .ok (.iload_n 1, 1) := by decide +kernel
theorem dz_M_keep_43 : decode zm_M_keep.2.1 43 = .ok (.iconst 1, 1) := by decide +kernel
theorem dz_M_keep_44 : decode zm_M_keep.2.1 44 = .ok (.bastore, 1) := by decide +kernel
theorem dz_M_keep_45 : decode zm_M_keep.2.1 45 = .ok (.iload_n 2, 1) := by decide +kernel
theorem dz_M_keep_46 : decode zm_M_keep.2.1 46 = .ok (.ireturn, 1) := by decide +kernel
theorem dz_M_back_0 : decode zm_M_back.2.1 0 = .ok (.iload_n 1, 1) := by decide +kernel
theorem dz_M_back_1 : decode zm_M_back.2.1 1 = .ok (.i2l, 1) := by decide +kernel
theorem dz_M_back_2 : decode zm_M_back.2.1 2 = .ok (.lconst 0, 1) := by decide +kernel
theorem dz_M_back_3 : decode zm_M_back.2.1 3 = .ok (.lconst 1, 1) := by decide +kernel
theorem dz_M_back_4 : decode zm_M_back.2.1 4 = .ok (.invokestatic 65, 3) := by decide +kernel
theorem dz_M_back_7 : decode zm_M_back.2.1 7 = .ok (.ifCond .ne 5, 3) := by decide +kernel
theorem dz_M_back_10 : decode zm_M_back.2.1 10 = .ok (.iconst (-1), 1) := by decide +kernel
theorem dz_M_back_11 : decode zm_M_back.2.1 11 = .ok (.ireturn, 1) := by decide +kernel
theorem dz_M_back_12 : decode zm_M_back.2.1 12 = .ok (.aload_n 0, 1) := by decide +kernel
theorem dz_M_back_13 : decode zm_M_back.2.1 13 = .ok (.getfield 50, 3) := by decide +kernel
theorem dz_M_back_16 : decode zm_M_back.2.1 16 = .ok (.iload_n 1, 1) := by decide +kernel
theorem dz_M_back_17 : decode zm_M_back.2.1 17 = .ok (.baload, 1) := by decide +kernel
theorem dz_M_back_18 : decode zm_M_back.2.1 18 = .ok (.ifCond .ne 6, 3) := by decide +kernel
theorem dz_M_back_21 : decode zm_M_back.2.1 21 = .ok (.bipush (-2), 2) := by decide +kernel
theorem dz_M_back_23 : decode zm_M_back.2.1 23 = .ok (.ireturn, 1) := by decide +kernel
theorem dz_M_back_24 : decode zm_M_back.2.1 24 = .ok (.aload_n 0, 1) := by decide +kernel
theorem dz_M_back_25 : decode zm_M_back.2.1 25 = .ok (.bipush 28, 2) := by decide +kernel
theorem dz_M_back_27 : decode zm_M_back.2.1 27 = .ok (.iload_n 1, 1) := by decide +kernel
theorem dz_M_back_28 : decode zm_M_back.2.1 28 = .ok (.iconst 1, 1) := by decide +kernel
theorem dz_M_back_29 : decode zm_M_back.2.1 29 = .ok (.iadd, 1) := by decide +kernel
theorem dz_M_back_30 : decode zm_M_back.2.1 30 = .ok (.imul, 1) := by decide +kernel
theorem dz_M_back_31 : decode zm_M_back.2.1 31 = .ok (.iconst 0, 1) := by decide +kernel
theorem dz_M_back_32 : decode zm_M_back.2.1 32 = .ok (.invokevirtual 246, 3) := by decide +kernel
theorem dz_M_back_35 : decode zm_M_back.2.1 35 = .ok (.aload_n 0, 1) := by decide +kernel
theorem dz_M_back_36 : decode zm_M_back.2.1 36 = .ok (.getfield 7, 3) := by decide +kernel
theorem dz_M_back_39 : decode zm_M_back.2.1 39 = .ok (.bipush 12, 2) := by decide +kernel
theorem dz_M_back_41 : decode zm_M_back.2.1 41 = .ok (.iaload, 1) := by decide +kernel
theorem dz_M_back_42 : decode zm_M_back.2.1 42 = .ok (.ireturn, 1) := by decide +kernel
theorem dz_M_sheet_0 : decode zm_M_sheet.2.1 0 = .ok (.iload_n 1, 1) := by decide +kernel
theorem dz_M_sheet_1 : decode zm_M_sheet.2.1 1 = .ok (.i2l, 1) := by decide +kernel
theorem dz_M_sheet_2 : decode zm_M_sheet.2.1 2 = .ok (.lconst 0, 1) := by decide +kernel
theorem dz_M_sheet_3 : decode zm_M_sheet.2.1 3 = .ok (.ldc2_w 167, 3) := by decide +kernel
theorem dz_M_sheet_6 : decode zm_M_sheet.2.1 6 = .ok (.invokestatic 65, 3) := by decide +kernel
theorem dz_M_sheet_9 : decode zm_M_sheet.2.1 9 = .ok (.ifCond .eq 21, 3) := by decide +kernel
theorem dz_M_sheet_12 : decode zm_M_sheet.2.1 12 = .ok (.iload_n 2, 1) := by decide +kernel
theorem dz_M_sheet_13 : decode zm_M_sheet.2.1 13 = .ok (.i2l, 1) := by decide +kernel
theorem dz_M_sheet_14 : decode zm_M_sheet.2.1 14 = .ok (.lconst 0, 1) := by decide +kernel
theorem dz_M_sheet_15 : decode zm_M_sheet.2.1 15 = .ok (.ldc2_w 241, 3) := by decide +kernel
theorem dz_M_sheet_18 : decode zm_M_sheet.2.1 18 = .ok (.invokestatic 65, 3) := by decide +kernel
theorem dz_M_sheet_21 : decode zm_M_sheet.2.1 21 = .ok (.ifCond .eq 9, 3) := by decide +kernel
theorem dz_M_sheet_24 : decode zm_M_sheet.2.1 24 = .ok (.iload_n 3, 1) := by decide +kernel
theorem dz_M_sheet_25 : decode zm_M_sheet.2.1 25 = .ok (.bipush 40, 2) := by decide +kernel
theorem dz_M_sheet_27 : decode zm_M_sheet.2.1 27 = .ok (.if_icmp .le 5, 3) := by decide +kernel
theorem dz_M_sheet_30 : decode zm_M_sheet.2.1 30 = .ok (.iconst (-1), 1) := by decide +kernel
theorem dz_M_sheet_31 : decode zm_M_sheet.2.1 31 = .ok (.ireturn, 1) := by decide +kernel
theorem dz_M_sheet_32 : decode zm_M_sheet.2.1 32 = .ok (.iload_n 3, 1) := by decide +kernel
theorem dz_M_sheet_33 : decode zm_M_sheet.2.1 33 = .ok (.ifCond .ge 6, 3) := by decide +kernel
theorem dz_M_sheet_36 : decode zm_M_sheet.2.1 36 = .ok (.bipush (-14), 2) := by decide +kernel
theorem dz_M_sheet_38 : decode zm_M_sheet.2.1 38 = .ok (.ireturn, 1) := by decide +kernel
theorem dz_M_sheet_39 : decode zm_M_sheet.2.1 39 = .ok (.aload_n 0, 1) := by decide +kernel
theorem dz_M_sheet_40 : decode zm_M_sheet.2.1 40 = .ok (.getfield 54, 3) := by decide +kernel
theorem dz_M_sheet_43 : decode zm_M_sheet.2.1 43 = .ok (.iload_n 1, 1) := by decide +kernel
theorem dz_M_sheet_44 : decode zm_M_sheet.2.1 44 = .ok (.iload_n 2, 1) := by decide +kernel
theorem dz_M_sheet_45 : decode zm_M_sheet.2.1 45 = .ok (.iastore, 1) := by decide +kernel
theorem dz_M_sheet_46 : decode zm_M_sheet.2.1 46 = .ok (.aload_n 0, 1) := by decide +kernel
theorem dz_M_sheet_47 : decode zm_M_sheet.2.1 47 = .ok (.getfield 57, 3) := by decide +kernel
theorem dz_M_sheet_50 : decode zm_M_sheet.2.1 50 = .ok (.iload_n 1, 1) := by decide +kernel
theorem dz_M_sheet_51 : decode zm_M_sheet.2.1 51 = .ok (.iload_n 3, 1) := by decide +kernel
theorem dz_M_sheet_52 : decode zm_M_sheet.2.1 52 = .ok (.iastore, 1) := by decide +kernel
theorem dz_M_sheet_53 : decode zm_M_sheet.2.1 53 = .ok (.iconst 0, 1) := by decide +kernel
theorem dz_M_sheet_54 : decode zm_M_sheet.2.1 54 = .ok (.istore 4, 2) := by decide +kernel
theorem dz_M_sheet_56 : decode zm_M_sheet.2.1 56 = .ok (.iload 4, 2) := by decide +kernel
theorem dz_M_sheet_58 : decode zm_M_sheet.2.1 58 = .ok (.bipush 40, 2) := by decide +kernel
theorem dz_M_sheet_60 : decode zm_M_sheet.2.1 60 = .ok (.if_icmp .ge 22, 3) := by decide +kernel
theorem dz_M_sheet_63 : decode zm_M_sheet.2.1 63 = .ok (.aload_n 0, 1) := by decide +kernel
theorem dz_M_sheet_64 : decode zm_M_sheet.2.1 64 = .ok (.getfield 60, 3) := by decide +kernel
theorem dz_M_sheet_67 : decode zm_M_sheet.2.1 67 = .ok (.bipush 40, 2) := by decide +kernel
theorem dz_M_sheet_69 : decode zm_M_sheet.2.1 69 = .ok (.iload_n 1, 1) := by decide +kernel
theorem dz_M_sheet_70 : decode zm_M_sheet.2.1 70 = .ok (.imul, 1) := by decide +kernel
theorem dz_M_sheet_71 : decode zm_M_sheet.2.1 71 = .ok (.iload 4, 2) := by decide +kernel
theorem dz_M_sheet_73 : decode zm_M_sheet.2.1 73 = .ok (.iadd, 1) := by decide +kernel
theorem dz_M_sheet_74 : decode zm_M_sheet.2.1 74 = .ok (.iconst 0, 1) := by decide +kernel
theorem dz_M_sheet_75 : decode zm_M_sheet.2.1 75 = .ok (.iastore, 1) := by decide +kernel
theorem dz_M_sheet_76 : decode zm_M_sheet.2.1 76 = .ok (.iinc 4 1, 3) := by decide +kernel
theorem dz_M_sheet_79 : decode zm_M_sheet.2.1 79 = .ok (.goto (-23), 3) := by decide +kernel
theorem dz_M_sheet_82 : decode zm_M_sheet.2.1 82 = .ok (.iconst 1, 1) := by decide +kernel
theorem dz_M_sheet_83 : decode zm_M_sheet.2.1 83 = .ok (.ireturn, 1) := by decide +kernel
theorem dz_M_lay_0 : decode zm_M_lay.2.1 0 = .ok (.iload_n 1, 1) := by decide +kernel
theorem dz_M_lay_1 : decode zm_M_lay.2.1 1 = .ok (.i2l, 1) := by decide +kernel
theorem dz_M_lay_2 : decode zm_M_lay.2.1 2 = .ok (.lconst 0, 1) := by decide +kernel
theorem dz_M_lay_3 : decode zm_M_lay.2.1 3 = .ok (.ldc2_w 167, 3) := by decide +kernel
theorem dz_M_lay_6 : decode zm_M_lay.2.1 6 = .ok (.invokestatic 65, 3) := by decide +kernel
theorem dz_M_lay_9 : decode zm_M_lay.2.1 9 = .ok (.ifCond .ne 5, 3) := by decide +kernel
theorem dz_M_lay_12 : decode zm_M_lay.2.1 12 = .ok (.iconst (-1), 1) := by decide +kernel
theorem dz_M_lay_13 : decode zm_M_lay.2.1 13 = .ok (.ireturn, 1) := by decide +kernel
theorem dz_M_lay_14 : decode zm_M_lay.2.1 14 = .ok (.aload_n 0, 1) := by decide +kernel
theorem dz_M_lay_15 : decode zm_M_lay.2.1 15 = .ok (.getfield 54, 3) := by decide +kernel
theorem dz_M_lay_18 : decode zm_M_lay.2.1 18 = .ok (.iload_n 1, 1) := by decide +kernel
theorem dz_M_lay_19 : decode zm_M_lay.2.1 19 = .ok (.iaload, 1) := by decide +kernel
theorem dz_M_lay_20 : decode zm_M_lay.2.1 20 = .ok (.bipush (-4), 2) := by decide +kernel
theorem dz_M_lay_22 : decode zm_M_lay.2.1 22 = .ok (.if_icmp .ne 6, 3) := by decide +kernel
theorem dz_M_lay_25 : decode zm_M_lay.2.1 25 = .ok (.bipush (-11), 2) := by decide +kernel
theorem dz_M_lay_27 : decode zm_M_lay.2.1 27 = .ok (.ireturn, 1) := by decide +kernel
theorem dz_M_lay_28 : decode zm_M_lay.2.1 28 = .ok (.iload_n 2, 1) := by decide +kernel
theorem dz_M_lay_29 : decode zm_M_lay.2.1 29 = .ok (.i2l, 1) := by decide +kernel
theorem dz_M_lay_30 : decode zm_M_lay.2.1 30 = .ok (.lconst 0, 1) := by decide +kernel
theorem dz_M_lay_31 : decode zm_M_lay.2.1 31 = .ok (.aload_n 0, 1) := by decide +kernel
theorem dz_M_lay_32 : decode zm_M_lay.2.1 32 = .ok (.getfield 57, 3) := by decide +kernel
theorem dz_M_lay_35 : decode zm_M_lay.2.1 35 = .ok (.iload_n 1, 1) := by decide +kernel
theorem dz_M_lay_36 : decode zm_M_lay.2.1 36 = .ok (.iaload, 1) := by decide +kernel
theorem dz_M_lay_37 : decode zm_M_lay.2.1 37 = .ok (.iconst 1, 1) := by decide +kernel
theorem dz_M_lay_38 : decode zm_M_lay.2.1 38 = .ok (.isub, 1) := by decide +kernel
theorem dz_M_lay_39 : decode zm_M_lay.2.1 39 = .ok (.i2l, 1) := by decide +kernel
theorem dz_M_lay_40 : decode zm_M_lay.2.1 40 = .ok (.invokestatic 65, 3) := by decide +kernel
theorem dz_M_lay_43 : decode zm_M_lay.2.1 43 = .ok (.ifCond .ne 6, 3) := by decide +kernel
theorem dz_M_lay_46 : decode zm_M_lay.2.1 46 = .ok (.bipush (-12), 2) := by decide +kernel
theorem dz_M_lay_48 : decode zm_M_lay.2.1 48 = .ok (.ireturn, 1) := by decide +kernel
theorem dz_M_lay_49 : decode zm_M_lay.2.1 49 = .ok (.aload_n 0, 1) := by decide +kernel
theorem dz_M_lay_50 : decode zm_M_lay.2.1 50 = .ok (.getfield 60, 3) := by decide +kernel
theorem dz_M_lay_53 : decode zm_M_lay.2.1 53 = .ok (.bipush 40, 2) := by decide +kernel
theorem dz_M_lay_55 : decode zm_M_lay.2.1 55 = .ok (.iload_n 1, 1) := by decide +kernel
theorem dz_M_lay_56 : decode zm_M_lay.2.1 56 = .ok (.imul, 1) := by decide +kernel
theorem dz_M_lay_57 : decode zm_M_lay.2.1 57 = .ok (.iload_n 2, 1) := by decide +kernel
theorem dz_M_lay_58 : decode zm_M_lay.2.1 58 = .ok (.iadd, 1) := by decide +kernel
theorem dz_M_lay_59 : decode zm_M_lay.2.1 59 = .ok (.aload_n 0, 1) := by decide +kernel
theorem dz_M_lay_60 : decode zm_M_lay.2.1 60 = .ok (.getfield 54, 3) := by decide +kernel
theorem dz_M_lay_63 : decode zm_M_lay.2.1 63 = .ok (.iload_n 1, 1) := by decide +kernel
theorem dz_M_lay_64 : decode zm_M_lay.2.1 64 = .ok (.iaload, 1) := by decide +kernel
theorem dz_M_lay_65 : decode zm_M_lay.2.1 65 = .ok (.ifCond .ne 13, 3) := by decide +kernel
theorem dz_M_lay_68 : decode zm_M_lay.2.1 68 = .ok (.iload_n 3, 1) := by decide +kernel
theorem dz_M_lay_69 : decode zm_M_lay.2.1 69 = .ok (.bipush 24, 2) := by decide +kernel
theorem dz_M_lay_71 : decode zm_M_lay.2.1 71 = .ok (.ishl, 1) := by decide +kernel
theorem dz_M_lay_72 : decode zm_M_lay.2.1 72 = .ok (.bipush 24, 2) := by decide +kernel
theorem dz_M_lay_74 : decode zm_M_lay.2.1 74 = .ok (.ishr, 1) := by decide +kernel
theorem dz_M_lay_75 : decode zm_M_lay.2.1 75 = .ok (.goto 24, 3) := by decide +kernel
theorem dz_M_lay_78 : decode zm_M_lay.2.1 78 = .ok (.aload_n 0, 1) := by decide +kernel
theorem dz_M_lay_79 : decode zm_M_lay.2.1 79 = .ok (.getfield 54, 3) := by decide +kernel
theorem dz_M_lay_82 : decode zm_M_lay.2.1 82 = .ok (.iload_n 1, 1) := by decide +kernel
theorem dz_M_lay_83 : decode zm_M_lay.2.1 83 = .ok (.iaload, 1) := by decide +kernel
theorem dz_M_lay_84 : decode zm_M_lay.2.1 84 = .ok (.iconst 1, 1) := by decide +kernel
theorem dz_M_lay_85 : decode zm_M_lay.2.1 85 = .ok (.if_icmp .ne 13, 3) := by decide +kernel
theorem dz_M_lay_88 : decode zm_M_lay.2.1 88 = .ok (.iload_n 3, 1) := by decide +kernel
theorem dz_M_lay_89 : decode zm_M_lay.2.1 89 = .ok (.bipush 16, 2) := by decide +kernel
theorem dz_M_lay_91 : decode zm_M_lay.2.1 91 = .ok (.ishl, 1) := by decide +kernel
theorem dz_M_lay_92 : decode zm_M_lay.2.1 92 = .ok (.bipush 16, 2) := by decide +kernel
theorem dz_M_lay_94 : decode zm_M_lay.2.1 94 = .ok (.ishr, 1) := by decide +kernel
theorem dz_M_lay_95 : decode zm_M_lay.2.1 95 = .ok (.goto 4, 3) := by decide +kernel
theorem dz_M_lay_98 : decode zm_M_lay.2.1 98 = .ok (.iload_n 3, 1) := by decide +kernel
theorem dz_M_lay_99 : decode zm_M_lay.2.1 99 = .ok (.iastore, 1) := by decide +kernel
theorem dz_M_lay_100 : decode zm_M_lay.2.1 100 = .ok (.iconst 1, 1) := by decide +kernel
theorem dz_M_lay_101 : decode zm_M_lay.2.1 101 = .ok (.ireturn, 1) := by decide +kernel
theorem dz_M_read_0 : decode zm_M_read.2.1 0 = .ok (.iload_n 1, 1) := by decide +kernel
theorem dz_M_read_1 : decode zm_M_read.2.1 1 = .ok (.i2l, 1) := by decide +kernel
theorem dz_M_read_2 : decode zm_M_read.2.1 2 = .ok (.lconst 0, 1) := by decide +kernel
theorem dz_M_read_3 : decode zm_M_read.2.1 3 = .ok (.ldc2_w 167, 3) := by decide +kernel
theorem dz_M_read_6 : decode zm_M_read.2.1 6 = .ok (.invokestatic 65, 3) := by decide +kernel
theorem dz_M_read_9 : decode zm_M_read.2.1 9 = .ok (.ifCond .eq 28, 3) := by decide +kernel
theorem dz_M_read_12 : decode zm_M_read.2.1 12 = .ok (.iload_n 2, 1) := by decide +kernel
theorem dz_M_read_13 : decode zm_M_read.2.1 13 = .ok (.i2l, 1) := by decide +kernel
theorem dz_M_read_14 : decode zm_M_read.2.1 14 = .ok (.lconst 0, 1) := by decide +kernel
theorem dz_M_read_15 : decode zm_M_read.2.1 15 = .ok (.ldc2_w 241, 3) := by decide +kernel
theorem dz_M_read_18 : decode zm_M_read.2.1 18 = .ok (.invokestatic 65, 3) := by decide +kernel
theorem dz_M_read_21 : decode zm_M_read.2.1 21 = .ok (.ifCond .eq 16, 3) := by decide +kernel
theorem dz_M_read_24 : decode zm_M_read.2.1 24 = .ok (.iload 4, 2) := by decide +kernel
theorem dz_M_read_26 : decode zm_M_read.2.1 26 = .ok (.i2l, 1) := by decide +kernel
theorem dz_M_read_27 : decode zm_M_read.2.1 27 = .ok (.lconst 0, 1) := by decide +kernel
theorem dz_M_read_28 : decode zm_M_read.2.1 28 = .ok (.ldc2_w 292, 3) := by decide +kernel
theorem dz_M_read_31 : decode zm_M_read.2.1 31 = .ok (.invokestatic 65, 3) := by decide +kernel
theorem dz_M_read_34 : decode zm_M_read.2.1 34 = .ok (.ifCond .ne 5, 3) := by decide +kernel
theorem dz_M_read_37 : decode zm_M_read.2.1 37 = .ok (.iconst (-1), 1) := by decide +kernel
theorem dz_M_read_38 : decode zm_M_read.2.1 38 = .ok (.ireturn, 1) := by decide +kernel
theorem dz_M_read_39 : decode zm_M_read.2.1 39 = .ok (.aload_n 0, 1) := by decide +kernel
theorem dz_M_read_40 : decode zm_M_read.2.1 40 = .ok (.iconst 0, 1) := by decide +kernel
theorem dz_M_read_41 : decode zm_M_read.2.1 41 = .ok (.bipush 84, 2) := by decide +kernel
theorem dz_M_read_43 : decode zm_M_read.2.1 43 = .ok (.invokevirtual 246, 3) := by decide +kernel
theorem dz_M_read_46 : decode zm_M_read.2.1 46 = .ok (.iconst 0, 1) := by decide +kernel
theorem dz_M_read_47 : decode zm_M_read.2.1 47 = .ok (.istore 5, 2) := by decide +kernel
theorem dz_M_read_49 : decode zm_M_read.2.1 49 = .ok (.iconst 0, 1) := by decide +kernel
theorem dz_M_read_50 : decode zm_M_read.2.1 50 = .ok (.istore 6, 2) := by decide +kernel
theorem dz_M_read_52 : decode zm_M_read.2.1 52 = .ok (.iload 6, 2) := by decide +kernel
theorem dz_M_read_54 : decode zm_M_read.2.1 54 = .ok (.iload 4, 2) := by decide +kernel
theorem dz_M_read_56 : decode zm_M_read.2.1 56 = .ok (.if_icmp .ge 111, 3) := by decide +kernel
theorem dz_M_read_59 : decode zm_M_read.2.1 59 = .ok (.iload 5, 2) := by decide +kernel
theorem dz_M_read_61 : decode zm_M_read.2.1 61 = .ok (.ifCond .ne 106, 3) := by decide +kernel
theorem dz_M_read_64 : decode zm_M_read.2.1 64 = .ok (.aload_n 0, 1) := by decide +kernel
theorem dz_M_read_65 : decode zm_M_read.2.1 65 = .ok (.getfield 54, 3) := by decide +kernel
theorem dz_M_read_68 : decode zm_M_read.2.1 68 = .ok (.iload_n 1, 1) := by decide +kernel
theorem dz_M_read_69 : decode zm_M_read.2.1 69 = .ok (.iaload, 1) := by decide +kernel
theorem dz_M_read_70 : decode zm_M_read.2.1 70 = .ok (.bipush (-4), 2) := by decide +kernel
theorem dz_M_read_72 : decode zm_M_read.2.1 72 = .ok (.if_icmp .ne 7, 3) := by decide +kernel
theorem dz_M_read_75 : decode zm_M_read.2.1 75 = .ok (.iconst 1, 1) := by decide +kernel
theorem dz_M_read_76 : decode zm_M_read.2.1 76 = .ok (.goto 44, 3) := by decide +kernel
theorem dz_M_read_79 : decode zm_M_read.2.1 79 = .ok (.aload_n 0, 1) := by decide +kernel
theorem dz_M_read_80 : decode zm_M_read.2.1 80 = .ok (.getfield 54, 3) := by decide +kernel
theorem dz_M_read_83 : decode zm_M_read.2.1 83 = .ok (.iload_n 1, 1) := by decide +kernel
theorem dz_M_read_84 : decode zm_M_read.2.1 84 = .ok (.iaload, 1) := by decide +kernel
theorem dz_M_read_85 : decode zm_M_read.2.1 85 = .ok (.iload_n 2, 1) := by decide +kernel
theorem dz_M_read_86 : decode zm_M_read.2.1 86 = .ok (.if_icmp .eq 7, 3) := by decide +kernel
theorem dz_M_read_89 : decode zm_M_read.2.1 89 = .ok (.iconst 3, 1) := by decide +kernel
theorem dz_M_read_90 : decode zm_M_read.2.1 90 = .ok (.goto 30, 3) := by decide +kernel
theorem dz_M_read_93 : decode zm_M_read.2.1 93 = .ok (.iload_n 3, 1) := by decide +kernel
theorem dz_M_read_94 : decode zm_M_read.2.1 94 = .ok (.i2l, 1) := by decide +kernel
theorem dz_M_read_95 : decode zm_M_read.2.1 95 = .ok (.iload 6, 2) := by decide +kernel
theorem dz_M_read_97 : decode zm_M_read.2.1 97 = .ok (.i2l, 1) := by decide +kernel
theorem dz_M_read_98 : decode zm_M_read.2.1 98 = .ok (.ladd, 1) := by decide +kernel
theorem dz_M_read_99 : decode zm_M_read.2.1 99 = .ok (.lconst 0, 1) := by decide +kernel
theorem dz_M_read_100 : decode zm_M_read.2.1 100 = .ok (.aload_n 0, 1) := by decide +kernel
theorem dz_M_read_101 : decode zm_M_read.2.1 101 = .ok (.getfield 57, 3) := by decide +kernel
theorem dz_M_read_104 : decode zm_M_read.2.1 104 = .ok (.iload_n 1, 1) := by decide +kernel
theorem dz_M_read_105 : decode zm_M_read.2.1 105 = .ok (.iaload, 1) := by decide +kernel
theorem dz_M_read_106 : decode zm_M_read.2.1 106 = .ok (.iconst 1, 1) := by decide +kernel
theorem dz_M_read_107 : decode zm_M_read.2.1 107 = .ok (.isub, 1) := by decide +kernel
theorem dz_M_read_108 : decode zm_M_read.2.1 108 = .ok (.i2l, 1) := by decide +kernel
theorem dz_M_read_109 : decode zm_M_read.2.1 109 = .ok (.invokestatic 65, 3) := by decide +kernel
theorem dz_M_read_112 : decode zm_M_read.2.1 112 = .ok (.ifCond .ne 7, 3) := by decide +kernel
theorem dz_M_read_115 : decode zm_M_read.2.1 115 = .ok (.iconst 2, 1) := by decide +kernel
theorem dz_M_read_116 : decode zm_M_read.2.1 116 = .ok (.goto 4, 3) := by decide +kernel
theorem dz_M_read_119 : decode zm_M_read.2.1 119 = .ok (.iconst 0, 1) := by decide +kernel
theorem dz_M_read_120 : decode zm_M_read.2.1 120 = .ok (.istore 5, 2) := by decide +kernel
theorem dz_M_read_122 : decode zm_M_read.2.1 122 = .ok (.iload 5, 2) := by decide +kernel
theorem dz_M_read_124 : decode zm_M_read.2.1 124 = .ok (.ifCond .ne (-72), 3) := by decide +kernel
theorem dz_M_read_127 : decode zm_M_read.2.1 127 = .ok (.aload_n 0, 1) := by decide +kernel
theorem dz_M_read_128 : decode zm_M_read.2.1 128 = .ok (.aload_n 0, 1) := by decide +kernel
theorem dz_M_read_129 : decode zm_M_read.2.1 129 = .ok (.getfield 60, 3) := by decide +kernel
theorem dz_M_read_132 : decode zm_M_read.2.1 132 = .ok (.bipush 40, 2) := by decide +kernel
theorem dz_M_read_134 : decode zm_M_read.2.1 134 = .ok (.iload_n 1, 1) := by decide +kernel
theorem dz_M_read_135 : decode zm_M_read.2.1 135 = .ok (.imul, 1) := by decide +kernel
theorem dz_M_read_136 : decode zm_M_read.2.1 136 = .ok (.iload_n 3, 1) := by decide +kernel
theorem dz_M_read_137 : decode zm_M_read.2.1 137 = .ok (.iadd, 1) := by decide +kernel
theorem dz_M_read_138 : decode zm_M_read.2.1 138 = .ok (.iload 6, 2) := by decide +kernel
theorem dz_M_read_140 : decode zm_M_read.2.1 140 = .ok (.iadd, 1) := by decide +kernel
theorem dz_M_read_141 : decode zm_M_read.2.1 141 = .ok (.iaload, 1) := by decide +kernel
theorem dz_M_read_142 : decode zm_M_read.2.1 142 = .ok (.invokevirtual 232, 3) := by decide +kernel
theorem dz_M_read_145 : decode zm_M_read.2.1 145 = .ok (.ifCond .ge 16, 3) := by decide +kernel
theorem dz_M_read_148 : decode zm_M_read.2.1 148 = .ok (.aload_n 0, 1) := by decide +kernel
theorem dz_M_read_149 : decode zm_M_read.2.1 149 = .ok (.bipush 84, 2) := by decide +kernel
theorem dz_M_read_151 : decode zm_M_read.2.1 151 = .ok (.iconst 0, 1) := by decide +kernel
theorem dz_M_read_152 : decode zm_M_read.2.1 152 = .ok (.invokevirtual 246, 3) := by decide +kernel
theorem dz_M_read_155 : decode zm_M_read.2.1 155 = .ok (.bipush (-20), 2) := by decide +kernel
theorem dz_M_read_157 : decode zm_M_read.2.1 157 = .ok (.iload 6, 2) := by decide +kernel
theorem dz_M_read_159 : decode zm_M_read.2.1 159 = .ok (.isub, 1) := by decide +kernel
theorem dz_M_read_160 : decode zm_M_read.2.1 160 = .ok (.ireturn, 1) := by decide +kernel
theorem dz_M_read_161 : decode zm_M_read.2.1 161 = .ok (.iinc 6 1, 3) := by decide +kernel
theorem dz_M_read_164 : decode zm_M_read.2.1 164 = .ok (.goto (-112), 3) := by decide +kernel
theorem dz_M_read_167 : decode zm_M_read.2.1 167 = .ok (.aload_n 0, 1) := by decide +kernel
theorem dz_M_read_168 : decode zm_M_read.2.1 168 = .ok (.iload 5, 2) := by decide +kernel
theorem dz_M_read_170 : decode zm_M_read.2.1 170 = .ok (.putfield 294, 3) := by decide +kernel
theorem dz_M_read_173 : decode zm_M_read.2.1 173 = .ok (.iload 6, 2) := by decide +kernel
theorem dz_M_read_175 : decode zm_M_read.2.1 175 = .ok (.ireturn, 1) := by decide +kernel
theorem dz_M_torn_0 : decode zm_M_torn.2.1 0 = .ok (.aload_n 0, 1) := by decide +kernel
theorem dz_M_torn_1 : decode zm_M_torn.2.1 1 = .ok (.getfield 294, 3) := by decide +kernel
theorem dz_M_torn_4 : decode zm_M_torn.2.1 4 = .ok (.ireturn, 1) := by decide +kernel
theorem dz_M_count_0 : decode zm_M_count.2.1 0 = .ok (.iconst 0, 1) := by decide +kernel
theorem dz_M_count_1 : decode zm_M_count.2.1 1 = .ok (.istore_n 2, 1) := by decide +kernel
theorem dz_M_count_2 : decode zm_M_count.2.1 2 = .ok (.iconst 0, 1) := by decide +kernel
theorem dz_M_count_3 : decode zm_M_count.2.1 3 = .ok (.istore_n 3, 1) := by decide +kernel
theorem dz_M_count_4 : decode zm_M_count.2.1 4 = .ok (.iconst 0, 1) := by decide +kernel
theorem dz_M_count_5 : decode zm_M_count.2.1 5 = .ok (.istore 4, 2) := by decide +kernel
theorem dz_M_count_7 : decode zm_M_count.2.1 7 = .ok (.iconst 0, 1) := by decide +kernel
theorem dz_M_count_8 : decode zm_M_count.2.1 8 = .ok (.istore 5, 2) := by decide +kernel
theorem dz_M_count_10 : decode zm_M_count.2.1 10 = .ok (.iload 5, 2) := by decide +kernel
theorem dz_M_count_12 : decode zm_M_count.2.1 12 = .ok (.iconst 4, 1) := by decide +kernel
theorem dz_M_count_13 : decode zm_M_count.2.1 13 = .ok (.if_icmp .ge 35, 3) := by decide +kernel
theorem dz_M_count_16 : decode zm_M_count.2.1 16 = .ok (.iload_n 2, 1) := by decide +kernel
theorem dz_M_count_17 : decode zm_M_count.2.1 17 = .ok (.aload_n 0, 1) := by decide +kernel
theorem dz_M_count_18 : decode zm_M_count.2.1 18 = .ok (.iload 5, 2) := by decide +kernel
theorem dz_M_count_20 : decode zm_M_count.2.1 20 = .ok (.aload_n 0, 1) := by decide +kernel
theorem dz_M_count_21 : decode zm_M_count.2.1 21 = .ok (.getfield 7, 3) := by decide +kernel
theorem dz_M_count_24 : decode zm_M_count.2.1 24 = .ok (.bipush 12, 2) := by decide +kernel
theorem dz_M_count_26 : decode zm_M_count.2.1 26 = .ok (.iaload, 1) := by decide +kernel
theorem dz_M_count_27 : decode zm_M_count.2.1 27 = .ok (.invokevirtual 220, 3) := by decide +kernel
theorem dz_M_count_30 : decode zm_M_count.2.1 30 = .ok (.bipush (-4), 2) := by decide +kernel
theorem dz_M_count_32 : decode zm_M_count.2.1 32 = .ok (.if_icmp .ne 7, 3) := by decide +kernel
theorem dz_M_count_35 : decode zm_M_count.2.1 35 = .ok (.iconst 0, 1) := by decide +kernel
theorem dz_M_count_36 : decode zm_M_count.2.1 36 = .ok (.goto 4, 3) := by decide +kernel
theorem dz_M_count_39 : decode zm_M_count.2.1 39 = .ok (.iconst 1, 1) := by decide +kernel
theorem dz_M_count_40 : decode zm_M_count.2.1 40 = .ok (.iadd, 1) := by decide +kernel
theorem dz_M_count_41 : decode zm_M_count.2.1 41 = .ok (.istore_n 2, 1) := by decide +kernel
theorem dz_M_count_42 : decode zm_M_count.2.1 42 = .ok (.iinc 5 1, 3) := by decide +kernel
theorem dz_M_count_45 : decode zm_M_count.2.1 45 = .ok (.goto (-35), 3) := by decide +kernel
theorem dz_M_count_48 : decode zm_M_count.2.1 48 = .ok (.iconst 0, 1) := by decide +kernel
theorem dz_M_count_49 : decode zm_M_count.2.1 49 = .ok (.istore 5, 2) := by decide +kernel
theorem dz_M_count_51 : decode zm_M_count.2.1 51 = .ok (.iload 5, 2) := by decide +kernel
theorem dz_M_count_53 : decode zm_M_count.2.1 53 = .ok (.aload_n 0, 1) := by decide +kernel
theorem dz_M_count_54 : decode zm_M_count.2.1 54 = .ok (.getfield 158, 3) := by decide +kernel
theorem dz_M_count_57 : decode zm_M_count.2.1 57 = .ok (.if_icmp .ge 37, 3) := by decide +kernel
theorem dz_M_count_60 : decode zm_M_count.2.1 60 = .ok (.iload_n 3, 1) := by decide +kernel
theorem dz_M_count_61 : decode zm_M_count.2.1 61 = .ok (.aload_n 0, 1) := by decide +kernel
theorem dz_M_count_62 : decode zm_M_count.2.1 62 = .ok (.getfield 7, 3) := by decide +kernel
theorem dz_M_count_65 : decode zm_M_count.2.1 65 = .ok (.iload 5, 2) := by decide +kernel
theorem dz_M_count_67 : decode zm_M_count.2.1 67 = .ok (.iaload, 1) := by decide +kernel
theorem dz_M_count_68 : decode zm_M_count.2.1 68 = .ok (.invokestatic 257, 3) := by decide +kernel
theorem dz_M_count_71 : decode zm_M_count.2.1 71 = .ok (.iadd, 1) := by decide +kernel
theorem dz_M_count_72 : decode zm_M_count.2.1 72 = .ok (.istore_n 3, 1) := by decide +kernel
theorem dz_M_count_73 : decode zm_M_count.2.1 73 = .ok (.iload 4, 2) := by decide +kernel
theorem dz_M_count_75 : decode zm_M_count.2.1 75 = .ok (.aload_n 0, 1) := by decide +kernel
theorem dz_M_count_76 : decode zm_M_count.2.1 76 = .ok (.getfield 7, 3) := by decide +kernel
theorem dz_M_count_79 : decode zm_M_count.2.1 79 = .ok (.bipush 6, 2) := by decide +kernel
theorem dz_M_count_81 : decode zm_M_count.2.1 81 = .ok (.iload 5, 2) := by decide +kernel
theorem dz_M_count_83 : decode zm_M_count.2.1 83 = .ok (.iadd, 1) := by decide +kernel
theorem dz_M_count_84 : decode zm_M_count.2.1 84 = .ok (.iaload, 1) := by decide +kernel
theorem dz_M_count_85 : decode zm_M_count.2.1 85 = .ok (.iadd, 1) := by decide +kernel
theorem dz_M_count_86 : decode zm_M_count.2.1 86 = .ok (.istore 4, 2) := by decide +kernel
theorem dz_M_count_88 : decode zm_M_count.2.1 88 = .ok (.iinc 5 1, 3) := by decide +kernel
theorem dz_M_count_91 : decode zm_M_count.2.1 91 = .ok (.goto (-40), 3) := by decide +kernel
theorem dz_M_count_94 : decode zm_M_count.2.1 94 = .ok (.iload_n 1, 1) := by decide +kernel
theorem dz_M_count_95 : decode zm_M_count.2.1 95 = .ok (.tableswitch 111 0 6 #[41, 46, 76, 81, 104, 106, 108], 41) := by decide +kernel
theorem dz_M_count_136 : decode zm_M_count.2.1 136 = .ok (.aload_n 0, 1) := by decide +kernel
theorem dz_M_count_137 : decode zm_M_count.2.1 137 = .ok (.getfield 164, 3) := by decide +kernel
theorem dz_M_count_140 : decode zm_M_count.2.1 140 = .ok (.ireturn, 1) := by decide +kernel
theorem dz_M_count_141 : decode zm_M_count.2.1 141 = .ok (.aload_n 0, 1) := by decide +kernel
theorem dz_M_count_142 : decode zm_M_count.2.1 142 = .ok (.getfield 50, 3) := by decide +kernel
theorem dz_M_count_145 : decode zm_M_count.2.1 145 = .ok (.iconst 0, 1) := by decide +kernel
theorem dz_M_count_146 : decode zm_M_count.2.1 146 = .ok (.baload, 1) := by decide +kernel
theorem dz_M_count_147 : decode zm_M_count.2.1 147 = .ok (.ifCond .eq 7, 3) := by decide +kernel
theorem dz_M_count_150 : decode zm_M_count.2.1 150 = .ok (.iconst 1, 1) := by decide +kernel
theorem dz_M_count_151 : decode zm_M_count.2.1 151 = .ok (.goto 4, 3) := by decide +kernel
theorem dz_M_count_154 : decode zm_M_count.2.1 154 = .ok (.iconst 0, 1) := by decide +kernel
theorem dz_M_count_155 : decode zm_M_count.2.1 155 = .ok (.aload_n 0, 1) := by decide +kernel
theorem dz_M_count_156 : decode zm_M_count.2.1 156 = .ok (.getfield 50, 3) := by decide +kernel
theorem dz_M_count_159 : decode zm_M_count.2.1 159 = .ok (.iconst 1, 1) := by decide +kernel
theorem dz_M_count_160 : decode zm_M_count.2.1 160 = .ok (.baload, 1) := by decide +kernel
theorem dz_M_count_161 : decode zm_M_count.2.1 161 = .ok (.ifCond .eq 7, 3) := by decide +kernel
theorem dz_M_count_164 : decode zm_M_count.2.1 164 = .ok (.iconst 1, 1) := by decide +kernel
theorem dz_M_count_165 : decode zm_M_count.2.1 165 = .ok (.goto 4, 3) := by decide +kernel
theorem dz_M_count_168 : decode zm_M_count.2.1 168 = .ok (.iconst 0, 1) := by decide +kernel
theorem dz_M_count_169 : decode zm_M_count.2.1 169 = .ok (.iadd, 1) := by decide +kernel
theorem dz_M_count_170 : decode zm_M_count.2.1 170 = .ok (.ireturn, 1) := by decide +kernel
theorem dz_M_count_171 : decode zm_M_count.2.1 171 = .ok (.aload_n 0, 1) := by decide +kernel
theorem dz_M_count_172 : decode zm_M_count.2.1 172 = .ok (.getfield 69, 3) := by decide +kernel
theorem dz_M_count_175 : decode zm_M_count.2.1 175 = .ok (.ireturn, 1) := by decide +kernel
theorem dz_M_count_176 : decode zm_M_count.2.1 176 = .ok (.aload_n 0, 1) := by decide +kernel
theorem dz_M_count_177 : decode zm_M_count.2.1 177 = .ok (.getfield 54, 3) := by decide +kernel
theorem dz_M_count_180 : decode zm_M_count.2.1 180 = .ok (.iconst 0, 1) := by decide +kernel
theorem dz_M_count_181 : decode zm_M_count.2.1 181 = .ok (.iaload, 1) := by decide +kernel
theorem dz_M_count_182 : decode zm_M_count.2.1 182 = .ok (.bipush (-4), 2) := by decide +kernel
theorem dz_M_count_184 : decode zm_M_count.2.1 184 = .ok (.if_icmp .ne 8, 3) := by decide +kernel
theorem dz_M_count_187 : decode zm_M_count.2.1 187 = .ok (.bipush (-4), 2) := by decide +kernel
theorem dz_M_count_189 : decode zm_M_count.2.1 189 = .ok (.goto 9, 3) := by decide +kernel
theorem dz_M_count_192 : decode zm_M_count.2.1 192 = .ok (.aload_n 0, 1) := by decide +kernel
theorem dz_M_count_193 : decode zm_M_count.2.1 193 = .ok (.getfield 57, 3) := by decide +kernel
theorem dz_M_count_196 : decode zm_M_count.2.1 196 = .ok (.iconst 0, 1) := by decide +kernel
theorem dz_M_count_197 : decode zm_M_count.2.1 197 = .ok (.iaload, 1) := by decide +kernel
theorem dz_M_count_198 : decode zm_M_count.2.1 198 = .ok (.ireturn, 1) := by decide +kernel
theorem dz_M_count_199 : decode zm_M_count.2.1 199 = .ok (.iload_n 2, 1) := by decide +kernel
theorem dz_M_count_200 : decode zm_M_count.2.1 200 = .ok (.ireturn, 1) := by decide +kernel
theorem dz_M_count_201 : decode zm_M_count.2.1 201 = .ok (.iload_n 3, 1) := by decide +kernel
theorem dz_M_count_202 : decode zm_M_count.2.1 202 = .ok (.ireturn, 1) := by decide +kernel
theorem dz_M_count_203 : decode zm_M_count.2.1 203 = .ok (.iload 4, 2) := by decide +kernel
theorem dz_M_count_205 : decode zm_M_count.2.1 205 = .ok (.ireturn, 1) := by decide +kernel
theorem dz_M_count_206 : decode zm_M_count.2.1 206 = .ok (.iconst (-1), 1) := by decide +kernel
theorem dz_M_count_207 : decode zm_M_count.2.1 207 = .ok (.ireturn, 1) := by decide +kernel
end
section
/-! rules in the form that the written walks use -/
def zb_v (b : Bool) : Int32 := if b then 1 else 0
theorem zb_nar (b : Bool) : narrow .boolean (.int (zb_v b)) = .int (zb_v b) := by cases b <;> rfl
theorem zb_t : zb_v true = 1 := rfl
theorem zb_f : zb_v false = 0 := rfl
section RW
variable {ν : zq_E} {M : zq_M} {h : Nat} {Q : Option zq_V → zq_T → Prop} {pc : Nat} {ls : List (Option zq_V)} {st : List zq_V} {σ : zq_T}
theorem gw_istore (i : Nat) {x : Int32} (hd : decode M.2.1 pc = .ok (.istore i, 2)) (hi : i + 1 ≤ M.2.2.1) (hnl : zq_nl ls i = true) (k : zq_G ν M h Q (pc + 2) (ls.set i (some (zq_I x))) st σ) : zq_G ν M h Q pc ls (zq_I x :: st) σ := gq_istore hd hi hnl k
theorem gw_istore_n (i : Nat) {n : Fin 4} {x : Int32} (hd : decode M.2.1 pc = .ok (.istore_n n, 1)) (hn : (n : Nat) = i) (hi : i + 1 ≤ M.2.2.1) (hnl : zq_nl ls i = true) (k : zq_G ν M h Q (pc + 1) (ls.set i (some (zq_I x))) st σ) : zq_G ν M h Q pc ls (zq_I x :: st) σ := by
  subst hn
  exact gq_istore_n hd hi hnl k
theorem gw_astore (i : Nat) {t : Nat} {j : Fin 5} (hd : decode M.2.1 pc = .ok (.astore i, 2)) (hi : i + 1 ≤ M.2.2.1) (hnl : zq_nl ls i = true) (k : zq_G ν M h Q (pc + 2) (ls.set i (some (zq_O t j))) st σ) : zq_G ν M h Q pc ls (zq_O t j :: st) σ := gq_astore hd hi hnl k
theorem gw_astore_n (i : Nat) {n : Fin 4} {t : Nat} {j : Fin 5} (hd : decode M.2.1 pc = .ok (.astore_n n, 1)) (hn : (n : Nat) = i) (hi : i + 1 ≤ M.2.2.1) (hnl : zq_nl ls i = true) (k : zq_G ν M h Q (pc + 1) (ls.set i (some (zq_O t j))) st σ) : zq_G ν M h Q pc ls (zq_O t j :: st) σ := by
  subst hn
  exact gq_astore_n hd hi hnl k
theorem gw_lstore (i : Nat) {x : Int64} (hd : decode M.2.1 pc = .ok (.lstore i, 2)) (hi : i + 1 + 1 ≤ M.2.2.1) (hnl : zq_nl ls i = true) (k : zq_G ν M h Q (pc + 2) ((ls.set i (some (zq_L x))).set (i + 1) none) st σ) : zq_G ν M h Q pc ls (zq_L x :: st) σ := gq_lstore hd hi hnl k
theorem gw_lstore_n (i : Nat) {n : Fin 4} {x : Int64} (hd : decode M.2.1 pc = .ok (.lstore_n n, 1)) (hn : (n : Nat) = i) (hi : i + 1 + 1 ≤ M.2.2.1) (hnl : zq_nl ls i = true) (k : zq_G ν M h Q (pc + 1) ((ls.set i (some (zq_L x))).set (i + 1) none) st σ) : zq_G ν M h Q pc ls (zq_L x :: st) σ := by
  subst hn
  exact gq_lstore_n hd hi hnl k
theorem gw_iinc (i : Nat) {n : Int} {x c : Int32} (hd : decode M.2.1 pc = .ok (.iinc i n, 3)) (hl : ls[i]? = some (some (zq_I x))) (hc : Int32.ofInt n = c) (hi : i + 1 ≤ M.2.2.1) (hnl : zq_nl ls i = true) (k : zq_G ν M h Q (pc + 3) (ls.set i (some (zq_I (x + c)))) st σ) : zq_G ν M h Q pc ls st σ := gq_iinc hd hl (by rw [hc]) hi hnl k
theorem gw_ifb_eq {b : Bool} {off : Int} {tgt : Nat} (hd : decode M.2.1 pc = .ok (.ifCond .eq off, 3)) (ht : (pc : Int) + off = (tgt : Int)) (kt : b = false → zq_G ν M h Q tgt ls st σ) (kf : b = true → zq_G ν M h Q (pc + 3) ls st σ) : zq_G ν M h Q pc ls (zq_I (zb_v b) :: st) σ :=
  gq_if_eq hd ht (fun q => kt (by cases b; rfl; exact absurd q (by decide))) (fun q => kf (by cases b; exact absurd rfl q; rfl))
theorem gw_ifb_ne {b : Bool} {off : Int} {tgt : Nat} (hd : decode M.2.1 pc = .ok (.ifCond .ne off, 3)) (ht : (pc : Int) + off = (tgt : Int)) (kt : b = true → zq_G ν M h Q tgt ls st σ) (kf : b = false → zq_G ν M h Q (pc + 3) ls st σ) : zq_G ν M h Q pc ls (zq_I (zb_v b) :: st) σ :=
  gq_if_ne hd ht (fun q => kt (by cases b; exact absurd rfl q; rfl)) (fun q => kf (by cases b; rfl; exact absurd q (by decide)))
theorem gw_iret (ty : FieldType) {x v : Int32} {τ : zq_T} (hd : decode M.2.1 pc = .ok (.ireturn, 1)) (hr : M.2.2.2 = some ty) (hn : narrow ty (.int x) = .int x) (hx : x = v) (hs : σ = τ) : zq_G ν M h (zq_rv (zq_I v) τ) pc ls [zq_I x] σ := gq_ireturn (st := []) ty hd hr hn ⟨by rw [hx], hs⟩
theorem gw_lret {x v : Int64} {τ : zq_T} (hd : decode M.2.1 pc = .ok (.lreturn, 1)) (hr : M.2.2.2 = some .long) (hx : x = v) (hs : σ = τ) : zq_G ν M h (zq_rv (zq_L v) τ) pc ls [zq_L x] σ := gq_lreturn (st := []) hd hr ⟨by rw [hx], hs⟩
theorem gw_aret {C : String} {t : Nat} {j : Fin 5} {v : zq_V} {τ : zq_T} (hd : decode M.2.1 pc = .ok (.areturn, 1)) (hr : M.2.2.2 = some (.object C)) (hx : zq_O t j = v) (hs : σ = τ) : zq_G ν M h (zq_rv v τ) pc ls [zq_O t j] σ := gq_areturn (st := []) hd hr ⟨by rw [hx], hs⟩
theorem gw_vret {τ : zq_T} (hd : decode M.2.1 pc = .ok (.return_, 1)) (hr : M.2.2.2 = none) (hs : σ = τ) : zq_G ν M h (zq_r0 τ) pc ls [] σ := gq_return (st := []) hd hr ⟨rfl, hs⟩
end RW
/-- a switched number that is none of the cases -/
theorem zq_ne {x k : Int32} (h : ¬ x = k) : x.toInt ≠ k.toInt := fun q => h (Int32.toInt_inj.mp q)
/-! THE ABSTRACT DUCHY: how many people, rules, who are gone, and by number: parent (-4: none), facts, tries; odds of facts; rank, thing, claim, number, pick of rules -/
abbrev za_D : Type := Nat × Nat × Int32 × (Nat → Int32) × (Nat → Int32) × (Nat → Int32) × (Nat → Int32) × (Nat → Int32) × (Nat → Int32) × (Nat → Int32) × (Nat → Int32) × (Nat → Int32)
abbrev za_n (A : za_D) : Nat := A.1
abbrev za_m (A : za_D) : Nat := A.2.1
abbrev za_g (A : za_D) : Int32 := A.2.2.1
abbrev za_pa (A : za_D) : Nat → Int32 := A.2.2.2.1
abbrev za_fa (A : za_D) : Nat → Int32 := A.2.2.2.2.1
abbrev za_tr (A : za_D) : Nat → Int32 := A.2.2.2.2.2.1
abbrev za_od (A : za_D) : Nat → Int32 := A.2.2.2.2.2.2.1
abbrev za_rk (A : za_D) : Nat → Int32 := A.2.2.2.2.2.2.2.1
abbrev za_th (A : za_D) : Nat → Int32 := A.2.2.2.2.2.2.2.2.1
abbrev za_cl (A : za_D) : Nat → Int32 := A.2.2.2.2.2.2.2.2.2.1
abbrev za_nu (A : za_D) : Nat → Int32 := A.2.2.2.2.2.2.2.2.2.2.1
abbrev za_pi (A : za_D) : Nat → Int32 := A.2.2.2.2.2.2.2.2.2.2.2
def zb_bit (a p : Int32) : Bool := decide (¬ (a >>> (p &&& 31)) &&& 1 = 0)
theorem zb_bit_t {a p : Int32} (h : ¬ (a >>> (p &&& 31)) &&& 1 = 0) : zb_bit a p = true := decide_eq_true h
theorem zb_bit_f {a p : Int32} (h : (a >>> (p &&& 31)) &&& 1 = 0) : zb_bit a p = false := decide_eq_false (fun q => q h)
/-- whether v is a parent of p, or of his parent, and so on: p's line, p + 1 steps at most -/
def za_up (pa : Nat → Int32) : Nat → Nat → Nat → Bool
  | 0, _, _ => false
  | s + 1, p, v => if pa p < 0 then false else (pa p == nI v) || za_up pa s (pa p).toNatClampNeg v
def za_kin (A : za_D) (p v : Nat) : Bool := za_up (za_pa A) 6 p v
def zc_rep (σ : zq_T) (d : Fin 5) (A : za_D) : Prop := za_n A ≤ 6 ∧ za_m A ≤ 5 ∧ σ.1 10 d 0 = nI (za_n A) ∧ σ.1 10 d 1 = za_g A ∧ σ.1 10 d 2 = nI (za_m A) ∧ (∀ i, i < za_n A → σ.1 11 d i = za_pa A i ∧ (∀ v, v < 6 → zb_bit (σ.1 12 d i) (nI v) = za_kin A i v) ∧ σ.1 13 d i = za_fa A i ∧ σ.1 14 d i = za_tr A i) ∧ (∀ f, f < 5 → σ.1 15 d f = za_od A f) ∧ (∀ k, k < za_m A → σ.1 16 d k = za_rk A k ∧ σ.1 17 d k = za_th A k ∧ σ.1 18 d k = za_cl A k ∧ σ.1 19 d k = za_nu A k ∧ σ.1 20 d k = za_pi A k)
section REP
variable {σ : zq_T} {d : Fin 5} {A : za_D}
theorem zc_n6 (h : zc_rep σ d A) : za_n A ≤ 6 := h.1
theorem zc_m5 (h : zc_rep σ d A) : za_m A ≤ 5 := h.2.1
theorem zc_n (h : zc_rep σ d A) : σ.1 10 d 0 = nI (za_n A) := h.2.2.1
theorem zc_g (h : zc_rep σ d A) : σ.1 10 d 1 = za_g A := h.2.2.2.1
theorem zc_m (h : zc_rep σ d A) : σ.1 10 d 2 = nI (za_m A) := h.2.2.2.2.1
theorem zc_pa (h : zc_rep σ d A) {i : Nat} (hi : i < za_n A) : σ.1 11 d i = za_pa A i := (h.2.2.2.2.2.1 i hi).1
theorem zc_an (h : zc_rep σ d A) {i v : Nat} (hi : i < za_n A) (hv : v < 6) : zb_bit (σ.1 12 d i) (nI v) = za_kin A i v := (h.2.2.2.2.2.1 i hi).2.1 v hv
theorem zc_fa (h : zc_rep σ d A) {i : Nat} (hi : i < za_n A) : σ.1 13 d i = za_fa A i := (h.2.2.2.2.2.1 i hi).2.2.1
theorem zc_tr (h : zc_rep σ d A) {i : Nat} (hi : i < za_n A) : σ.1 14 d i = za_tr A i := (h.2.2.2.2.2.1 i hi).2.2.2
theorem zc_od (h : zc_rep σ d A) {f : Nat} (hf : f < 5) : σ.1 15 d f = za_od A f := h.2.2.2.2.2.2.1 f hf
theorem zc_rk (h : zc_rep σ d A) {k : Nat} (hk : k < za_m A) : σ.1 16 d k = za_rk A k := (h.2.2.2.2.2.2.2 k hk).1
theorem zc_th (h : zc_rep σ d A) {k : Nat} (hk : k < za_m A) : σ.1 17 d k = za_th A k := (h.2.2.2.2.2.2.2 k hk).2.1
theorem zc_cl (h : zc_rep σ d A) {k : Nat} (hk : k < za_m A) : σ.1 18 d k = za_cl A k := (h.2.2.2.2.2.2.2 k hk).2.2.1
theorem zc_nu (h : zc_rep σ d A) {k : Nat} (hk : k < za_m A) : σ.1 19 d k = za_nu A k := (h.2.2.2.2.2.2.2 k hk).2.2.2.1
theorem zc_pi (h : zc_rep σ d A) {k : Nat} (hk : k < za_m A) : σ.1 20 d k = za_pi A k := (h.2.2.2.2.2.2.2 k hk).2.2.2.2
end REP
/-- a number that is a place below n -/
def zb_in (x : Int32) (n : Nat) : Bool := decide (0 ≤ x ∧ x < nI n)
theorem zb_in_iff {x : Int32} {n : Nat} (hn : n < 2 ^ 31) : zb_in x n = true ↔ ∃ i : Nat, i < n ∧ x = nI i := by
  constructor
  · intro h
    have h1 := of_decide_eq_true h
    obtain ⟨j, hj, rfl⟩ := nI_of (x := x) (by have := h1.1; rw [Int32.le_iff_toInt_le] at this; rw [Int32.lt_iff_toInt_lt]; omega)
    exact ⟨j, (nI_ltI hj hn).mp h1.2, rfl⟩
  · rintro ⟨i, hi, rfl⟩
    exact decide_eq_true ⟨nI_pos' (by omega), nI_lt hi hn⟩
theorem zb_in_nI {i n : Nat} (h : i < n) (hn : n < 2 ^ 31) : zb_in (nI i) n = true := (zb_in_iff hn).mpr ⟨i, h, rfl⟩
theorem zb_in_lt {x : Int32} {n : Nat} (h : x < 0) : zb_in x n = false := decide_eq_false (fun q => by have := q.1; rw [Int32.le_iff_toInt_le] at this; rw [Int32.lt_iff_toInt_lt] at h; omega)
theorem zb_in_ge {x : Int32} {n : Nat} (h : nI n ≤ x) : zb_in x n = false := decide_eq_false (fun q => by have := q.2; rw [Int32.lt_iff_toInt_lt] at this; rw [Int32.le_iff_toInt_le] at h; omega)
theorem zb_in_of {x : Int32} {n : Nat} (h : ¬ x < 0) (h2 : ¬ nI n ≤ x) : zb_in x n = true := decide_eq_true (by rw [Int32.lt_iff_toInt_lt] at h; rw [Int32.le_iff_toInt_le] at h2; rw [Int32.le_iff_toInt_le, Int32.lt_iff_toInt_lt]; have : (0 : Int32).toInt = 0 := rfl; omega)
/-- how many below n -/
def zf_ct (P : Nat → Bool) : Nat → Nat
  | 0 => 0
  | n + 1 => zf_ct P n + (if P n then 1 else 0)
/-- bits of those below n -/
def zf_or (P : Nat → Bool) : Nat → Int32
  | 0 => 0
  | n + 1 => if P n then zf_or P n ||| (1 <<< (nI n &&& 31)) else zf_or P n
theorem zf_ct_t {P : Nat → Bool} {n : Nat} (h : P n = true) : zf_ct P (n + 1) = zf_ct P n + 1 := by simp [zf_ct, h]
theorem zf_ct_f {P : Nat → Bool} {n : Nat} (h : P n = false) : zf_ct P (n + 1) = zf_ct P n := by simp [zf_ct, h]
theorem zf_or_t {P : Nat → Bool} {n : Nat} (h : P n = true) : zf_or P (n + 1) = zf_or P n ||| (1 <<< (nI n &&& 31)) := by simp [zf_or, h]
theorem zf_or_f {P : Nat → Bool} {n : Nat} (h : P n = false) : zf_or P (n + 1) = zf_or P n := by simp [zf_or, h]
/-- what the abstract duchy answers -/
def zs_born (A : za_D) (p : Nat) (ab : Int32) : Nat → Bool := fun q => (za_pa A q == za_pa A p) && !zb_bit ab (nI q)
def zs_place (A : za_D) (p : Nat) (ab : Int32) : Nat := if zb_bit ab (nI p) then 0 else zf_ct (zs_born A p ab) (p + 1)
def zs_chd (A : za_D) (p : Nat) (ab : Int32) : Nat → Bool := fun q => (za_pa A q == nI p) && !zb_bit ab (nI q)
def zs_child (A : za_D) (p : Nat) (ab : Int32) : Nat := zf_ct (zs_chd A p ab) (za_n A)
section RX
variable {ν : zq_E} {M : zq_M} {h : Nat} {Q : Option zq_V → zq_T → Prop} {pc : Nat} {ls : List (Option zq_V)} {st : List zq_V} {σ : zq_T}
theorem zq_cl31 {i n : Nat} (hi : i < n) (hn : n ≤ 1000) : (nI i).toNatClampNeg = i := nI_clamp (by omega)
theorem gw_iald (i : Nat) {x : Int32} (hx : x = nI i) {t n : Nat} {j : Fin 5} (hkd : zq_kd t = (1, n, 0)) (hv : zq_vd t j = true) (hn : n ≤ 1000) (hi : i < n) (hd : decode M.2.1 pc = .ok (.iaload, 1)) (kk : zq_G ν M h Q (pc + 1) ls (zq_I (σ.1 t j i) :: st) σ) : zq_G ν M h Q pc ls (zq_I x :: zq_O t j :: st) σ := by
  subst hx
  exact gq_iald hkd hv (vp_in_nI hi (by omega)) hd (by rw [zq_cl31 hi hn]; exact kk)
theorem gw_bald (i : Nat) {x : Int32} (hx : x = nI i) {t n : Nat} {j : Fin 5} (hkd : zq_kd t = (2, n, 0)) (hv : zq_vd t j = true) (hn : n ≤ 1000) (hi : i < n) (hd : decode M.2.1 pc = .ok (.baload, 1)) (kk : zq_G ν M h Q (pc + 1) ls (zq_I (σ.1 t j i) :: st) σ) : zq_G ν M h Q pc ls (zq_I x :: zq_O t j :: st) σ := by
  subst hx
  exact gq_bald hkd hv (vp_in_nI hi (by omega)) hd (by rw [zq_cl31 hi hn]; exact kk)
theorem gw_zald (i : Nat) {x : Int32} (hx : x = nI i) {t n : Nat} {j : Fin 5} (hkd : zq_kd t = (4, n, 0)) (hv : zq_vd t j = true) (hn : n ≤ 1000) (hi : i < n) (hd : decode M.2.1 pc = .ok (.baload, 1)) (kk : zq_G ν M h Q (pc + 1) ls (zq_I (σ.1 t j i) :: st) σ) : zq_G ν M h Q pc ls (zq_I x :: zq_O t j :: st) σ := by
  subst hx
  exact gq_zald hkd hv (vp_in_nI hi (by omega)) hd (by rw [zq_cl31 hi hn]; exact kk)
theorem gw_lald (i : Nat) {x : Int32} (hx : x = nI i) {t n : Nat} {j : Fin 5} (hkd : zq_kd t = (3, n, 0)) (hv : zq_vd t j = true) (hn : n ≤ 1000) (hi : i < n) (hd : decode M.2.1 pc = .ok (.laload, 1)) (kk : zq_G ν M h Q (pc + 1) ls (zq_L (σ.2.1 i) :: st) σ) : zq_G ν M h Q pc ls (zq_I x :: zq_O t j :: st) σ := by
  subst hx
  exact gq_lald hkd hv (vp_in_nI hi (by omega)) hd (by rw [zq_cl31 hi hn]; exact kk)
theorem gw_iast (i : Nat) {x y : Int32} (hx : x = nI i) {t n : Nat} {j : Fin 5} (hkd : zq_kd t = (1, n, 0)) (hv : zq_vd t j = true) (hn : n ≤ 1000) (hi : i < n) (hd : decode M.2.1 pc = .ok (.iastore, 1)) (kk : zq_G ν M h Q (pc + 1) ls st (zq_up σ.1 t j i y, σ.2)) : zq_G ν M h Q pc ls (zq_I y :: zq_I x :: zq_O t j :: st) σ := by
  subst hx
  exact gq_iast hkd hv (vp_in_nI hi (by omega)) hd (by rw [zq_cl31 hi hn]; exact kk)
theorem gw_bast (i : Nat) {x y : Int32} (hx : x = nI i) {t n : Nat} {j : Fin 5} (hkd : zq_kd t = (2, n, 0)) (hv : zq_vd t j = true) (hn : n ≤ 1000) (hi : i < n) (hd : decode M.2.1 pc = .ok (.bastore, 1)) (kk : zq_G ν M h Q (pc + 1) ls st (zq_up σ.1 t j i y.toInt8.toInt32, σ.2)) : zq_G ν M h Q pc ls (zq_I y :: zq_I x :: zq_O t j :: st) σ := by
  subst hx
  exact gq_bast hkd hv (vp_in_nI hi (by omega)) hd (by rw [zq_cl31 hi hn]; exact kk)
theorem gw_zast (i : Nat) {x y : Int32} (hx : x = nI i) {t n : Nat} {j : Fin 5} (hkd : zq_kd t = (4, n, 0)) (hv : zq_vd t j = true) (hn : n ≤ 1000) (hi : i < n) (hd : decode M.2.1 pc = .ok (.bastore, 1)) (kk : zq_G ν M h Q (pc + 1) ls st (zq_up σ.1 t j i (vp_nar .boolean y), σ.2)) : zq_G ν M h Q pc ls (zq_I y :: zq_I x :: zq_O t j :: st) σ := by
  subst hx
  exact gq_zast hkd hv (vp_in_nI hi (by omega)) hd (by rw [zq_cl31 hi hn]; exact kk)
theorem gw_last (i : Nat) {x : Int32} {y : Int64} (hx : x = nI i) (hi : i < 128) (hd : decode M.2.1 pc = .ok (.lastore, 1)) (kk : zq_G ν M h Q (pc + 1) ls st (σ.1, vp_updL σ.2.1 i y, σ.2.2)) : zq_G ν M h Q pc ls (zq_L y :: zq_I x :: zq_O 42 0 :: st) σ := by
  subst hx
  exact gq_last (n := 128) (vp_in_nI hi (by omega)) hd (by rw [zq_cl31 hi (by omega)]; exact kk)
end RX
end
section
theorem zq_le6 {x : Int32} {n : Nat} (h : 6 ≤ x) (hn : n ≤ 6) : nI n ≤ x := by
  have h1 : nI n ≤ nI 6 := nI_le hn (by omega)
  rw [Int32.le_iff_toInt_le] at *
  have : (6 : Int32).toInt = (nI 6).toInt := rfl
  omega
theorem zq_le5 {x : Int32} {n : Nat} (h : 5 ≤ x) (hn : n ≤ 5) : nI n ≤ x := by
  have h1 : nI n ≤ nI 5 := nI_le hn (by omega)
  rw [Int32.le_iff_toInt_le] at *
  have : (5 : Int32).toInt = (nI 5).toInt := rfl
  omega

set_option maxHeartbeats 4000000 in
theorem sp_S_isFact {σ : zq_T} (f : Int32) : zq_Sp zm_S_isFact 0 [zq_I f] σ (zq_rv (zq_I (zb_v (zb_in f 5))) σ) := by
  refine zq_sp [some (zq_I f)] (by decide +kernel) rfl (Nat.le_of_ble_eq_true rfl) (fun ν => ?_)
  refine gq_iload_n dz_S_isFact_0 rfl ?_
  refine gq_if_lt (tgt := 13) dz_S_isFact_1 rfl (fun h1 => ?_) (fun h1 => ?_)
  · skip
    refine gq_iconst (v := 0) dz_S_isFact_13 rfl ?_
    refine gw_iret .boolean dz_S_isFact_14 rfl (by first | rfl | exact zb_nar _) ?_ ?_
    · rw [zb_in_lt h1]; rfl
    · rfl
  · skip
    refine gq_iload_n dz_S_isFact_4 rfl ?_
    refine gq_iconst (v := 5) dz_S_isFact_5 rfl ?_
    refine gq_icmp_ge (tgt := 13) dz_S_isFact_6 rfl (fun h6 => ?_) (fun h6 => ?_)
    · skip
      refine gq_iconst (v := 0) dz_S_isFact_13 rfl ?_
      refine gw_iret .boolean dz_S_isFact_14 rfl (by first | rfl | exact zb_nar _) ?_ ?_
      · rw [zb_in_ge (n := 5) h6]; rfl
      · rfl
    · skip
      refine gq_iconst (v := 1) dz_S_isFact_9 rfl ?_
      refine gq_goto (tgt := 14) dz_S_isFact_10 rfl ?_
      refine gw_iret .boolean dz_S_isFact_14 rfl (by first | rfl | exact zb_nar _) ?_ ?_
      · rw [zb_in_of (n := 5) h1 h6]; rfl
      · rfl
set_option maxHeartbeats 4000000 in
theorem sp_S_isThing {σ : zq_T} (f : Int32) : zq_Sp zm_S_isThing 0 [zq_I f] σ (zq_rv (zq_I (zb_v (zb_in f 4))) σ) := by
  refine zq_sp [some (zq_I f)] (by decide +kernel) rfl (Nat.le_of_ble_eq_true rfl) (fun ν => ?_)
  refine gq_iload_n dz_S_isThing_0 rfl ?_
  refine gq_if_lt (tgt := 13) dz_S_isThing_1 rfl (fun h1 => ?_) (fun h1 => ?_)
  · skip
    refine gq_iconst (v := 0) dz_S_isThing_13 rfl ?_
    refine gw_iret .boolean dz_S_isThing_14 rfl (by first | rfl | exact zb_nar _) ?_ ?_
    · rw [zb_in_lt h1]; rfl
    · rfl
  · skip
    refine gq_iload_n dz_S_isThing_4 rfl ?_
    refine gq_iconst (v := 4) dz_S_isThing_5 rfl ?_
    refine gq_icmp_ge (tgt := 13) dz_S_isThing_6 rfl (fun h6 => ?_) (fun h6 => ?_)
    · skip
      refine gq_iconst (v := 0) dz_S_isThing_13 rfl ?_
      refine gw_iret .boolean dz_S_isThing_14 rfl (by first | rfl | exact zb_nar _) ?_ ?_
      · rw [zb_in_ge (n := 4) h6]; rfl
      · rfl
    · skip
      refine gq_iconst (v := 1) dz_S_isThing_9 rfl ?_
      refine gq_goto (tgt := 14) dz_S_isThing_10 rfl ?_
      refine gw_iret .boolean dz_S_isThing_14 rfl (by first | rfl | exact zb_nar _) ?_ ?_
      · rw [zb_in_of (n := 4) h1 h6]; rfl
      · rfl
set_option maxHeartbeats 4000000 in
theorem sp_D_isOne {σ : zq_T} {d : Fin 5} {A : za_D} (hA : zc_rep σ d A) (p : Int32) : zq_Sp zm_D_isOne 0 [zq_O 10 d, zq_I p] σ (zq_rv (zq_I (zb_v (zb_in p (za_n A)))) σ) := by
  have hn6 := zc_n6 hA
  have hm5 := zc_m5 hA
  refine zq_sp [some (zq_O 10 d), some (zq_I p)] (by decide +kernel) rfl (Nat.le_of_ble_eq_true rfl) (fun ν => ?_)
  refine gq_iload_n dz_D_isOne_0 rfl ?_
  refine gq_if_lt (tgt := 22) dz_D_isOne_1 rfl (fun h1 => ?_) (fun h1 => ?_)
  · skip
    refine gq_iconst (v := 0) dz_D_isOne_22 rfl ?_
    refine gw_iret .boolean dz_D_isOne_23 rfl (by first | rfl | exact zb_nar _) ?_ ?_
    · rw [zb_in_lt h1]; rfl
    · rfl
  · skip
    refine gq_iload_n dz_D_isOne_4 rfl ?_
    refine gq_aload_n dz_D_isOne_5 rfl ?_
    refine gq_getI zf_D_45 rfl rfl dz_D_isOne_6 ?_
    rw [zc_n hA]
    refine gq_icmp_ge (tgt := 22) dz_D_isOne_9 rfl (fun h9 => ?_) (fun h9 => ?_)
    · skip
      refine gq_iconst (v := 0) dz_D_isOne_22 rfl ?_
      refine gw_iret .boolean dz_D_isOne_23 rfl (by first | rfl | exact zb_nar _) ?_ ?_
      · rw [zb_in_ge h9]; rfl
      · rfl
    · skip
      refine gq_iload_n dz_D_isOne_12 rfl ?_
      refine gq_bipush (v := 6) dz_D_isOne_13 rfl ?_
      refine gq_icmp_ge (tgt := 22) dz_D_isOne_15 rfl (fun h15 => ?_) (fun h15 => ?_)
      · skip
        refine gq_iconst (v := 0) dz_D_isOne_22 rfl ?_
        refine gw_iret .boolean dz_D_isOne_23 rfl (by first | rfl | exact zb_nar _) ?_ ?_
        · rw [zb_in_ge (zq_le6 h15 (by omega))]; rfl
        · rfl
      · skip
        refine gq_iconst (v := 1) dz_D_isOne_18 rfl ?_
        refine gq_goto (tgt := 23) dz_D_isOne_19 rfl ?_
        refine gw_iret .boolean dz_D_isOne_23 rfl (by first | rfl | exact zb_nar _) ?_ ?_
        · rw [zb_in_of h1 h9]; rfl
        · rfl
set_option maxHeartbeats 4000000 in
theorem sp_D_isRule {σ : zq_T} {d : Fin 5} {A : za_D} (hA : zc_rep σ d A) (p : Int32) : zq_Sp zm_D_isRule 0 [zq_O 10 d, zq_I p] σ (zq_rv (zq_I (zb_v (zb_in p (za_m A)))) σ) := by
  have hn6 := zc_n6 hA
  have hm5 := zc_m5 hA
  refine zq_sp [some (zq_O 10 d), some (zq_I p)] (by decide +kernel) rfl (Nat.le_of_ble_eq_true rfl) (fun ν => ?_)
  refine gq_iload_n dz_D_isRule_0 rfl ?_
  refine gq_if_lt (tgt := 21) dz_D_isRule_1 rfl (fun h1 => ?_) (fun h1 => ?_)
  · skip
    refine gq_iconst (v := 0) dz_D_isRule_21 rfl ?_
    refine gw_iret .boolean dz_D_isRule_22 rfl (by first | rfl | exact zb_nar _) ?_ ?_
    · rw [zb_in_lt h1]; rfl
    · rfl
  · skip
    refine gq_iload_n dz_D_isRule_4 rfl ?_
    refine gq_aload_n dz_D_isRule_5 rfl ?_
    refine gq_getI zf_D_52 rfl rfl dz_D_isRule_6 ?_
    rw [zc_m hA]
    refine gq_icmp_ge (tgt := 21) dz_D_isRule_9 rfl (fun h9 => ?_) (fun h9 => ?_)
    · skip
      refine gq_iconst (v := 0) dz_D_isRule_21 rfl ?_
      refine gw_iret .boolean dz_D_isRule_22 rfl (by first | rfl | exact zb_nar _) ?_ ?_
      · rw [zb_in_ge h9]; rfl
      · rfl
    · skip
      refine gq_iload_n dz_D_isRule_12 rfl ?_
      refine gq_iconst (v := 5) dz_D_isRule_13 rfl ?_
      refine gq_icmp_ge (tgt := 21) dz_D_isRule_14 rfl (fun h14 => ?_) (fun h14 => ?_)
      · skip
        refine gq_iconst (v := 0) dz_D_isRule_21 rfl ?_
        refine gw_iret .boolean dz_D_isRule_22 rfl (by first | rfl | exact zb_nar _) ?_ ?_
        · rw [zb_in_ge (zq_le5 h14 (by omega))]; rfl
        · rfl
      · skip
        refine gq_iconst (v := 1) dz_D_isRule_17 rfl ?_
        refine gq_goto (tgt := 22) dz_D_isRule_18 rfl ?_
        refine gw_iret .boolean dz_D_isRule_22 rfl (by first | rfl | exact zb_nar _) ?_ ?_
        · rw [zb_in_of h1 h9]; rfl
        · rfl
set_option maxHeartbeats 4000000 in
theorem sp_D_isGone {σ : zq_T} {d : Fin 5} {A : za_D} (hA : zc_rep σ d A) (p : Int32) : zq_Sp zm_D_isGone 0 [zq_O 10 d, zq_I p] σ (zq_rv (zq_I (zb_v (zb_bit (za_g A) p))) σ) := by
  refine zq_sp [some (zq_O 10 d), some (zq_I p)] (by decide +kernel) rfl (Nat.le_of_ble_eq_true rfl) (fun ν => ?_)
  refine gq_aload_n dz_D_isGone_0 rfl ?_
  refine gq_getI zf_D_49 rfl rfl dz_D_isGone_1 ?_
  rw [zc_g hA]
  refine gq_iload_n dz_D_isGone_4 rfl ?_
  refine gq_ishr dz_D_isGone_5 ?_
  refine gq_iconst (v := 1) dz_D_isGone_6 rfl ?_
  refine gq_iand dz_D_isGone_7 ?_
  refine gq_if_eq (tgt := 15) dz_D_isGone_8 rfl (fun h8 => ?_) (fun h8 => ?_)
  · skip
    refine gq_iconst (v := 0) dz_D_isGone_15 rfl ?_
    refine gw_iret .boolean dz_D_isGone_16 rfl (by first | rfl | exact zb_nar _) ?_ ?_
    · rw [zb_bit_f h8]; rfl
    · rfl
  · skip
    refine gq_iconst (v := 1) dz_D_isGone_11 rfl ?_
    refine gq_goto (tgt := 16) dz_D_isGone_12 rfl ?_
    refine gw_iret .boolean dz_D_isGone_16 rfl (by first | rfl | exact zb_nar _) ?_ ?_
    · rw [zb_bit_t h8]; rfl
    · rfl
set_option maxHeartbeats 4000000 in
theorem sp_D_isKnown {σ : zq_T} {d : Fin 5} {A : za_D} (hA : zc_rep σ d A) (p f : Int32) : zq_Sp zm_D_isKnown 1 [zq_O 10 d, zq_I p, zq_I f] σ (zq_rv (zq_I (zb_v (zb_in p (za_n A) && zb_bit (za_fa A p.toNatClampNeg) f))) σ) := by
  have hn6 := zc_n6 hA
  have hm5 := zc_m5 hA
  refine zq_sp [some (zq_O 10 d), some (zq_I p), some (zq_I f)] (by decide +kernel) rfl (Nat.le_of_ble_eq_true rfl) (fun ν => ?_)
  refine gq_aload_n dz_D_isKnown_0 rfl ?_
  refine gq_iload_n dz_D_isKnown_1 rfl ?_
  refine gq_cV (sp_D_isOne hA p) zw_D_isOne zl_D_55 dz_D_isKnown_2 rfl rfl rfl (by decide) rfl rfl (Nat.le_of_ble_eq_true rfl) ?_
  refine gw_ifb_eq (tgt := 25) dz_D_isKnown_5 rfl (fun h5 => ?_) (fun h5 => ?_)
  · skip
    refine gq_iconst (v := 0) dz_D_isKnown_25 rfl ?_
    refine gw_iret .boolean dz_D_isKnown_26 rfl (by first | rfl | exact zb_nar _) ?_ ?_
    · rw [h5]; rfl
    · rfl
  · skip
    obtain ⟨q, hq, rfl⟩ := (zb_in_iff (by omega)).mp h5
    rw [zq_cl31 hq (by omega)]
    refine gq_aload_n dz_D_isKnown_8 rfl ?_
    refine gq_getR 13 zf_D_18 rfl rfl dz_D_isKnown_9 ?_
    refine gq_iload_n dz_D_isKnown_12 rfl ?_
    refine gw_iald (q) (rfl) rfl rfl (Nat.le_of_ble_eq_true rfl) (by omega) dz_D_isKnown_13 ?_
    rw [zc_fa hA hq]
    refine gq_iload_n dz_D_isKnown_14 rfl ?_
    refine gq_ishr dz_D_isKnown_15 ?_
    refine gq_iconst (v := 1) dz_D_isKnown_16 rfl ?_
    refine gq_iand dz_D_isKnown_17 ?_
    refine gq_if_eq (tgt := 25) dz_D_isKnown_18 rfl (fun h18 => ?_) (fun h18 => ?_)
    · skip
      refine gq_iconst (v := 0) dz_D_isKnown_25 rfl ?_
      refine gw_iret .boolean dz_D_isKnown_26 rfl (by first | rfl | exact zb_nar _) ?_ ?_
      · rw [h5, zb_bit_f h18]; rfl
      · rfl
    · skip
      refine gq_iconst (v := 1) dz_D_isKnown_21 rfl ?_
      refine gq_goto (tgt := 26) dz_D_isKnown_22 rfl ?_
      refine gw_iret .boolean dz_D_isKnown_26 rfl (by first | rfl | exact zb_nar _) ?_ ?_
      · rw [h5, zb_bit_t h18]; rfl
      · rfl
set_option maxHeartbeats 4000000 in
theorem sp_D_everybody {σ : zq_T} {d : Fin 5} {A : za_D} (hA : zc_rep σ d A) : zq_Sp zm_D_everybody 0 [zq_O 10 d] σ (zq_rv (zq_I ((1 <<< (nI (za_n A) &&& 31)) - 1)) σ) := by
  refine zq_sp [some (zq_O 10 d)] (by decide +kernel) rfl (Nat.le_of_ble_eq_true rfl) (fun ν => ?_)
  refine gq_iconst (v := 1) dz_D_everybody_0 rfl ?_
  refine gq_aload_n dz_D_everybody_1 rfl ?_
  refine gq_getI zf_D_45 rfl rfl dz_D_everybody_2 ?_
  rw [zc_n hA]
  refine gq_ishl dz_D_everybody_5 ?_
  refine gq_iconst (v := 1) dz_D_everybody_6 rfl ?_
  refine gq_isub dz_D_everybody_7 ?_
  refine gw_iret .int dz_D_everybody_8 rfl (by first | rfl | exact zb_nar _) ?_ ?_
  · rfl
  · rfl
set_option maxHeartbeats 4000000 in
theorem sp_D_allRules {σ : zq_T} {d : Fin 5} {A : za_D} (hA : zc_rep σ d A) : zq_Sp zm_D_allRules 0 [zq_O 10 d] σ (zq_rv (zq_I ((1 <<< (nI (za_m A) &&& 31)) - 1)) σ) := by
  refine zq_sp [some (zq_O 10 d)] (by decide +kernel) rfl (Nat.le_of_ble_eq_true rfl) (fun ν => ?_)
  refine gq_iconst (v := 1) dz_D_allRules_0 rfl ?_
  refine gq_aload_n dz_D_allRules_1 rfl ?_
  refine gq_getI zf_D_52 rfl rfl dz_D_allRules_2 ?_
  rw [zc_m hA]
  refine gq_ishl dz_D_allRules_5 ?_
  refine gq_iconst (v := 1) dz_D_allRules_6 rfl ?_
  refine gq_isub dz_D_allRules_7 ?_
  refine gw_iret .int dz_D_allRules_8 rfl (by first | rfl | exact zb_nar _) ?_ ?_
  · rfl
  · rfl
set_option maxHeartbeats 4000000 in
theorem sp_D_cases {σ : zq_T} {d : Fin 5} {A : za_D} (hA : zc_rep σ d A) : zq_Sp zm_D_cases 0 [zq_O 10 d] σ (zq_rv (zq_I (1 <<< (nI (za_n A) &&& 31))) σ) := by
  refine zq_sp [some (zq_O 10 d)] (by decide +kernel) rfl (Nat.le_of_ble_eq_true rfl) (fun ν => ?_)
  refine gq_iconst (v := 1) dz_D_cases_0 rfl ?_
  refine gq_aload_n dz_D_cases_1 rfl ?_
  refine gq_getI zf_D_45 rfl rfl dz_D_cases_2 ?_
  rw [zc_n hA]
  refine gq_ishl dz_D_cases_5 ?_
  refine gw_iret .int dz_D_cases_6 rfl (by first | rfl | exact zb_nar _) ?_ ?_
  · rfl
  · rfl
set_option maxHeartbeats 4000000 in
theorem sp_D_placeAmongBorn {σ : zq_T} {d : Fin 5} {A : za_D} (hA : zc_rep σ d A) {p : Nat} (hp : p < za_n A) (ab : Int32) : zq_Sp zm_D_placeAmongBorn 0 [zq_O 10 d, zq_I (nI p), zq_I ab] σ (zq_rv (zq_I (nI (zs_place A p ab))) σ) := by
  have hn6 := zc_n6 hA
  have hm5 := zc_m5 hA
  refine zq_sp [some (zq_O 10 d), some (zq_I (nI p)), some (zq_I ab), none, none] (by decide +kernel) rfl (Nat.le_of_ble_eq_true rfl) (fun ν => ?_)
  refine gq_iload_n dz_D_placeAmongBorn_0 rfl ?_
  refine gq_if_lt (tgt := 20) dz_D_placeAmongBorn_1 rfl (fun h1 => ?_) (fun h1 => ?_)
  · skip
    exact absurd h1 (nI_pos (by omega))
  · skip
    refine gq_iload_n dz_D_placeAmongBorn_4 rfl ?_
    refine gq_aload_n dz_D_placeAmongBorn_5 rfl ?_
    refine gq_getI zf_D_45 rfl rfl dz_D_placeAmongBorn_6 ?_
    rw [zc_n hA]
    refine gq_icmp_ge (tgt := 20) dz_D_placeAmongBorn_9 rfl (fun h9 => ?_) (fun h9 => ?_)
    · skip
      exact absurd h9 (nI_ge hp (by omega))
    · skip
      refine gq_iload_n dz_D_placeAmongBorn_12 rfl ?_
      refine gq_iload_n dz_D_placeAmongBorn_13 rfl ?_
      refine gq_ishr dz_D_placeAmongBorn_14 ?_
      refine gq_iconst (v := 1) dz_D_placeAmongBorn_15 rfl ?_
      refine gq_iand dz_D_placeAmongBorn_16 ?_
      refine gq_if_eq (tgt := 22) dz_D_placeAmongBorn_17 rfl (fun h17 => ?_) (fun h17 => ?_)
      · skip
        refine gq_iconst (v := 0) dz_D_placeAmongBorn_22 rfl ?_
        refine gw_istore_n 3 dz_D_placeAmongBorn_23 rfl (Nat.le_of_ble_eq_true rfl) rfl ?_
        dsimp only [List.set]
        refine gq_iconst (v := 0) dz_D_placeAmongBorn_24 rfl ?_
        refine gw_istore 4 dz_D_placeAmongBorn_25 (Nat.le_of_ble_eq_true rfl) rfl ?_
        dsimp only [List.set]
        have L27 : ∀ (k : Nat) (q : Nat) (hk : p + 1 - q < k) (hq : q ≤ p + 1), zq_G ν zm_D_placeAmongBorn 0 (zq_rv (zq_I (nI (zs_place A p ab))) σ) 27 [some (zq_O 10 d), some (zq_I (nI p)), some (zq_I ab), some (zq_I (nI (zf_ct (zs_born A p ab) q))), some (zq_I (nI q))] [] σ := by
          intro k
          induction k with
          | zero => intro q hk hq; exact absurd hk (Nat.not_lt_zero _)
          | succ k ih27 =>
            intro q hk hq
            refine gq_iload dz_D_placeAmongBorn_27 rfl ?_
            refine gq_iload_n dz_D_placeAmongBorn_29 rfl ?_
            refine gq_icmp_gt (tgt := 67) dz_D_placeAmongBorn_30 rfl (fun h30 => ?_) (fun h30 => ?_)
            · skip
              refine gq_iload_n dz_D_placeAmongBorn_67 rfl ?_
              refine gw_iret .int dz_D_placeAmongBorn_68 rfl (by first | rfl | exact zb_nar _) ?_ ?_
              · rw [zs_place, if_neg (by rw [zb_bit_f h17]; exact Bool.false_ne_true), show q = p + 1 from by have := (nI_ltI (by omega) (by omega)).mp h30; omega]
              · rfl
            · skip
              have hq2 : q ≤ p := by rcases Nat.lt_or_ge p q with z | z; exact absurd (nI_lt z (by omega)) h30; exact z
              refine gq_aload_n dz_D_placeAmongBorn_33 rfl ?_
              refine gq_getR 11 zf_D_9 rfl rfl dz_D_placeAmongBorn_34 ?_
              refine gq_iload dz_D_placeAmongBorn_37 rfl ?_
              refine gw_iald (q) (rfl) rfl rfl (Nat.le_of_ble_eq_true rfl) (by omega) dz_D_placeAmongBorn_39 ?_
              rw [zc_pa hA (by omega)]
              refine gq_aload_n dz_D_placeAmongBorn_40 rfl ?_
              refine gq_getR 11 zf_D_9 rfl rfl dz_D_placeAmongBorn_41 ?_
              refine gq_iload_n dz_D_placeAmongBorn_44 rfl ?_
              refine gw_iald (p) (rfl) rfl rfl (Nat.le_of_ble_eq_true rfl) (by omega) dz_D_placeAmongBorn_45 ?_
              rw [zc_pa hA hp]
              refine gq_icmp_ne (tgt := 61) dz_D_placeAmongBorn_46 rfl (fun h46 => ?_) (fun h46 => ?_)
              · skip
                refine gw_iinc 4 (c := 1) dz_D_placeAmongBorn_61 rfl rfl (Nat.le_of_ble_eq_true rfl) rfl ?_
                dsimp only [List.set]
                refine gq_goto (tgt := 27) dz_D_placeAmongBorn_64 rfl ?_
                simp only [nI_1]
                rw [← zf_ct_f (P := zs_born A p ab) (by simp [zs_born, h46])]
                exact zq_fewer _ (zq_sub_spec (by repeat (first | exact trivial | exact rfl | refine And.intro ?_ ?_))) (ih27 (q + 1) (by omega) (by omega))
              · skip
                refine gq_iload_n dz_D_placeAmongBorn_49 rfl ?_
                refine gq_iload dz_D_placeAmongBorn_50 rfl ?_
                refine gq_ishr dz_D_placeAmongBorn_52 ?_
                refine gq_iconst (v := 1) dz_D_placeAmongBorn_53 rfl ?_
                refine gq_iand dz_D_placeAmongBorn_54 ?_
                refine gq_if_ne (tgt := 61) dz_D_placeAmongBorn_55 rfl (fun h55 => ?_) (fun h55 => ?_)
                · skip
                  refine gw_iinc 4 (c := 1) dz_D_placeAmongBorn_61 rfl rfl (Nat.le_of_ble_eq_true rfl) rfl ?_
                  dsimp only [List.set]
                  refine gq_goto (tgt := 27) dz_D_placeAmongBorn_64 rfl ?_
                  simp only [nI_1]
                  rw [← zf_ct_f (P := zs_born A p ab) (by simp [zs_born, zb_bit_t h55])]
                  exact zq_fewer _ (zq_sub_spec (by repeat (first | exact trivial | exact rfl | refine And.intro ?_ ?_))) (ih27 (q + 1) (by omega) (by omega))
                · skip
                  refine gw_iinc 3 (c := 1) dz_D_placeAmongBorn_58 rfl rfl (Nat.le_of_ble_eq_true rfl) rfl ?_
                  dsimp only [List.set]
                  refine gw_iinc 4 (c := 1) dz_D_placeAmongBorn_61 rfl rfl (Nat.le_of_ble_eq_true rfl) rfl ?_
                  dsimp only [List.set]
                  refine gq_goto (tgt := 27) dz_D_placeAmongBorn_64 rfl ?_
                  simp only [nI_1]
                  rw [← zf_ct_t (P := zs_born A p ab) (by simp [zs_born, h46, zb_bit_f h55])]
                  exact zq_fewer _ (zq_sub_spec (by repeat (first | exact trivial | exact rfl | refine And.intro ?_ ?_))) (ih27 (q + 1) (by omega) (by omega))
        exact zq_fewer _ (zq_sub_spec (by repeat (first | exact trivial | exact rfl | refine And.intro ?_ ?_))) (L27 (p + 2) 0 (by omega) (by omega))
      · skip
        refine gq_iconst (v := 0) dz_D_placeAmongBorn_20 rfl ?_
        refine gw_iret .int dz_D_placeAmongBorn_21 rfl (by first | rfl | exact zb_nar _) ?_ ?_
        · rw [zs_place, if_pos (zb_bit_t h17)]; rfl
        · rfl
set_option maxHeartbeats 4000000 in
theorem sp_D_childrenLeft {σ : zq_T} {d : Fin 5} {A : za_D} (hA : zc_rep σ d A) {p : Nat} (hp : p < za_n A) (ab : Int32) : zq_Sp zm_D_childrenLeft 0 [zq_O 10 d, zq_I (nI p), zq_I ab] σ (zq_rv (zq_I (nI (zs_child A p ab))) σ) := by
  have hn6 := zc_n6 hA
  have hm5 := zc_m5 hA
  refine zq_sp [some (zq_O 10 d), some (zq_I (nI p)), some (zq_I ab), none, none] (by decide +kernel) rfl (Nat.le_of_ble_eq_true rfl) (fun ν => ?_)
  refine gq_iconst (v := 0) dz_D_childrenLeft_0 rfl ?_
  refine gw_istore_n 3 dz_D_childrenLeft_1 rfl (Nat.le_of_ble_eq_true rfl) rfl ?_
  dsimp only [List.set]
  refine gq_iconst (v := 0) dz_D_childrenLeft_2 rfl ?_
  refine gw_istore 4 dz_D_childrenLeft_3 (Nat.le_of_ble_eq_true rfl) rfl ?_
  dsimp only [List.set]
  have L5 : ∀ (k : Nat) (q : Nat) (hk : za_n A - q < k) (hq : q ≤ za_n A), zq_G ν zm_D_childrenLeft 0 (zq_rv (zq_I (nI (zs_child A p ab))) σ) 5 [some (zq_O 10 d), some (zq_I (nI p)), some (zq_I ab), some (zq_I (nI (zf_ct (zs_chd A p ab) q))), some (zq_I (nI q))] [] σ := by
    intro k
    induction k with
    | zero => intro q hk hq; exact absurd hk (Nat.not_lt_zero _)
    | succ k ih5 =>
      intro q hk hq
      refine gq_iload dz_D_childrenLeft_5 rfl ?_
      refine gq_aload_n dz_D_childrenLeft_7 rfl ?_
      refine gq_getI zf_D_45 rfl rfl dz_D_childrenLeft_8 ?_
      rw [zc_n hA]
      refine gq_icmp_ge (tgt := 43) dz_D_childrenLeft_11 rfl (fun h11 => ?_) (fun h11 => ?_)
      · skip
        refine gq_iload_n dz_D_childrenLeft_43 rfl ?_
        refine gw_iret .int dz_D_childrenLeft_44 rfl (by first | rfl | exact zb_nar _) ?_ ?_
        · rw [zs_child, show q = za_n A from by have := (nI_leI (by omega) (by omega)).mp h11; omega]
        · rfl
      · skip
        have hq2 : q < za_n A := by rcases Nat.lt_or_ge q (za_n A) with z | z; exact z; exact absurd (nI_le z (by omega)) h11
        refine gq_aload_n dz_D_childrenLeft_14 rfl ?_
        refine gq_getR 11 zf_D_9 rfl rfl dz_D_childrenLeft_15 ?_
        refine gq_iload dz_D_childrenLeft_18 rfl ?_
        refine gw_iald (q) (rfl) rfl rfl (Nat.le_of_ble_eq_true rfl) (by omega) dz_D_childrenLeft_20 ?_
        rw [zc_pa hA hq2]
        refine gq_iload_n dz_D_childrenLeft_21 rfl ?_
        refine gq_icmp_ne (tgt := 37) dz_D_childrenLeft_22 rfl (fun h22 => ?_) (fun h22 => ?_)
        · skip
          refine gw_iinc 4 (c := 1) dz_D_childrenLeft_37 rfl rfl (Nat.le_of_ble_eq_true rfl) rfl ?_
          dsimp only [List.set]
          refine gq_goto (tgt := 5) dz_D_childrenLeft_40 rfl ?_
          simp only [nI_1]
          rw [← zf_ct_f (P := zs_chd A p ab) (by simp [zs_chd, h22])]
          exact zq_fewer _ (zq_sub_spec (by repeat (first | exact trivial | exact rfl | refine And.intro ?_ ?_))) (ih5 (q + 1) (by omega) (by omega))
        · skip
          refine gq_iload_n dz_D_childrenLeft_25 rfl ?_
          refine gq_iload dz_D_childrenLeft_26 rfl ?_
          refine gq_ishr dz_D_childrenLeft_28 ?_
          refine gq_iconst (v := 1) dz_D_childrenLeft_29 rfl ?_
          refine gq_iand dz_D_childrenLeft_30 ?_
          refine gq_if_ne (tgt := 37) dz_D_childrenLeft_31 rfl (fun h31 => ?_) (fun h31 => ?_)
          · skip
            refine gw_iinc 4 (c := 1) dz_D_childrenLeft_37 rfl rfl (Nat.le_of_ble_eq_true rfl) rfl ?_
            dsimp only [List.set]
            refine gq_goto (tgt := 5) dz_D_childrenLeft_40 rfl ?_
            simp only [nI_1]
            rw [← zf_ct_f (P := zs_chd A p ab) (by simp [zs_chd, zb_bit_t h31])]
            exact zq_fewer _ (zq_sub_spec (by repeat (first | exact trivial | exact rfl | refine And.intro ?_ ?_))) (ih5 (q + 1) (by omega) (by omega))
          · skip
            refine gw_iinc 3 (c := 1) dz_D_childrenLeft_34 rfl rfl (Nat.le_of_ble_eq_true rfl) rfl ?_
            dsimp only [List.set]
            refine gw_iinc 4 (c := 1) dz_D_childrenLeft_37 rfl rfl (Nat.le_of_ble_eq_true rfl) rfl ?_
            dsimp only [List.set]
            refine gq_goto (tgt := 5) dz_D_childrenLeft_40 rfl ?_
            simp only [nI_1]
            rw [← zf_ct_t (P := zs_chd A p ab) (by simp [zs_chd, h22, zb_bit_f h31])]
            exact zq_fewer _ (zq_sub_spec (by repeat (first | exact trivial | exact rfl | refine And.intro ?_ ?_))) (ih5 (q + 1) (by omega) (by omega))
  exact zq_fewer _ (zq_sub_spec (by repeat (first | exact trivial | exact rfl | refine And.intro ?_ ?_))) (L5 (za_n A + 1) 0 (by omega) (by omega))
end
