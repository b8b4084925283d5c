section
-- ===== PART A: goes FIRST, ahead of the names: the tables' words, and 'selects' of the private methods out of them =====
/-- a private method of a class that the tables say can be made, by its rows of tables_1 -/
def lw_okq (q : MethodName × Nat) : Prop := (q.1.cls ≠ "java/lang/invoke/MethodHandle" ∧ q.1.cls ≠ "java/lang/invoke/VarHandle") ∧ Cond.instantiable q.1.cls q.2 ∈ tables_1 ∧ Cond.privateMethod q.1 ∈ tables_1 ∧ Cond.instanceMethod q.1 ∈ tables_1
theorem lw_p0 : lw_okq (⟨"WhichBin", "startAnew", "()V"⟩, 16) := ⟨⟨by decide +kernel, by decide +kernel⟩, List.mem_of_getElem? (i := 23) (by decide +kernel), List.mem_of_getElem? (i := 451) (by decide +kernel), List.mem_of_getElem? (i := 452) (by decide +kernel)⟩
theorem lw_p1 : lw_okq (⟨"WhichBin", "forgetAnswers", "()V"⟩, 16) := ⟨⟨by decide +kernel, by decide +kernel⟩, List.mem_of_getElem? (i := 23) (by decide +kernel), List.mem_of_getElem? (i := 474) (by decide +kernel), List.mem_of_getElem? (i := 475) (by decide +kernel)⟩
theorem lw_p2 : lw_okq (⟨"WhichBin$Tokens", "cutOne", "(LWhichBin$Tape;I)I"⟩, 5) := ⟨⟨by decide +kernel, by decide +kernel⟩, List.mem_of_getElem? (i := 53) (by decide +kernel), List.mem_of_getElem? (i := 563) (by decide +kernel), List.mem_of_getElem? (i := 564) (by decide +kernel)⟩
theorem lw_p3 : lw_okq (⟨"WhichBin$Tokens", "cutWord", "(LWhichBin$Tape;I)I"⟩, 5) := ⟨⟨by decide +kernel, by decide +kernel⟩, List.mem_of_getElem? (i := 53) (by decide +kernel), List.mem_of_getElem? (i := 570) (by decide +kernel), List.mem_of_getElem? (i := 571) (by decide +kernel)⟩
theorem lw_p4 : lw_okq (⟨"WhichBin$Tokens", "cutNoToken", "(LWhichBin$Tape;I)I"⟩, 5) := ⟨⟨by decide +kernel, by decide +kernel⟩, List.mem_of_getElem? (i := 53) (by decide +kernel), List.mem_of_getElem? (i := 574) (by decide +kernel), List.mem_of_getElem? (i := 575) (by decide +kernel)⟩
theorem lw_p5 : lw_okq (⟨"WhichBin$Tokens", "add", "(IIJ)V"⟩, 5) := ⟨⟨by decide +kernel, by decide +kernel⟩, List.mem_of_getElem? (i := 53) (by decide +kernel), List.mem_of_getElem? (i := 578) (by decide +kernel), List.mem_of_getElem? (i := 579) (by decide +kernel)⟩
theorem lw_p6 : lw_okq (⟨"WhichBin$Tokens", "kindOf", "(J)I"⟩, 5) := ⟨⟨by decide +kernel, by decide +kernel⟩, List.mem_of_getElem? (i := 53) (by decide +kernel), List.mem_of_getElem? (i := 582) (by decide +kernel), List.mem_of_getElem? (i := 583) (by decide +kernel)⟩
theorem lw_p7 : lw_okq (⟨"WhichBin$Tokens", "cutInt", "(LWhichBin$Tape;I)I"⟩, 5) := ⟨⟨by decide +kernel, by decide +kernel⟩, List.mem_of_getElem? (i := 53) (by decide +kernel), List.mem_of_getElem? (i := 589) (by decide +kernel), List.mem_of_getElem? (i := 590) (by decide +kernel)⟩
theorem lw_p8 : lw_okq (⟨"WhichBin$Reader", "parseSetting", "()V"⟩, 10) := ⟨⟨by decide +kernel, by decide +kernel⟩, List.mem_of_getElem? (i := 47) (by decide +kernel), List.mem_of_getElem? (i := 656) (by decide +kernel), List.mem_of_getElem? (i := 657) (by decide +kernel)⟩
theorem lw_p9 : lw_okq (⟨"WhichBin$Reader", "fail", "(I)V"⟩, 10) := ⟨⟨by decide +kernel, by decide +kernel⟩, List.mem_of_getElem? (i := 47) (by decide +kernel), List.mem_of_getElem? (i := 660) (by decide +kernel), List.mem_of_getElem? (i := 661) (by decide +kernel)⟩
theorem lw_p10 : lw_okq (⟨"WhichBin$Reader", "take", "(I)V"⟩, 10) := ⟨⟨by decide +kernel, by decide +kernel⟩, List.mem_of_getElem? (i := 47) (by decide +kernel), List.mem_of_getElem? (i := 664) (by decide +kernel), List.mem_of_getElem? (i := 665) (by decide +kernel)⟩
theorem lw_p11 : lw_okq (⟨"WhichBin$Reader", "takeInt", "(I)I"⟩, 10) := ⟨⟨by decide +kernel, by decide +kernel⟩, List.mem_of_getElem? (i := 47) (by decide +kernel), List.mem_of_getElem? (i := 668) (by decide +kernel), List.mem_of_getElem? (i := 669) (by decide +kernel)⟩
theorem lw_p12 : lw_okq (⟨"WhichBin$Reader", "failLater", "(I)V"⟩, 10) := ⟨⟨by decide +kernel, by decide +kernel⟩, List.mem_of_getElem? (i := 47) (by decide +kernel), List.mem_of_getElem? (i := 672) (by decide +kernel), List.mem_of_getElem? (i := 673) (by decide +kernel)⟩
theorem lw_p13 : lw_okq (⟨"WhichBin$Reader", "parseHouse", "(I)V"⟩, 10) := ⟨⟨by decide +kernel, by decide +kernel⟩, List.mem_of_getElem? (i := 47) (by decide +kernel), List.mem_of_getElem? (i := 676) (by decide +kernel), List.mem_of_getElem? (i := 677) (by decide +kernel)⟩
theorem lw_p14 : lw_okq (⟨"WhichBin$Reader", "parseHabit", "(I)V"⟩, 10) := ⟨⟨by decide +kernel, by decide +kernel⟩, List.mem_of_getElem? (i := 47) (by decide +kernel), List.mem_of_getElem? (i := 684) (by decide +kernel), List.mem_of_getElem? (i := 685) (by decide +kernel)⟩
theorem lw_p15 : lw_okq (⟨"WhichBin$Reader", "parseLaw", "(I)V"⟩, 10) := ⟨⟨by decide +kernel, by decide +kernel⟩, List.mem_of_getElem? (i := 47) (by decide +kernel), List.mem_of_getElem? (i := 688) (by decide +kernel), List.mem_of_getElem? (i := 689) (by decide +kernel)⟩
def lw_privs_1 : List (MethodName × Nat) := [(⟨"WhichBin", "startAnew", "()V"⟩, 16), (⟨"WhichBin", "forgetAnswers", "()V"⟩, 16), (⟨"WhichBin$Tokens", "cutOne", "(LWhichBin$Tape;I)I"⟩, 5), (⟨"WhichBin$Tokens", "cutWord", "(LWhichBin$Tape;I)I"⟩, 5), (⟨"WhichBin$Tokens", "cutNoToken", "(LWhichBin$Tape;I)I"⟩, 5), (⟨"WhichBin$Tokens", "add", "(IIJ)V"⟩, 5), (⟨"WhichBin$Tokens", "kindOf", "(J)I"⟩, 5), (⟨"WhichBin$Tokens", "cutInt", "(LWhichBin$Tape;I)I"⟩, 5), (⟨"WhichBin$Reader", "parseSetting", "()V"⟩, 10), (⟨"WhichBin$Reader", "fail", "(I)V"⟩, 10), (⟨"WhichBin$Reader", "take", "(I)V"⟩, 10), (⟨"WhichBin$Reader", "takeInt", "(I)I"⟩, 10), (⟨"WhichBin$Reader", "failLater", "(I)V"⟩, 10), (⟨"WhichBin$Reader", "parseHouse", "(I)V"⟩, 10), (⟨"WhichBin$Reader", "parseHabit", "(I)V"⟩, 10), (⟨"WhichBin$Reader", "parseLaw", "(I)V"⟩, 10)]
theorem lw_r1 : ∀ q ∈ lw_privs_1, lw_okq q := List.forall_mem_cons.mpr ⟨lw_p0, List.forall_mem_cons.mpr ⟨lw_p1, List.forall_mem_cons.mpr ⟨lw_p2, List.forall_mem_cons.mpr ⟨lw_p3, List.forall_mem_cons.mpr ⟨lw_p4, List.forall_mem_cons.mpr ⟨lw_p5, List.forall_mem_cons.mpr ⟨lw_p6, List.forall_mem_cons.mpr ⟨lw_p7, List.forall_mem_cons.mpr ⟨lw_p8, List.forall_mem_cons.mpr ⟨lw_p9, List.forall_mem_cons.mpr ⟨lw_p10, List.forall_mem_cons.mpr ⟨lw_p11, List.forall_mem_cons.mpr ⟨lw_p12, List.forall_mem_cons.mpr ⟨lw_p13, List.forall_mem_cons.mpr ⟨lw_p14, List.forall_mem_cons.mpr ⟨lw_p15, fun _ h => absurd h List.not_mem_nil⟩⟩⟩⟩⟩⟩⟩⟩⟩⟩⟩⟩⟩⟩⟩⟩
theorem lw_p16 : lw_okq (⟨"WhichBin$Reader", "parseSum", "()V"⟩, 10) := ⟨⟨by decide +kernel, by decide +kernel⟩, List.mem_of_getElem? (i := 47) (by decide +kernel), List.mem_of_getElem? (i := 696) (by decide +kernel), List.mem_of_getElem? (i := 697) (by decide +kernel)⟩
theorem lw_p17 : lw_okq (⟨"WhichBin$Reader", "takeAndWait", "(I)V"⟩, 10) := ⟨⟨by decide +kernel, by decide +kernel⟩, List.mem_of_getElem? (i := 47) (by decide +kernel), List.mem_of_getElem? (i := 700) (by decide +kernel), List.mem_of_getElem? (i := 701) (by decide +kernel)⟩
theorem lw_p18 : lw_okq (⟨"WhichBin$Reader", "parseUnit", "()V"⟩, 10) := ⟨⟨by decide +kernel, by decide +kernel⟩, List.mem_of_getElem? (i := 47) (by decide +kernel), List.mem_of_getElem? (i := 704) (by decide +kernel), List.mem_of_getElem? (i := 705) (by decide +kernel)⟩
theorem lw_p19 : lw_okq (⟨"WhichBin$Reader", "emitWaiting", "(I)V"⟩, 10) := ⟨⟨by decide +kernel, by decide +kernel⟩, List.mem_of_getElem? (i := 47) (by decide +kernel), List.mem_of_getElem? (i := 715) (by decide +kernel), List.mem_of_getElem? (i := 716) (by decide +kernel)⟩
theorem lw_p20 : lw_okq (⟨"WhichBin$Reader", "parseModel", "(I)V"⟩, 10) := ⟨⟨by decide +kernel, by decide +kernel⟩, List.mem_of_getElem? (i := 47) (by decide +kernel), List.mem_of_getElem? (i := 723) (by decide +kernel), List.mem_of_getElem? (i := 724) (by decide +kernel)⟩
theorem lw_p21 : lw_okq (⟨"WhichBin$Laws", "reckonSigns", "(IIII)V"⟩, 7) := ⟨⟨by decide +kernel, by decide +kernel⟩, List.mem_of_getElem? (i := 174) (by decide +kernel), List.mem_of_getElem? (i := 736) (by decide +kernel), List.mem_of_getElem? (i := 737) (by decide +kernel)⟩
theorem lw_p22 : lw_okq (⟨"WhichBin$Laws", "run", "(I)I"⟩, 7) := ⟨⟨by decide +kernel, by decide +kernel⟩, List.mem_of_getElem? (i := 174) (by decide +kernel), List.mem_of_getElem? (i := 740) (by decide +kernel), List.mem_of_getElem? (i := 741) (by decide +kernel)⟩
theorem lw_p23 : lw_okq (⟨"WhichBin", "isHouse", "(I)Z"⟩, 16) := ⟨⟨by decide +kernel, by decide +kernel⟩, List.mem_of_getElem? (i := 23) (by decide +kernel), List.mem_of_getElem? (i := 759) (by decide +kernel), List.mem_of_getElem? (i := 760) (by decide +kernel)⟩
theorem lw_p24 : lw_okq (⟨"WhichBin", "heldSlots", "()I"⟩, 16) := ⟨⟨by decide +kernel, by decide +kernel⟩, List.mem_of_getElem? (i := 23) (by decide +kernel), List.mem_of_getElem? (i := 786) (by decide +kernel), List.mem_of_getElem? (i := 787) (by decide +kernel)⟩
theorem lw_p25 : lw_okq (⟨"WhichBin", "tonight", "()LWhichBin$Evening;"⟩, 16) := ⟨⟨by decide +kernel, by decide +kernel⟩, List.mem_of_getElem? (i := 23) (by decide +kernel), List.mem_of_getElem? (i := 806) (by decide +kernel), List.mem_of_getElem? (i := 807) (by decide +kernel)⟩
theorem lw_p26 : lw_okq (⟨"WhichBin$Evening", "moveTo", "(II)V"⟩, 18) := ⟨⟨by decide +kernel, by decide +kernel⟩, List.mem_of_getElem? (i := 359) (by decide +kernel), List.mem_of_getElem? (i := 818) (by decide +kernel), List.mem_of_getElem? (i := 819) (by decide +kernel)⟩
theorem lw_p27 : lw_okq (⟨"WhichBin$Evening", "putRight", "(I)V"⟩, 18) := ⟨⟨by decide +kernel, by decide +kernel⟩, List.mem_of_getElem? (i := 359) (by decide +kernel), List.mem_of_getElem? (i := 836) (by decide +kernel), List.mem_of_getElem? (i := 837) (by decide +kernel)⟩
theorem lw_p28 : lw_okq (⟨"WhichBin$Evening", "gatherSeen", "(I)V"⟩, 18) := ⟨⟨by decide +kernel, by decide +kernel⟩, List.mem_of_getElem? (i := 359) (by decide +kernel), List.mem_of_getElem? (i := 842) (by decide +kernel), List.mem_of_getElem? (i := 843) (by decide +kernel)⟩
theorem lw_p29 : lw_okq (⟨"WhichBin$Evening", "spread", "(I)V"⟩, 18) := ⟨⟨by decide +kernel, by decide +kernel⟩, List.mem_of_getElem? (i := 359) (by decide +kernel), List.mem_of_getElem? (i := 846) (by decide +kernel), List.mem_of_getElem? (i := 847) (by decide +kernel)⟩
theorem lw_p30 : lw_okq (⟨"WhichBin$Evening", "binByMost", "(III)I"⟩, 18) := ⟨⟨by decide +kernel, by decide +kernel⟩, List.mem_of_getElem? (i := 359) (by decide +kernel), List.mem_of_getElem? (i := 854) (by decide +kernel), List.mem_of_getElem? (i := 855) (by decide +kernel)⟩
theorem lw_p31 : lw_okq (⟨"WhichBin$Evening", "seenOf", "(II)I"⟩, 18) := ⟨⟨by decide +kernel, by decide +kernel⟩, List.mem_of_getElem? (i := 359) (by decide +kernel), List.mem_of_getElem? (i := 858) (by decide +kernel), List.mem_of_getElem? (i := 859) (by decide +kernel)⟩
def lw_privs_2 : List (MethodName × Nat) := [(⟨"WhichBin$Reader", "parseSum", "()V"⟩, 10), (⟨"WhichBin$Reader", "takeAndWait", "(I)V"⟩, 10), (⟨"WhichBin$Reader", "parseUnit", "()V"⟩, 10), (⟨"WhichBin$Reader", "emitWaiting", "(I)V"⟩, 10), (⟨"WhichBin$Reader", "parseModel", "(I)V"⟩, 10), (⟨"WhichBin$Laws", "reckonSigns", "(IIII)V"⟩, 7), (⟨"WhichBin$Laws", "run", "(I)I"⟩, 7), (⟨"WhichBin", "isHouse", "(I)Z"⟩, 16), (⟨"WhichBin", "heldSlots", "()I"⟩, 16), (⟨"WhichBin", "tonight", "()LWhichBin$Evening;"⟩, 16), (⟨"WhichBin$Evening", "moveTo", "(II)V"⟩, 18), (⟨"WhichBin$Evening", "putRight", "(I)V"⟩, 18), (⟨"WhichBin$Evening", "gatherSeen", "(I)V"⟩, 18), (⟨"WhichBin$Evening", "spread", "(I)V"⟩, 18), (⟨"WhichBin$Evening", "binByMost", "(III)I"⟩, 18), (⟨"WhichBin$Evening", "seenOf", "(II)I"⟩, 18)]
theorem lw_r2 : ∀ q ∈ lw_privs_2, lw_okq q := List.forall_mem_cons.mpr ⟨lw_p16, List.forall_mem_cons.mpr ⟨lw_p17, List.forall_mem_cons.mpr ⟨lw_p18, List.forall_mem_cons.mpr ⟨lw_p19, List.forall_mem_cons.mpr ⟨lw_p20, List.forall_mem_cons.mpr ⟨lw_p21, List.forall_mem_cons.mpr ⟨lw_p22, List.forall_mem_cons.mpr ⟨lw_p23, List.forall_mem_cons.mpr ⟨lw_p24, List.forall_mem_cons.mpr ⟨lw_p25, List.forall_mem_cons.mpr ⟨lw_p26, List.forall_mem_cons.mpr ⟨lw_p27, List.forall_mem_cons.mpr ⟨lw_p28, List.forall_mem_cons.mpr ⟨lw_p29, List.forall_mem_cons.mpr ⟨lw_p30, List.forall_mem_cons.mpr ⟨lw_p31, fun _ h => absurd h List.not_mem_nil⟩⟩⟩⟩⟩⟩⟩⟩⟩⟩⟩⟩⟩⟩⟩⟩
theorem lw_p32 : lw_okq (⟨"WhichBin$Evening", "binOfModel", "(III)I"⟩, 18) := ⟨⟨by decide +kernel, by decide +kernel⟩, List.mem_of_getElem? (i := 359) (by decide +kernel), List.mem_of_getElem? (i := 868) (by decide +kernel), List.mem_of_getElem? (i := 869) (by decide +kernel)⟩
theorem lw_p33 : lw_okq (⟨"WhichBin$Evening", "binByWorlds", "(III)I"⟩, 18) := ⟨⟨by decide +kernel, by decide +kernel⟩, List.mem_of_getElem? (i := 359) (by decide +kernel), List.mem_of_getElem? (i := 872) (by decide +kernel), List.mem_of_getElem? (i := 873) (by decide +kernel)⟩
theorem lw_p34 : lw_okq (⟨"WhichBin$Evening", "binByLaw", "(III)I"⟩, 18) := ⟨⟨by decide +kernel, by decide +kernel⟩, List.mem_of_getElem? (i := 359) (by decide +kernel), List.mem_of_getElem? (i := 876) (by decide +kernel), List.mem_of_getElem? (i := 877) (by decide +kernel)⟩
theorem lw_p35 : lw_okq (⟨"WhichBin$Evening", "lay", "(IIIII)V"⟩, 18) := ⟨⟨by decide +kernel, by decide +kernel⟩, List.mem_of_getElem? (i := 359) (by decide +kernel), List.mem_of_getElem? (i := 884) (by decide +kernel), List.mem_of_getElem? (i := 885) (by decide +kernel)⟩
theorem lw_p36 : lw_okq (⟨"WhichBin", "partOfAll", "(JZ)I"⟩, 16) := ⟨⟨by decide +kernel, by decide +kernel⟩, List.mem_of_getElem? (i := 23) (by decide +kernel), List.mem_of_getElem? (i := 960) (by decide +kernel), List.mem_of_getElem? (i := 961) (by decide +kernel)⟩
theorem lw_p37 : lw_okq (⟨"WhichBin", "allWeight", "()I"⟩, 16) := ⟨⟨by decide +kernel, by decide +kernel⟩, List.mem_of_getElem? (i := 23) (by decide +kernel), List.mem_of_getElem? (i := 964) (by decide +kernel), List.mem_of_getElem? (i := 965) (by decide +kernel)⟩
theorem lw_p38 : lw_okq (⟨"WhichBin", "meanWith", "(I)I"⟩, 16) := ⟨⟨by decide +kernel, by decide +kernel⟩, List.mem_of_getElem? (i := 23) (by decide +kernel), List.mem_of_getElem? (i := 987) (by decide +kernel), List.mem_of_getElem? (i := 988) (by decide +kernel)⟩
theorem lw_p39 : lw_okq (⟨"WhichBin", "allHouses", "()I"⟩, 16) := ⟨⟨by decide +kernel, by decide +kernel⟩, List.mem_of_getElem? (i := 23) (by decide +kernel), List.mem_of_getElem? (i := 1015) (by decide +kernel), List.mem_of_getElem? (i := 1016) (by decide +kernel)⟩
theorem lw_p40 : lw_okq (⟨"WhichBin", "bestLeaflets", "(I)I"⟩, 16) := ⟨⟨by decide +kernel, by decide +kernel⟩, List.mem_of_getElem? (i := 23) (by decide +kernel), List.mem_of_getElem? (i := 1025) (by decide +kernel), List.mem_of_getElem? (i := 1026) (by decide +kernel)⟩
theorem lw_p41 : lw_okq (⟨"WhichBin", "meanIfChanged", "(II)I"⟩, 16) := ⟨⟨by decide +kernel, by decide +kernel⟩, List.mem_of_getElem? (i := 23) (by decide +kernel), List.mem_of_getElem? (i := 1042) (by decide +kernel), List.mem_of_getElem? (i := 1043) (by decide +kernel)⟩
theorem lw_p42 : lw_okq (⟨"WhichBin", "meanIfPutRight", "(I)I"⟩, 16) := ⟨⟨by decide +kernel, by decide +kernel⟩, List.mem_of_getElem? (i := 23) (by decide +kernel), List.mem_of_getElem? (i := 1054) (by decide +kernel), List.mem_of_getElem? (i := 1055) (by decide +kernel)⟩
theorem lw_p43 : lw_okq (⟨"WhichBin", "findRests", "()V"⟩, 16) := ⟨⟨by decide +kernel, by decide +kernel⟩, List.mem_of_getElem? (i := 23) (by decide +kernel), List.mem_of_getElem? (i := 1074) (by decide +kernel), List.mem_of_getElem? (i := 1075) (by decide +kernel)⟩
theorem lw_p44 : lw_okq (⟨"WhichBin", "isResting", "(I)Z"⟩, 16) := ⟨⟨by decide +kernel, by decide +kernel⟩, List.mem_of_getElem? (i := 23) (by decide +kernel), List.mem_of_getElem? (i := 1079) (by decide +kernel), List.mem_of_getElem? (i := 1080) (by decide +kernel)⟩
theorem lw_p45 : lw_okq (⟨"WhichBin$Fence", "lookOver", "(I)Z"⟩, 4) := ⟨⟨by decide +kernel, by decide +kernel⟩, List.mem_of_getElem? (i := 430) (by decide +kernel), List.mem_of_getElem? (i := 1092) (by decide +kernel), List.mem_of_getElem? (i := 1093) (by decide +kernel)⟩
theorem lw_p46 : lw_okq (⟨"WhichBin$Diary", "allFit", "(III)Z"⟩, 6) := ⟨⟨by decide +kernel, by decide +kernel⟩, List.mem_of_getElem? (i := 332) (by decide +kernel), List.mem_of_getElem? (i := 1125) (by decide +kernel), List.mem_of_getElem? (i := 1126) (by decide +kernel)⟩
theorem lw_p47 : lw_okq (⟨"WhichBin$Diary", "isBrownBy", "(II)Z"⟩, 6) := ⟨⟨by decide +kernel, by decide +kernel⟩, List.mem_of_getElem? (i := 332) (by decide +kernel), List.mem_of_getElem? (i := 1129) (by decide +kernel), List.mem_of_getElem? (i := 1130) (by decide +kernel)⟩
def lw_privs_3 : List (MethodName × Nat) := [(⟨"WhichBin$Evening", "binOfModel", "(III)I"⟩, 18), (⟨"WhichBin$Evening", "binByWorlds", "(III)I"⟩, 18), (⟨"WhichBin$Evening", "binByLaw", "(III)I"⟩, 18), (⟨"WhichBin$Evening", "lay", "(IIIII)V"⟩, 18), (⟨"WhichBin", "partOfAll", "(JZ)I"⟩, 16), (⟨"WhichBin", "allWeight", "()I"⟩, 16), (⟨"WhichBin", "meanWith", "(I)I"⟩, 16), (⟨"WhichBin", "allHouses", "()I"⟩, 16), (⟨"WhichBin", "bestLeaflets", "(I)I"⟩, 16), (⟨"WhichBin", "meanIfChanged", "(II)I"⟩, 16), (⟨"WhichBin", "meanIfPutRight", "(I)I"⟩, 16), (⟨"WhichBin", "findRests", "()V"⟩, 16), (⟨"WhichBin", "isResting", "(I)Z"⟩, 16), (⟨"WhichBin$Fence", "lookOver", "(I)Z"⟩, 4), (⟨"WhichBin$Diary", "allFit", "(III)Z"⟩, 6), (⟨"WhichBin$Diary", "isBrownBy", "(II)Z"⟩, 6)]
theorem lw_r3 : ∀ q ∈ lw_privs_3, lw_okq q := List.forall_mem_cons.mpr ⟨lw_p32, List.forall_mem_cons.mpr ⟨lw_p33, List.forall_mem_cons.mpr ⟨lw_p34, List.forall_mem_cons.mpr ⟨lw_p35, List.forall_mem_cons.mpr ⟨lw_p36, List.forall_mem_cons.mpr ⟨lw_p37, List.forall_mem_cons.mpr ⟨lw_p38, List.forall_mem_cons.mpr ⟨lw_p39, List.forall_mem_cons.mpr ⟨lw_p40, List.forall_mem_cons.mpr ⟨lw_p41, List.forall_mem_cons.mpr ⟨lw_p42, List.forall_mem_cons.mpr ⟨lw_p43, List.forall_mem_cons.mpr ⟨lw_p44, List.forall_mem_cons.mpr ⟨lw_p45, List.forall_mem_cons.mpr ⟨lw_p46, List.forall_mem_cons.mpr ⟨lw_p47, fun _ h => absurd h List.not_mem_nil⟩⟩⟩⟩⟩⟩⟩⟩⟩⟩⟩⟩⟩⟩⟩⟩
theorem lw_p48 : lw_okq (⟨"WhichBinModel", "plain", "(I)V"⟩, 66) := ⟨⟨by decide +kernel, by decide +kernel⟩, List.mem_of_getElem? (i := 1133) (by decide +kernel), List.mem_of_getElem? (i := 1139) (by decide +kernel), List.mem_of_getElem? (i := 1140) (by decide +kernel)⟩
theorem lw_p49 : lw_okq (⟨"WhichBinModel", "begins", "()V"⟩, 66) := ⟨⟨by decide +kernel, by decide +kernel⟩, List.mem_of_getElem? (i := 1133) (by decide +kernel), List.mem_of_getElem? (i := 1150) (by decide +kernel), List.mem_of_getElem? (i := 1151) (by decide +kernel)⟩
theorem lw_p50 : lw_okq (⟨"WhichBinModel", "plainly", "()V"⟩, 66) := ⟨⟨by decide +kernel, by decide +kernel⟩, List.mem_of_getElem? (i := 1133) (by decide +kernel), List.mem_of_getElem? (i := 1154) (by decide +kernel), List.mem_of_getElem? (i := 1155) (by decide +kernel)⟩
theorem lw_p51 : lw_okq (⟨"WhichBinModel", "keepsRow", "()V"⟩, 66) := ⟨⟨by decide +kernel, by decide +kernel⟩, List.mem_of_getElem? (i := 1133) (by decide +kernel), List.mem_of_getElem? (i := 1158) (by decide +kernel), List.mem_of_getElem? (i := 1159) (by decide +kernel)⟩
theorem lw_p52 : lw_okq (⟨"WhichBinModel", "put", "(I)V"⟩, 66) := ⟨⟨by decide +kernel, by decide +kernel⟩, List.mem_of_getElem? (i := 1133) (by decide +kernel), List.mem_of_getElem? (i := 1364) (by decide +kernel), List.mem_of_getElem? (i := 1365) (by decide +kernel)⟩
theorem lw_p53 : lw_okq (⟨"WhichBinModel", "cut", "()V"⟩, 66) := ⟨⟨by decide +kernel, by decide +kernel⟩, List.mem_of_getElem? (i := 1133) (by decide +kernel), List.mem_of_getElem? (i := 1376) (by decide +kernel), List.mem_of_getElem? (i := 1377) (by decide +kernel)⟩
theorem lw_p54 : lw_okq (⟨"WhichBinModel", "byteAt", "(I)I"⟩, 66) := ⟨⟨by decide +kernel, by decide +kernel⟩, List.mem_of_getElem? (i := 1133) (by decide +kernel), List.mem_of_getElem? (i := 1380) (by decide +kernel), List.mem_of_getElem? (i := 1381) (by decide +kernel)⟩
theorem lw_p55 : lw_okq (⟨"WhichBinModel", "token", "(IIIJ)V"⟩, 66) := ⟨⟨by decide +kernel, by decide +kernel⟩, List.mem_of_getElem? (i := 1133) (by decide +kernel), List.mem_of_getElem? (i := 1384) (by decide +kernel), List.mem_of_getElem? (i := 1385) (by decide +kernel)⟩
theorem lw_p56 : lw_okq (⟨"WhichBinModel", "sign", "(III)I"⟩, 66) := ⟨⟨by decide +kernel, by decide +kernel⟩, List.mem_of_getElem? (i := 1133) (by decide +kernel), List.mem_of_getElem? (i := 1394) (by decide +kernel), List.mem_of_getElem? (i := 1395) (by decide +kernel)⟩
theorem lw_p57 : lw_okq (⟨"WhichBinModel", "is", "(I)Z"⟩, 66) := ⟨⟨by decide +kernel, by decide +kernel⟩, List.mem_of_getElem? (i := 1133) (by decide +kernel), List.mem_of_getElem? (i := 1398) (by decide +kernel), List.mem_of_getElem? (i := 1399) (by decide +kernel)⟩
theorem lw_p58 : lw_okq (⟨"WhichBinModel", "tellOne", "()V"⟩, 66) := ⟨⟨by decide +kernel, by decide +kernel⟩, List.mem_of_getElem? (i := 1133) (by decide +kernel), List.mem_of_getElem? (i := 1402) (by decide +kernel), List.mem_of_getElem? (i := 1403) (by decide +kernel)⟩
theorem lw_p59 : lw_okq (⟨"WhichBinModel", "fail", "(I)V"⟩, 66) := ⟨⟨by decide +kernel, by decide +kernel⟩, List.mem_of_getElem? (i := 1133) (by decide +kernel), List.mem_of_getElem? (i := 1406) (by decide +kernel), List.mem_of_getElem? (i := 1407) (by decide +kernel)⟩
theorem lw_p60 : lw_okq (⟨"WhichBinModel", "tellHouse", "()V"⟩, 66) := ⟨⟨by decide +kernel, by decide +kernel⟩, List.mem_of_getElem? (i := 1133) (by decide +kernel), List.mem_of_getElem? (i := 1410) (by decide +kernel), List.mem_of_getElem? (i := 1411) (by decide +kernel)⟩
theorem lw_p61 : lw_okq (⟨"WhichBinModel", "goesOn", "()V"⟩, 66) := ⟨⟨by decide +kernel, by decide +kernel⟩, List.mem_of_getElem? (i := 1133) (by decide +kernel), List.mem_of_getElem? (i := 1414) (by decide +kernel), List.mem_of_getElem? (i := 1415) (by decide +kernel)⟩
theorem lw_p62 : lw_okq (⟨"WhichBinModel", "must", "(I)V"⟩, 66) := ⟨⟨by decide +kernel, by decide +kernel⟩, List.mem_of_getElem? (i := 1133) (by decide +kernel), List.mem_of_getElem? (i := 1418) (by decide +kernel), List.mem_of_getElem? (i := 1419) (by decide +kernel)⟩
theorem lw_p63 : lw_okq (⟨"WhichBinModel", "named", "(I)I"⟩, 66) := ⟨⟨by decide +kernel, by decide +kernel⟩, List.mem_of_getElem? (i := 1133) (by decide +kernel), List.mem_of_getElem? (i := 1422) (by decide +kernel), List.mem_of_getElem? (i := 1423) (by decide +kernel)⟩
def lw_privs_4 : List (MethodName × Nat) := [(⟨"WhichBinModel", "plain", "(I)V"⟩, 66), (⟨"WhichBinModel", "begins", "()V"⟩, 66), (⟨"WhichBinModel", "plainly", "()V"⟩, 66), (⟨"WhichBinModel", "keepsRow", "()V"⟩, 66), (⟨"WhichBinModel", "put", "(I)V"⟩, 66), (⟨"WhichBinModel", "cut", "()V"⟩, 66), (⟨"WhichBinModel", "byteAt", "(I)I"⟩, 66), (⟨"WhichBinModel", "token", "(IIIJ)V"⟩, 66), (⟨"WhichBinModel", "sign", "(III)I"⟩, 66), (⟨"WhichBinModel", "is", "(I)Z"⟩, 66), (⟨"WhichBinModel", "tellOne", "()V"⟩, 66), (⟨"WhichBinModel", "fail", "(I)V"⟩, 66), (⟨"WhichBinModel", "tellHouse", "()V"⟩, 66), (⟨"WhichBinModel", "goesOn", "()V"⟩, 66), (⟨"WhichBinModel", "must", "(I)V"⟩, 66), (⟨"WhichBinModel", "named", "(I)I"⟩, 66)]
theorem lw_r4 : ∀ q ∈ lw_privs_4, lw_okq q := List.forall_mem_cons.mpr ⟨lw_p48, List.forall_mem_cons.mpr ⟨lw_p49, List.forall_mem_cons.mpr ⟨lw_p50, List.forall_mem_cons.mpr ⟨lw_p51, List.forall_mem_cons.mpr ⟨lw_p52, List.forall_mem_cons.mpr ⟨lw_p53, List.forall_mem_cons.mpr ⟨lw_p54, List.forall_mem_cons.mpr ⟨lw_p55, List.forall_mem_cons.mpr ⟨lw_p56, List.forall_mem_cons.mpr ⟨lw_p57, List.forall_mem_cons.mpr ⟨lw_p58, List.forall_mem_cons.mpr ⟨lw_p59, List.forall_mem_cons.mpr ⟨lw_p60, List.forall_mem_cons.mpr ⟨lw_p61, List.forall_mem_cons.mpr ⟨lw_p62, List.forall_mem_cons.mpr ⟨lw_p63, fun _ h => absurd h List.not_mem_nil⟩⟩⟩⟩⟩⟩⟩⟩⟩⟩⟩⟩⟩⟩⟩⟩
theorem lw_p64 : lw_okq (⟨"WhichBinModel", "wrong", "(II)V"⟩, 66) := ⟨⟨by decide +kernel, by decide +kernel⟩, List.mem_of_getElem? (i := 1133) (by decide +kernel), List.mem_of_getElem? (i := 1426) (by decide +kernel), List.mem_of_getElem? (i := 1427) (by decide +kernel)⟩
theorem lw_p65 : lw_okq (⟨"WhichBinModel", "bounded", "(II)I"⟩, 66) := ⟨⟨by decide +kernel, by decide +kernel⟩, List.mem_of_getElem? (i := 1133) (by decide +kernel), List.mem_of_getElem? (i := 1430) (by decide +kernel), List.mem_of_getElem? (i := 1431) (by decide +kernel)⟩
theorem lw_p66 : lw_okq (⟨"WhichBinModel", "tellHabit", "(I)V"⟩, 66) := ⟨⟨by decide +kernel, by decide +kernel⟩, List.mem_of_getElem? (i := 1133) (by decide +kernel), List.mem_of_getElem? (i := 1434) (by decide +kernel), List.mem_of_getElem? (i := 1435) (by decide +kernel)⟩
theorem lw_p67 : lw_okq (⟨"WhichBinModel", "tellLaw", "(I)V"⟩, 66) := ⟨⟨by decide +kernel, by decide +kernel⟩, List.mem_of_getElem? (i := 1133) (by decide +kernel), List.mem_of_getElem? (i := 1438) (by decide +kernel), List.mem_of_getElem? (i := 1439) (by decide +kernel)⟩
theorem lw_p68 : lw_okq (⟨"WhichBinModel", "expression", "()V"⟩, 66) := ⟨⟨by decide +kernel, by decide +kernel⟩, List.mem_of_getElem? (i := 1133) (by decide +kernel), List.mem_of_getElem? (i := 1442) (by decide +kernel), List.mem_of_getElem? (i := 1443) (by decide +kernel)⟩
theorem lw_p69 : lw_okq (⟨"WhichBinModel", "unit", "()V"⟩, 66) := ⟨⟨by decide +kernel, by decide +kernel⟩, List.mem_of_getElem? (i := 1133) (by decide +kernel), List.mem_of_getElem? (i := 1446) (by decide +kernel), List.mem_of_getElem? (i := 1447) (by decide +kernel)⟩
theorem lw_p70 : lw_okq (⟨"WhichBinModel", "emit", "(II)V"⟩, 66) := ⟨⟨by decide +kernel, by decide +kernel⟩, List.mem_of_getElem? (i := 1133) (by decide +kernel), List.mem_of_getElem? (i := 1450) (by decide +kernel), List.mem_of_getElem? (i := 1451) (by decide +kernel)⟩
theorem lw_p71 : lw_okq (⟨"WhichBinModel", "comesOut", "(Z)V"⟩, 66) := ⟨⟨by decide +kernel, by decide +kernel⟩, List.mem_of_getElem? (i := 1133) (by decide +kernel), List.mem_of_getElem? (i := 1454) (by decide +kernel), List.mem_of_getElem? (i := 1455) (by decide +kernel)⟩
theorem lw_p72 : lw_okq (⟨"WhichBinModel", "term", "()V"⟩, 66) := ⟨⟨by decide +kernel, by decide +kernel⟩, List.mem_of_getElem? (i := 1133) (by decide +kernel), List.mem_of_getElem? (i := 1458) (by decide +kernel), List.mem_of_getElem? (i := 1459) (by decide +kernel)⟩
theorem lw_p73 : lw_okq (⟨"WhichBinModel", "setting", "(I)I"⟩, 66) := ⟨⟨by decide +kernel, by decide +kernel⟩, List.mem_of_getElem? (i := 1133) (by decide +kernel), List.mem_of_getElem? (i := 1462) (by decide +kernel), List.mem_of_getElem? (i := 1463) (by decide +kernel)⟩
theorem lw_p74 : lw_okq (⟨"WhichBinModel", "isHouse", "(I)Z"⟩, 66) := ⟨⟨by decide +kernel, by decide +kernel⟩, List.mem_of_getElem? (i := 1133) (by decide +kernel), List.mem_of_getElem? (i := 1474) (by decide +kernel), List.mem_of_getElem? (i := 1475) (by decide +kernel)⟩
theorem lw_p75 : lw_okq (⟨"WhichBinModel", "copies", "()V"⟩, 66) := ⟨⟨by decide +kernel, by decide +kernel⟩, List.mem_of_getElem? (i := 1133) (by decide +kernel), List.mem_of_getElem? (i := 1481) (by decide +kernel), List.mem_of_getElem? (i := 1482) (by decide +kernel)⟩
theorem lw_p76 : lw_okq (⟨"WhichBinModel", "sureNow", "(I)I"⟩, 66) := ⟨⟨by decide +kernel, by decide +kernel⟩, List.mem_of_getElem? (i := 1133) (by decide +kernel), List.mem_of_getElem? (i := 1485) (by decide +kernel), List.mem_of_getElem? (i := 1486) (by decide +kernel)⟩
theorem lw_p77 : lw_okq (⟨"WhichBinModel", "hasLeaflet", "(I)Z"⟩, 66) := ⟨⟨by decide +kernel, by decide +kernel⟩, List.mem_of_getElem? (i := 1133) (by decide +kernel), List.mem_of_getElem? (i := 1489) (by decide +kernel), List.mem_of_getElem? (i := 1490) (by decide +kernel)⟩
theorem lw_p78 : lw_okq (⟨"WhichBinModel", "habitNow", "(I)I"⟩, 66) := ⟨⟨by decide +kernel, by decide +kernel⟩, List.mem_of_getElem? (i := 1133) (by decide +kernel), List.mem_of_getElem? (i := 1493) (by decide +kernel), List.mem_of_getElem? (i := 1494) (by decide +kernel)⟩
theorem lw_p79 : lw_okq (⟨"WhichBinModel", "fillsOut", "()V"⟩, 66) := ⟨⟨by decide +kernel, by decide +kernel⟩, List.mem_of_getElem? (i := 1133) (by decide +kernel), List.mem_of_getElem? (i := 1505) (by decide +kernel), List.mem_of_getElem? (i := 1506) (by decide +kernel)⟩
def lw_privs_5 : List (MethodName × Nat) := [(⟨"WhichBinModel", "wrong", "(II)V"⟩, 66), (⟨"WhichBinModel", "bounded", "(II)I"⟩, 66), (⟨"WhichBinModel", "tellHabit", "(I)V"⟩, 66), (⟨"WhichBinModel", "tellLaw", "(I)V"⟩, 66), (⟨"WhichBinModel", "expression", "()V"⟩, 66), (⟨"WhichBinModel", "unit", "()V"⟩, 66), (⟨"WhichBinModel", "emit", "(II)V"⟩, 66), (⟨"WhichBinModel", "comesOut", "(Z)V"⟩, 66), (⟨"WhichBinModel", "term", "()V"⟩, 66), (⟨"WhichBinModel", "setting", "(I)I"⟩, 66), (⟨"WhichBinModel", "isHouse", "(I)Z"⟩, 66), (⟨"WhichBinModel", "copies", "()V"⟩, 66), (⟨"WhichBinModel", "sureNow", "(I)I"⟩, 66), (⟨"WhichBinModel", "hasLeaflet", "(I)Z"⟩, 66), (⟨"WhichBinModel", "habitNow", "(I)I"⟩, 66), (⟨"WhichBinModel", "fillsOut", "()V"⟩, 66)]
theorem lw_r5 : ∀ q ∈ lw_privs_5, lw_okq q := List.forall_mem_cons.mpr ⟨lw_p64, List.forall_mem_cons.mpr ⟨lw_p65, List.forall_mem_cons.mpr ⟨lw_p66, List.forall_mem_cons.mpr ⟨lw_p67, List.forall_mem_cons.mpr ⟨lw_p68, List.forall_mem_cons.mpr ⟨lw_p69, List.forall_mem_cons.mpr ⟨lw_p70, List.forall_mem_cons.mpr ⟨lw_p71, List.forall_mem_cons.mpr ⟨lw_p72, List.forall_mem_cons.mpr ⟨lw_p73, List.forall_mem_cons.mpr ⟨lw_p74, List.forall_mem_cons.mpr ⟨lw_p75, List.forall_mem_cons.mpr ⟨lw_p76, List.forall_mem_cons.mpr ⟨lw_p77, List.forall_mem_cons.mpr ⟨lw_p78, List.forall_mem_cons.mpr ⟨lw_p79, fun _ h => absurd h List.not_mem_nil⟩⟩⟩⟩⟩⟩⟩⟩⟩⟩⟩⟩⟩⟩⟩⟩
theorem lw_p80 : lw_okq (⟨"WhichBinModel", "fillsWeights", "()V"⟩, 66) := ⟨⟨by decide +kernel, by decide +kernel⟩, List.mem_of_getElem? (i := 1133) (by decide +kernel), List.mem_of_getElem? (i := 1509) (by decide +kernel), List.mem_of_getElem? (i := 1510) (by decide +kernel)⟩
theorem lw_p81 : lw_okq (⟨"WhichBinModel", "worlds", "()I"⟩, 66) := ⟨⟨by decide +kernel, by decide +kernel⟩, List.mem_of_getElem? (i := 1133) (by decide +kernel), List.mem_of_getElem? (i := 1513) (by decide +kernel), List.mem_of_getElem? (i := 1514) (by decide +kernel)⟩
theorem lw_p82 : lw_okq (⟨"WhichBinModel", "rights", "(I)V"⟩, 66) := ⟨⟨by decide +kernel, by decide +kernel⟩, List.mem_of_getElem? (i := 1133) (by decide +kernel), List.mem_of_getElem? (i := 1517) (by decide +kernel), List.mem_of_getElem? (i := 1518) (by decide +kernel)⟩
theorem lw_p83 : lw_okq (⟨"WhichBinModel", "houseAt", "(I)I"⟩, 66) := ⟨⟨by decide +kernel, by decide +kernel⟩, List.mem_of_getElem? (i := 1133) (by decide +kernel), List.mem_of_getElem? (i := 1521) (by decide +kernel), List.mem_of_getElem? (i := 1522) (by decide +kernel)⟩
theorem lw_p84 : lw_okq (⟨"WhichBinModel", "aheadIn", "(I)V"⟩, 66) := ⟨⟨by decide +kernel, by decide +kernel⟩, List.mem_of_getElem? (i := 1133) (by decide +kernel), List.mem_of_getElem? (i := 1525) (by decide +kernel), List.mem_of_getElem? (i := 1526) (by decide +kernel)⟩
theorem lw_p85 : lw_okq (⟨"WhichBinModel", "signIn", "(II)Z"⟩, 66) := ⟨⟨by decide +kernel, by decide +kernel⟩, List.mem_of_getElem? (i := 1133) (by decide +kernel), List.mem_of_getElem? (i := 1529) (by decide +kernel), List.mem_of_getElem? (i := 1530) (by decide +kernel)⟩
theorem lw_p86 : lw_okq (⟨"WhichBinModel", "putOf", "(IZ)I"⟩, 66) := ⟨⟨by decide +kernel, by decide +kernel⟩, List.mem_of_getElem? (i := 1133) (by decide +kernel), List.mem_of_getElem? (i := 1533) (by decide +kernel), List.mem_of_getElem? (i := 1534) (by decide +kernel)⟩
theorem lw_p87 : lw_okq (⟨"WhichBinModel", "plainOf", "(Z)I"⟩, 66) := ⟨⟨by decide +kernel, by decide +kernel⟩, List.mem_of_getElem? (i := 1133) (by decide +kernel), List.mem_of_getElem? (i := 1537) (by decide +kernel), List.mem_of_getElem? (i := 1538) (by decide +kernel)⟩
theorem lw_p88 : lw_okq (⟨"WhichBinModel", "mostOf", "(IZ)I"⟩, 66) := ⟨⟨by decide +kernel, by decide +kernel⟩, List.mem_of_getElem? (i := 1133) (by decide +kernel), List.mem_of_getElem? (i := 1541) (by decide +kernel), List.mem_of_getElem? (i := 1542) (by decide +kernel)⟩
theorem lw_p89 : lw_okq (⟨"WhichBinModel", "seenOf", "(II)I"⟩, 66) := ⟨⟨by decide +kernel, by decide +kernel⟩, List.mem_of_getElem? (i := 1133) (by decide +kernel), List.mem_of_getElem? (i := 1545) (by decide +kernel), List.mem_of_getElem? (i := 1546) (by decide +kernel)⟩
theorem lw_p90 : lw_okq (⟨"WhichBinModel", "seenFrom", "(I)I"⟩, 66) := ⟨⟨by decide +kernel, by decide +kernel⟩, List.mem_of_getElem? (i := 1133) (by decide +kernel), List.mem_of_getElem? (i := 1549) (by decide +kernel), List.mem_of_getElem? (i := 1550) (by decide +kernel)⟩
theorem lw_p91 : lw_okq (⟨"WhichBinModel", "asOne", "(IIZ)I"⟩, 66) := ⟨⟨by decide +kernel, by decide +kernel⟩, List.mem_of_getElem? (i := 1133) (by decide +kernel), List.mem_of_getElem? (i := 1553) (by decide +kernel), List.mem_of_getElem? (i := 1554) (by decide +kernel)⟩
theorem lw_p92 : lw_okq (⟨"WhichBinModel", "wiseOf", "(IZ)I"⟩, 66) := ⟨⟨by decide +kernel, by decide +kernel⟩, List.mem_of_getElem? (i := 1133) (by decide +kernel), List.mem_of_getElem? (i := 1557) (by decide +kernel), List.mem_of_getElem? (i := 1558) (by decide +kernel)⟩
theorem lw_p93 : lw_okq (⟨"WhichBinModel", "isSeenAlike", "(II)Z"⟩, 66) := ⟨⟨by decide +kernel, by decide +kernel⟩, List.mem_of_getElem? (i := 1133) (by decide +kernel), List.mem_of_getElem? (i := 1561) (by decide +kernel), List.mem_of_getElem? (i := 1562) (by decide +kernel)⟩
theorem lw_p94 : lw_okq (⟨"WhichBinModel", "lawOf", "(IZ)I"⟩, 66) := ⟨⟨by decide +kernel, by decide +kernel⟩, List.mem_of_getElem? (i := 1133) (by decide +kernel), List.mem_of_getElem? (i := 1565) (by decide +kernel), List.mem_of_getElem? (i := 1566) (by decide +kernel)⟩
theorem lw_p95 : lw_okq (⟨"WhichBinModel", "termOf", "(II)I"⟩, 66) := ⟨⟨by decide +kernel, by decide +kernel⟩, List.mem_of_getElem? (i := 1133) (by decide +kernel), List.mem_of_getElem? (i := 1569) (by decide +kernel), List.mem_of_getElem? (i := 1570) (by decide +kernel)⟩
def lw_privs_6 : List (MethodName × Nat) := [(⟨"WhichBinModel", "fillsWeights", "()V"⟩, 66), (⟨"WhichBinModel", "worlds", "()I"⟩, 66), (⟨"WhichBinModel", "rights", "(I)V"⟩, 66), (⟨"WhichBinModel", "houseAt", "(I)I"⟩, 66), (⟨"WhichBinModel", "aheadIn", "(I)V"⟩, 66), (⟨"WhichBinModel", "signIn", "(II)Z"⟩, 66), (⟨"WhichBinModel", "putOf", "(IZ)I"⟩, 66), (⟨"WhichBinModel", "plainOf", "(Z)I"⟩, 66), (⟨"WhichBinModel", "mostOf", "(IZ)I"⟩, 66), (⟨"WhichBinModel", "seenOf", "(II)I"⟩, 66), (⟨"WhichBinModel", "seenFrom", "(I)I"⟩, 66), (⟨"WhichBinModel", "asOne", "(IIZ)I"⟩, 66), (⟨"WhichBinModel", "wiseOf", "(IZ)I"⟩, 66), (⟨"WhichBinModel", "isSeenAlike", "(II)Z"⟩, 66), (⟨"WhichBinModel", "lawOf", "(IZ)I"⟩, 66), (⟨"WhichBinModel", "termOf", "(II)I"⟩, 66)]
theorem lw_r6 : ∀ q ∈ lw_privs_6, lw_okq q := List.forall_mem_cons.mpr ⟨lw_p80, List.forall_mem_cons.mpr ⟨lw_p81, List.forall_mem_cons.mpr ⟨lw_p82, List.forall_mem_cons.mpr ⟨lw_p83, List.forall_mem_cons.mpr ⟨lw_p84, List.forall_mem_cons.mpr ⟨lw_p85, List.forall_mem_cons.mpr ⟨lw_p86, List.forall_mem_cons.mpr ⟨lw_p87, List.forall_mem_cons.mpr ⟨lw_p88, List.forall_mem_cons.mpr ⟨lw_p89, List.forall_mem_cons.mpr ⟨lw_p90, List.forall_mem_cons.mpr ⟨lw_p91, List.forall_mem_cons.mpr ⟨lw_p92, List.forall_mem_cons.mpr ⟨lw_p93, List.forall_mem_cons.mpr ⟨lw_p94, List.forall_mem_cons.mpr ⟨lw_p95, fun _ h => absurd h List.not_mem_nil⟩⟩⟩⟩⟩⟩⟩⟩⟩⟩⟩⟩⟩⟩⟩⟩
theorem lw_p96 : lw_okq (⟨"WhichBinModel", "nightGoes", "()V"⟩, 66) := ⟨⟨by decide +kernel, by decide +kernel⟩, List.mem_of_getElem? (i := 1133) (by decide +kernel), List.mem_of_getElem? (i := 1573) (by decide +kernel), List.mem_of_getElem? (i := 1574) (by decide +kernel)⟩
theorem lw_p97 : lw_okq (⟨"WhichBinModel", "worldNow", "()I"⟩, 66) := ⟨⟨by decide +kernel, by decide +kernel⟩, List.mem_of_getElem? (i := 1133) (by decide +kernel), List.mem_of_getElem? (i := 1577) (by decide +kernel), List.mem_of_getElem? (i := 1578) (by decide +kernel)⟩
theorem lw_p98 : lw_okq (⟨"WhichBinModel", "lotOf", "(I)I"⟩, 66) := ⟨⟨by decide +kernel, by decide +kernel⟩, List.mem_of_getElem? (i := 1133) (by decide +kernel), List.mem_of_getElem? (i := 1581) (by decide +kernel), List.mem_of_getElem? (i := 1582) (by decide +kernel)⟩
theorem lw_p99 : lw_okq (⟨"WhichBinModel", "wrongIn", "(I)I"⟩, 66) := ⟨⟨by decide +kernel, by decide +kernel⟩, List.mem_of_getElem? (i := 1133) (by decide +kernel), List.mem_of_getElem? (i := 1589) (by decide +kernel), List.mem_of_getElem? (i := 1590) (by decide +kernel)⟩
theorem lw_p100 : lw_okq (⟨"WhichBinModel", "isWrongIn", "(II)Z"⟩, 66) := ⟨⟨by decide +kernel, by decide +kernel⟩, List.mem_of_getElem? (i := 1133) (by decide +kernel), List.mem_of_getElem? (i := 1593) (by decide +kernel), List.mem_of_getElem? (i := 1594) (by decide +kernel)⟩
theorem lw_p101 : lw_okq (⟨"WhichBinModel", "keeps", "()V"⟩, 66) := ⟨⟨by decide +kernel, by decide +kernel⟩, List.mem_of_getElem? (i := 1133) (by decide +kernel), List.mem_of_getElem? (i := 1597) (by decide +kernel), List.mem_of_getElem? (i := 1598) (by decide +kernel)⟩
theorem lw_p102 : lw_okq (⟨"WhichBinModel", "swaps", "(II)V"⟩, 66) := ⟨⟨by decide +kernel, by decide +kernel⟩, List.mem_of_getElem? (i := 1133) (by decide +kernel), List.mem_of_getElem? (i := 1609) (by decide +kernel), List.mem_of_getElem? (i := 1610) (by decide +kernel)⟩
theorem lw_p103 : lw_okq (⟨"WhichBinModel", "lays", "()V"⟩, 66) := ⟨⟨by decide +kernel, by decide +kernel⟩, List.mem_of_getElem? (i := 1133) (by decide +kernel), List.mem_of_getElem? (i := 1628) (by decide +kernel), List.mem_of_getElem? (i := 1629) (by decide +kernel)⟩
theorem lw_p104 : lw_okq (⟨"WhichBinModel", "setsAhead", "(I)V"⟩, 66) := ⟨⟨by decide +kernel, by decide +kernel⟩, List.mem_of_getElem? (i := 1133) (by decide +kernel), List.mem_of_getElem? (i := 1632) (by decide +kernel), List.mem_of_getElem? (i := 1633) (by decide +kernel)⟩
theorem lw_p105 : lw_okq (⟨"WhichBinModel", "chanceOf", "(I)I"⟩, 66) := ⟨⟨by decide +kernel, by decide +kernel⟩, List.mem_of_getElem? (i := 1133) (by decide +kernel), List.mem_of_getElem? (i := 1640) (by decide +kernel), List.mem_of_getElem? (i := 1641) (by decide +kernel)⟩
theorem lw_p106 : lw_okq (⟨"WhichBinModel", "allWeight", "()I"⟩, 66) := ⟨⟨by decide +kernel, by decide +kernel⟩, List.mem_of_getElem? (i := 1133) (by decide +kernel), List.mem_of_getElem? (i := 1644) (by decide +kernel), List.mem_of_getElem? (i := 1645) (by decide +kernel)⟩
theorem lw_p107 : lw_okq (⟨"WhichBinModel", "meanNow", "()I"⟩, 66) := ⟨⟨by decide +kernel, by decide +kernel⟩, List.mem_of_getElem? (i := 1133) (by decide +kernel), List.mem_of_getElem? (i := 1662) (by decide +kernel), List.mem_of_getElem? (i := 1663) (by decide +kernel)⟩
theorem lw_p108 : lw_okq (⟨"WhichBinModel", "bestLeaflets", "(I)I"⟩, 66) := ⟨⟨by decide +kernel, by decide +kernel⟩, List.mem_of_getElem? (i := 1133) (by decide +kernel), List.mem_of_getElem? (i := 1682) (by decide +kernel), List.mem_of_getElem? (i := 1683) (by decide +kernel)⟩
theorem lw_p109 : lw_okq (⟨"WhichBinModel", "allHouses", "()I"⟩, 66) := ⟨⟨by decide +kernel, by decide +kernel⟩, List.mem_of_getElem? (i := 1133) (by decide +kernel), List.mem_of_getElem? (i := 1686) (by decide +kernel), List.mem_of_getElem? (i := 1687) (by decide +kernel)⟩
theorem lw_p110 : lw_okq (⟨"WhichBinModel", "meanWith", "(I)I"⟩, 66) := ⟨⟨by decide +kernel, by decide +kernel⟩, List.mem_of_getElem? (i := 1133) (by decide +kernel), List.mem_of_getElem? (i := 1693) (by decide +kernel), List.mem_of_getElem? (i := 1694) (by decide +kernel)⟩
theorem lw_p111 : lw_okq (⟨"WhichBinModel", "meanFrom", "(I)I"⟩, 66) := ⟨⟨by decide +kernel, by decide +kernel⟩, List.mem_of_getElem? (i := 1133) (by decide +kernel), List.mem_of_getElem? (i := 1713) (by decide +kernel), List.mem_of_getElem? (i := 1714) (by decide +kernel)⟩
def lw_privs_7 : List (MethodName × Nat) := [(⟨"WhichBinModel", "nightGoes", "()V"⟩, 66), (⟨"WhichBinModel", "worldNow", "()I"⟩, 66), (⟨"WhichBinModel", "lotOf", "(I)I"⟩, 66), (⟨"WhichBinModel", "wrongIn", "(I)I"⟩, 66), (⟨"WhichBinModel", "isWrongIn", "(II)Z"⟩, 66), (⟨"WhichBinModel", "keeps", "()V"⟩, 66), (⟨"WhichBinModel", "swaps", "(II)V"⟩, 66), (⟨"WhichBinModel", "lays", "()V"⟩, 66), (⟨"WhichBinModel", "setsAhead", "(I)V"⟩, 66), (⟨"WhichBinModel", "chanceOf", "(I)I"⟩, 66), (⟨"WhichBinModel", "allWeight", "()I"⟩, 66), (⟨"WhichBinModel", "meanNow", "()I"⟩, 66), (⟨"WhichBinModel", "bestLeaflets", "(I)I"⟩, 66), (⟨"WhichBinModel", "allHouses", "()I"⟩, 66), (⟨"WhichBinModel", "meanWith", "(I)I"⟩, 66), (⟨"WhichBinModel", "meanFrom", "(I)I"⟩, 66)]
theorem lw_r7 : ∀ q ∈ lw_privs_7, lw_okq q := List.forall_mem_cons.mpr ⟨lw_p96, List.forall_mem_cons.mpr ⟨lw_p97, List.forall_mem_cons.mpr ⟨lw_p98, List.forall_mem_cons.mpr ⟨lw_p99, List.forall_mem_cons.mpr ⟨lw_p100, List.forall_mem_cons.mpr ⟨lw_p101, List.forall_mem_cons.mpr ⟨lw_p102, List.forall_mem_cons.mpr ⟨lw_p103, List.forall_mem_cons.mpr ⟨lw_p104, List.forall_mem_cons.mpr ⟨lw_p105, List.forall_mem_cons.mpr ⟨lw_p106, List.forall_mem_cons.mpr ⟨lw_p107, List.forall_mem_cons.mpr ⟨lw_p108, List.forall_mem_cons.mpr ⟨lw_p109, List.forall_mem_cons.mpr ⟨lw_p110, List.forall_mem_cons.mpr ⟨lw_p111, fun _ h => absurd h List.not_mem_nil⟩⟩⟩⟩⟩⟩⟩⟩⟩⟩⟩⟩⟩⟩⟩⟩
theorem lw_p112 : lw_okq (⟨"WhichBinModel", "chanceNow", "(I)I"⟩, 66) := ⟨⟨by decide +kernel, by decide +kernel⟩, List.mem_of_getElem? (i := 1133) (by decide +kernel), List.mem_of_getElem? (i := 1729) (by decide +kernel), List.mem_of_getElem? (i := 1730) (by decide +kernel)⟩
theorem lw_p113 : lw_okq (⟨"WhichBinModel", "fillsChances", "()V"⟩, 66) := ⟨⟨by decide +kernel, by decide +kernel⟩, List.mem_of_getElem? (i := 1133) (by decide +kernel), List.mem_of_getElem? (i := 1737) (by decide +kernel), List.mem_of_getElem? (i := 1738) (by decide +kernel)⟩
theorem lw_p114 : lw_okq (⟨"WhichBinModel", "isResting", "(I)Z"⟩, 66) := ⟨⟨by decide +kernel, by decide +kernel⟩, List.mem_of_getElem? (i := 1133) (by decide +kernel), List.mem_of_getElem? (i := 1741) (by decide +kernel), List.mem_of_getElem? (i := 1742) (by decide +kernel)⟩
theorem lw_p115 : lw_okq (⟨"WhichBinModel", "looksOver", "()Z"⟩, 66) := ⟨⟨by decide +kernel, by decide +kernel⟩, List.mem_of_getElem? (i := 1133) (by decide +kernel), List.mem_of_getElem? (i := 1749) (by decide +kernel), List.mem_of_getElem? (i := 1750) (by decide +kernel)⟩
theorem lw_p116 : lw_okq (⟨"WhichBinModel", "putBy", "(II)I"⟩, 66) := ⟨⟨by decide +kernel, by decide +kernel⟩, List.mem_of_getElem? (i := 1133) (by decide +kernel), List.mem_of_getElem? (i := 1769) (by decide +kernel), List.mem_of_getElem? (i := 1770) (by decide +kernel)⟩
def lw_privs_8 : List (MethodName × Nat) := [(⟨"WhichBinModel", "chanceNow", "(I)I"⟩, 66), (⟨"WhichBinModel", "fillsChances", "()V"⟩, 66), (⟨"WhichBinModel", "isResting", "(I)Z"⟩, 66), (⟨"WhichBinModel", "looksOver", "()Z"⟩, 66), (⟨"WhichBinModel", "putBy", "(II)I"⟩, 66)]
theorem lw_r8 : ∀ q ∈ lw_privs_8, lw_okq q := List.forall_mem_cons.mpr ⟨lw_p112, List.forall_mem_cons.mpr ⟨lw_p113, List.forall_mem_cons.mpr ⟨lw_p114, List.forall_mem_cons.mpr ⟨lw_p115, List.forall_mem_cons.mpr ⟨lw_p116, fun _ h => absurd h List.not_mem_nil⟩⟩⟩⟩⟩
def lw_privs : List (MethodName × Nat) := lw_privs_1 ++ (lw_privs_2 ++ (lw_privs_3 ++ (lw_privs_4 ++ (lw_privs_5 ++ (lw_privs_6 ++ (lw_privs_7 ++ (lw_privs_8)))))))
def lw_tbl : List Cond := k2_sels lw_privs ++ tables_1
theorem lw_privs_ok : ∀ q ∈ lw_privs, lw_okq q := by
  show ∀ q ∈ lw_privs_1 ++ (lw_privs_2 ++ (lw_privs_3 ++ (lw_privs_4 ++ (lw_privs_5 ++ (lw_privs_6 ++ (lw_privs_7 ++ (lw_privs_8))))))), lw_okq q
  exact List.forall_mem_append.mpr ⟨lw_r1, List.forall_mem_append.mpr ⟨lw_r2, List.forall_mem_append.mpr ⟨lw_r3, List.forall_mem_append.mpr ⟨lw_r4, List.forall_mem_append.mpr ⟨lw_r5, List.forall_mem_append.mpr ⟨lw_r6, List.forall_mem_append.mpr ⟨lw_r7, lw_r8⟩⟩⟩⟩⟩⟩⟩
end
section
/-! Names, field tables, method table, code lists, tags: written by wip/whole/gen1.py out of the Statement. -/
def wb_C0 : String := "WhichBin$Diary"
def wb_T0 : u_T := fun k => match k with
  | 0 => ("WhichBin$Diary", "houses", "[I", true)
  | 1 => ("WhichBin$Diary", "more", "[I", true)
  | 2 => ("WhichBin$Diary", "signs", "[Z", true)
  | 3 => ("WhichBin$Diary", "leads", "[Z", true)
  | 4 => ("WhichBin$Diary", "brown", "[Z", true)
  | _ => ("WhichBin$Diary", "count", "I", false)
def wb_Y0 : Nat → FieldType := fun k => match k with
  | 0 => .array .int
  | 1 => .array .int
  | 2 => .array .boolean
  | 3 => .array .boolean
  | 4 => .array .boolean
  | _ => .int
theorem wb_nm0 : ∀ a, a < 6 → ∀ b, b < 6 → a ≠ b → (wb_T0 a).2.1 ≠ (wb_T0 b).2.1 := by decide +kernel
theorem wb_ty0 : ∀ k, k < 6 → parseFieldDescriptor (wb_T0 k).2.2.1 = some (wb_Y0 k) := by decide +kernel
theorem wb_in0 : ∀ w ∈ u_ws wb_C0 wb_T0 6, w ∈ lw_tbl := by decide +kernel
def wb_C1 : String := "WhichBin$Evening"
def wb_T1 : u_T := fun k => match k with
  | 0 => ("WhichBin$Evening", "plan", "LWhichBin$Plan;", false)
  | 1 => ("WhichBin$Evening", "houses", "I", false)
  | 2 => ("WhichBin$Evening", "houseAt", "[I", true)
  | 3 => ("WhichBin$Evening", "placeOf", "[I", true)
  | 4 => ("WhichBin$Evening", "sure", "[I", true)
  | 5 => ("WhichBin$Evening", "habits", "[I", true)
  | 6 => ("WhichBin$Evening", "seenAt", "[I", true)
  | 7 => ("WhichBin$Evening", "brown", "[I", true)
  | 8 => ("WhichBin$Evening", "blue", "[I", true)
  | 9 => ("WhichBin$Evening", "seenIfBrown", "[I", true)
  | 10 => ("WhichBin$Evening", "seenIfBlue", "[I", true)
  | 11 => ("WhichBin$Evening", "wrong", "[I", true)
  | 12 => ("WhichBin$Evening", "bothOut", "I", false)
  | 13 => ("WhichBin$Evening", "nightIsBrown", "Z", false)
  | 14 => ("WhichBin$Evening", "nightBins", "[I", true)
  | 15 => ("WhichBin$Evening", "nightSigns", "[I", true)
  | 16 => ("WhichBin$Evening", "nightWrongs", "I", false)
  | _ => ("WhichBin$Evening", "nightPaid", "I", false)
def wb_Y1 : Nat → FieldType := fun k => match k with
  | 0 => .object "WhichBin$Plan"
  | 1 => .int
  | 2 => .array .int
  | 3 => .array .int
  | 4 => .array .int
  | 5 => .array .int
  | 6 => .array .int
  | 7 => .array .int
  | 8 => .array .int
  | 9 => .array .int
  | 10 => .array .int
  | 11 => .array .int
  | 12 => .int
  | 13 => .boolean
  | 14 => .array .int
  | 15 => .array .int
  | 16 => .int
  | _ => .int
theorem wb_nm1 : ∀ a, a < 18 → ∀ b, b < 18 → a ≠ b → (wb_T1 a).2.1 ≠ (wb_T1 b).2.1 := by decide +kernel
theorem wb_ty1 : ∀ k, k < 18 → parseFieldDescriptor (wb_T1 k).2.2.1 = some (wb_Y1 k) := by decide +kernel
theorem wb_in1 : ∀ w ∈ u_ws wb_C1 wb_T1 18, w ∈ lw_tbl := by decide +kernel
def wb_C2 : String := "WhichBin$Fence"
def wb_T2 : u_T := fun k => match k with
  | 0 => ("WhichBin$Fence", "before", "[I", true)
  | 1 => ("WhichBin$Fence", "after", "[I", true)
  | 2 => ("WhichBin$Fence", "rounds", "I", false)
  | _ => ("WhichBin$Fence", "row", "I", false)
def wb_Y2 : Nat → FieldType := fun k => match k with
  | 0 => .array .int
  | 1 => .array .int
  | 2 => .int
  | _ => .int
theorem wb_nm2 : ∀ a, a < 4 → ∀ b, b < 4 → a ≠ b → (wb_T2 a).2.1 ≠ (wb_T2 b).2.1 := by decide +kernel
theorem wb_ty2 : ∀ k, k < 4 → parseFieldDescriptor (wb_T2 k).2.2.1 = some (wb_Y2 k) := by decide +kernel
theorem wb_in2 : ∀ w ∈ u_ws wb_C2 wb_T2 4, w ∈ lw_tbl := by decide +kernel
def wb_C3 : String := "WhichBin$Laws"
def wb_T3 : u_T := fun k => match k with
  | 0 => ("WhichBin$Laws", "steps", "[I", true)
  | 1 => ("WhichBin$Laws", "numbers", "[I", true)
  | 2 => ("WhichBin$Laws", "starts", "[I", true)
  | 3 => ("WhichBin$Laws", "looked", "[I", true)
  | 4 => ("WhichBin$Laws", "stack", "[I", true)
  | 5 => ("WhichBin$Laws", "bins", "[B", true)
  | _ => ("WhichBin$Laws", "size", "I", false)
def wb_Y3 : Nat → FieldType := fun k => match k with
  | 0 => .array .int
  | 1 => .array .int
  | 2 => .array .int
  | 3 => .array .int
  | 4 => .array .int
  | 5 => .array .byte
  | _ => .int
theorem wb_nm3 : ∀ a, a < 7 → ∀ b, b < 7 → a ≠ b → (wb_T3 a).2.1 ≠ (wb_T3 b).2.1 := by decide +kernel
theorem wb_ty3 : ∀ k, k < 7 → parseFieldDescriptor (wb_T3 k).2.2.1 = some (wb_Y3 k) := by decide +kernel
theorem wb_in3 : ∀ w ∈ u_ws wb_C3 wb_T3 7, w ∈ lw_tbl := by decide +kernel
def wb_C4 : String := "WhichBin$Past"
def wb_T4 : u_T := fun k => match k with
  | 0 => ("WhichBin$Past", "ring", "[LWhichBin$Standing;", true)
  | 1 => ("WhichBin$Past", "next", "I", false)
  | _ => ("WhichBin$Past", "count", "I", false)
def wb_Y4 : Nat → FieldType := fun k => match k with
  | 0 => .array (.object "WhichBin$Standing")
  | 1 => .int
  | _ => .int
theorem wb_nm4 : ∀ a, a < 3 → ∀ b, b < 3 → a ≠ b → (wb_T4 a).2.1 ≠ (wb_T4 b).2.1 := by decide +kernel
theorem wb_ty4 : ∀ k, k < 3 → parseFieldDescriptor (wb_T4 k).2.2.1 = some (wb_Y4 k) := by decide +kernel
theorem wb_in4 : ∀ w ∈ u_ws wb_C4 wb_T4 3, w ∈ lw_tbl := by decide +kernel
def wb_C5 : String := "WhichBin$Plan"
def wb_T5 : u_T := fun k => match k with
  | 0 => ("WhichBin$Plan", "houses", "I", false)
  | 1 => ("WhichBin$Plan", "names", "[J", true)
  | 2 => ("WhichBin$Plan", "sure", "[I", true)
  | 3 => ("WhichBin$Plan", "sees", "[I", true)
  | 4 => ("WhichBin$Plan", "habits", "[I", true)
  | 5 => ("WhichBin$Plan", "models", "[I", true)
  | 6 => ("WhichBin$Plan", "laws", "LWhichBin$Laws;", true)
  | 7 => ("WhichBin$Plan", "brown", "I", false)
  | 8 => ("WhichBin$Plan", "fine", "I", false)
  | 9 => ("WhichBin$Plan", "both", "I", false)
  | 10 => ("WhichBin$Plan", "leaflet", "I", false)
  | _ => ("WhichBin$Plan", "seed", "I", false)
def wb_Y5 : Nat → FieldType := fun k => match k with
  | 0 => .int
  | 1 => .array .long
  | 2 => .array .int
  | 3 => .array .int
  | 4 => .array .int
  | 5 => .array .int
  | 6 => .object "WhichBin$Laws"
  | 7 => .int
  | 8 => .int
  | 9 => .int
  | 10 => .int
  | _ => .int
theorem wb_nm5 : ∀ a, a < 12 → ∀ b, b < 12 → a ≠ b → (wb_T5 a).2.1 ≠ (wb_T5 b).2.1 := by decide +kernel
theorem wb_ty5 : ∀ k, k < 12 → parseFieldDescriptor (wb_T5 k).2.2.1 = some (wb_Y5 k) := by decide +kernel
theorem wb_in5 : ∀ w ∈ u_ws wb_C5 wb_T5 12, w ∈ lw_tbl := by decide +kernel
def wb_C6 : String := "WhichBin$Reader"
def wb_T6 : u_T := fun k => match k with
  | 0 => ("WhichBin$Reader", "tokens", "LWhichBin$Tokens;", true)
  | 1 => ("WhichBin$Reader", "waiting", "[I", true)
  | 2 => ("WhichBin$Reader", "plan", "LWhichBin$Plan;", false)
  | 3 => ("WhichBin$Reader", "at", "I", false)
  | 4 => ("WhichBin$Reader", "kind", "I", false)
  | 5 => ("WhichBin$Reader", "waitingCount", "I", false)
  | 6 => ("WhichBin$Reader", "laterFault", "I", false)
  | 7 => ("WhichBin$Reader", "laterPlace", "I", false)
  | 8 => ("WhichBin$Reader", "fault", "I", false)
  | _ => ("WhichBin$Reader", "faultPlace", "I", false)
def wb_Y6 : Nat → FieldType := fun k => match k with
  | 0 => .object "WhichBin$Tokens"
  | 1 => .array .int
  | 2 => .object "WhichBin$Plan"
  | 3 => .int
  | 4 => .int
  | 5 => .int
  | 6 => .int
  | 7 => .int
  | 8 => .int
  | _ => .int
theorem wb_nm6 : ∀ a, a < 10 → ∀ b, b < 10 → a ≠ b → (wb_T6 a).2.1 ≠ (wb_T6 b).2.1 := by decide +kernel
theorem wb_ty6 : ∀ k, k < 10 → parseFieldDescriptor (wb_T6 k).2.2.1 = some (wb_Y6 k) := by decide +kernel
theorem wb_in6 : ∀ w ∈ u_ws wb_C6 wb_T6 10, w ∈ lw_tbl := by decide +kernel
def wb_C7 : String := "WhichBin$Standing"
def wb_T7 : u_T := fun k => match k with
  | 0 => ("WhichBin$Standing", "ofHouses", "[I", true)
  | 1 => ("WhichBin$Standing", "night", "I", false)
  | 2 => ("WhichBin$Standing", "leaflets", "I", false)
  | 3 => ("WhichBin$Standing", "coins", "I", false)
  | 4 => ("WhichBin$Standing", "wrongs", "I", false)
  | 5 => ("WhichBin$Standing", "lastBrown", "Z", false)
  | 6 => ("WhichBin$Standing", "lastWrong", "I", false)
  | _ => ("WhichBin$Standing", "lastPaid", "I", false)
def wb_Y7 : Nat → FieldType := fun k => match k with
  | 0 => .array .int
  | 1 => .int
  | 2 => .int
  | 3 => .int
  | 4 => .int
  | 5 => .boolean
  | 6 => .int
  | _ => .int
theorem wb_nm7 : ∀ a, a < 8 → ∀ b, b < 8 → a ≠ b → (wb_T7 a).2.1 ≠ (wb_T7 b).2.1 := by decide +kernel
theorem wb_ty7 : ∀ k, k < 8 → parseFieldDescriptor (wb_T7 k).2.2.1 = some (wb_Y7 k) := by decide +kernel
theorem wb_in7 : ∀ w ∈ u_ws wb_C7 wb_T7 8, w ∈ lw_tbl := by decide +kernel
def wb_C8 : String := "WhichBin$Tape"
def wb_T8 : u_T := fun k => match k with
  | 0 => ("WhichBin$Tape", "bytes", "[B", true)
  | _ => ("WhichBin$Tape", "length", "I", false)
def wb_Y8 : Nat → FieldType := fun k => match k with
  | 0 => .array .byte
  | _ => .int
theorem wb_nm8 : ∀ a, a < 2 → ∀ b, b < 2 → a ≠ b → (wb_T8 a).2.1 ≠ (wb_T8 b).2.1 := by decide +kernel
theorem wb_ty8 : ∀ k, k < 2 → parseFieldDescriptor (wb_T8 k).2.2.1 = some (wb_Y8 k) := by decide +kernel
theorem wb_in8 : ∀ w ∈ u_ws wb_C8 wb_T8 2, w ∈ lw_tbl := by decide +kernel
def wb_C9 : String := "WhichBin$Tokens"
def wb_T9 : u_T := fun k => match k with
  | 0 => ("WhichBin$Tokens", "words", "[J", true)
  | 1 => ("WhichBin$Tokens", "kinds", "[I", true)
  | 2 => ("WhichBin$Tokens", "starts", "[I", true)
  | 3 => ("WhichBin$Tokens", "values", "[J", true)
  | _ => ("WhichBin$Tokens", "size", "I", false)
def wb_Y9 : Nat → FieldType := fun k => match k with
  | 0 => .array .long
  | 1 => .array .int
  | 2 => .array .int
  | 3 => .array .long
  | _ => .int
theorem wb_nm9 : ∀ a, a < 5 → ∀ b, b < 5 → a ≠ b → (wb_T9 a).2.1 ≠ (wb_T9 b).2.1 := by decide +kernel
theorem wb_ty9 : ∀ k, k < 5 → parseFieldDescriptor (wb_T9 k).2.2.1 = some (wb_Y9 k) := by decide +kernel
theorem wb_in9 : ∀ w ∈ u_ws wb_C9 wb_T9 5, w ∈ lw_tbl := by decide +kernel
def wb_C10 : String := "WhichBin"
def wb_T10 : u_T := fun k => match k with
  | 0 => ("WhichBin", "tape", "LWhichBin$Tape;", true)
  | 1 => ("WhichBin", "reader", "LWhichBin$Reader;", true)
  | 2 => ("WhichBin", "plan", "LWhichBin$Plan;", false)
  | 3 => ("WhichBin", "sparePlan", "LWhichBin$Plan;", false)
  | 4 => ("WhichBin", "now", "LWhichBin$Standing;", true)
  | 5 => ("WhichBin", "past", "LWhichBin$Past;", true)
  | 6 => ("WhichBin", "slots", "[LWhichBin$Standing;", true)
  | 7 => ("WhichBin", "held", "[Z", true)
  | 8 => ("WhichBin", "diary", "LWhichBin$Diary;", true)
  | 9 => ("WhichBin", "evening", "LWhichBin$Evening;", true)
  | 10 => ("WhichBin", "fence", "LWhichBin$Fence;", true)
  | 11 => ("WhichBin", "means", "[I", true)
  | 12 => ("WhichBin", "chances", "[I", true)
  | 13 => ("WhichBin", "restingSets", "[I", true)
  | 14 => ("WhichBin", "restingCount", "I", false)
  | _ => ("WhichBin", "eveningIsNow", "Z", false)
def wb_Y10 : Nat → FieldType := fun k => match k with
  | 0 => .object "WhichBin$Tape"
  | 1 => .object "WhichBin$Reader"
  | 2 => .object "WhichBin$Plan"
  | 3 => .object "WhichBin$Plan"
  | 4 => .object "WhichBin$Standing"
  | 5 => .object "WhichBin$Past"
  | 6 => .array (.object "WhichBin$Standing")
  | 7 => .array .boolean
  | 8 => .object "WhichBin$Diary"
  | 9 => .object "WhichBin$Evening"
  | 10 => .object "WhichBin$Fence"
  | 11 => .array .int
  | 12 => .array .int
  | 13 => .array .int
  | 14 => .int
  | _ => .boolean
theorem wb_nm10 : ∀ a, a < 16 → ∀ b, b < 16 → a ≠ b → (wb_T10 a).2.1 ≠ (wb_T10 b).2.1 := by decide +kernel
theorem wb_ty10 : ∀ k, k < 16 → parseFieldDescriptor (wb_T10 k).2.2.1 = some (wb_Y10 k) := by decide +kernel
theorem wb_in10 : ∀ w ∈ u_ws wb_C10 wb_T10 16, w ∈ lw_tbl := by decide +kernel
def wb_C11 : String := "WhichBinModel"
def wb_T11 : u_T := fun k => match k with
  | 0 => ("WhichBinModel", "thrown", "I", false)
  | 1 => ("WhichBinModel", "tape", "[B", true)
  | 2 => ("WhichBinModel", "taped", "I", false)
  | 3 => ("WhichBinModel", "text", "[B", true)
  | 4 => ("WhichBinModel", "size", "I", false)
  | 5 => ("WhichBinModel", "tKind", "[I", true)
  | 6 => ("WhichBinModel", "tPlace", "[I", true)
  | 7 => ("WhichBinModel", "tValue", "[I", true)
  | 8 => ("WhichBinModel", "tName", "[J", true)
  | 9 => ("WhichBinModel", "keys", "[J", true)
  | 10 => ("WhichBinModel", "tokens", "I", false)
  | 11 => ("WhichBinModel", "t", "I", false)
  | 12 => ("WhichBinModel", "open", "I", false)
  | 13 => ("WhichBinModel", "fault", "I", false)
  | 14 => ("WhichBinModel", "faultPlace", "I", false)
  | 15 => ("WhichBinModel", "worst", "I", false)
  | 16 => ("WhichBinModel", "worstPlace", "I", false)
  | 17 => ("WhichBinModel", "place", "I", false)
  | 18 => ("WhichBinModel", "live", "I", false)
  | 19 => ("WhichBinModel", "side", "I", false)
  | 20 => ("WhichBinModel", "nameOf", "[J", true)
  | 21 => ("WhichBinModel", "houses", "[I", true)
  | 22 => ("WhichBinModel", "sureOf", "[I", true)
  | 23 => ("WhichBinModel", "seesOf", "[I", true)
  | 24 => ("WhichBinModel", "habitTold", "[I", true)
  | 25 => ("WhichBinModel", "asWhom", "[I", true)
  | 26 => ("WhichBinModel", "lawFirst", "[I", true)
  | 27 => ("WhichBinModel", "lawLast", "[I", true)
  | 28 => ("WhichBinModel", "brown", "[I", true)
  | 29 => ("WhichBinModel", "fine", "[I", true)
  | 30 => ("WhichBinModel", "both", "[I", true)
  | 31 => ("WhichBinModel", "price", "[I", true)
  | 32 => ("WhichBinModel", "seed", "[I", true)
  | 33 => ("WhichBinModel", "branches", "I", false)
  | 34 => ("WhichBinModel", "hasTest", "[Z", true)
  | 35 => ("WhichBinModel", "testFrom", "[I", true)
  | 36 => ("WhichBinModel", "testMid", "[I", true)
  | 37 => ("WhichBinModel", "testTo", "[I", true)
  | 38 => ("WhichBinModel", "termTo", "[I", true)
  | 39 => ("WhichBinModel", "codes", "I", false)
  | 40 => ("WhichBinModel", "code", "[I", true)
  | 41 => ("WhichBinModel", "codeInt", "[I", true)
  | 42 => ("WhichBinModel", "waits", "[I", true)
  | 43 => ("WhichBinModel", "waiting", "I", false)
  | 44 => ("WhichBinModel", "variables", "[I", true)
  | 45 => ("WhichBinModel", "pile", "[I", true)
  | 46 => ("WhichBinModel", "isBroken", "Z", false)
  | 47 => ("WhichBinModel", "now", "[I", true)
  | 48 => ("WhichBinModel", "row", "[I", true)
  | 49 => ("WhichBinModel", "lots", "I", false)
  | 50 => ("WhichBinModel", "round", "I", false)
  | 51 => ("WhichBinModel", "out", "[I", true)
  | 52 => ("WhichBinModel", "weights", "[I", true)
  | 53 => ("WhichBinModel", "ahead", "[I", true)
  | 54 => ("WhichBinModel", "undos", "I", false)
  | 55 => ("WhichBinModel", "history", "[I", true)
  | 56 => ("WhichBinModel", "chanceBy", "[I", true)
  | 57 => ("WhichBinModel", "fenceNow", "[I", true)
  | 58 => ("WhichBinModel", "fenceThen", "[I", true)
  | 59 => ("WhichBinModel", "told", "I", false)
  | 60 => ("WhichBinModel", "toldHouse", "[I", true)
  | 61 => ("WhichBinModel", "toldBrowns", "[I", true)
  | 62 => ("WhichBinModel", "toldBlues", "[I", true)
  | 63 => ("WhichBinModel", "toldBits", "[I", true)
  | 64 => ("WhichBinModel", "isHeld", "[Z", true)
  | _ => ("WhichBinModel", "heldRows", "[I", true)
def wb_Y11 : Nat → FieldType := fun k => match k with
  | 0 => .int
  | 1 => .array .byte
  | 2 => .int
  | 3 => .array .byte
  | 4 => .int
  | 5 => .array .int
  | 6 => .array .int
  | 7 => .array .int
  | 8 => .array .long
  | 9 => .array .long
  | 10 => .int
  | 11 => .int
  | 12 => .int
  | 13 => .int
  | 14 => .int
  | 15 => .int
  | 16 => .int
  | 17 => .int
  | 18 => .int
  | 19 => .int
  | 20 => .array .long
  | 21 => .array .int
  | 22 => .array .int
  | 23 => .array .int
  | 24 => .array .int
  | 25 => .array .int
  | 26 => .array .int
  | 27 => .array .int
  | 28 => .array .int
  | 29 => .array .int
  | 30 => .array .int
  | 31 => .array .int
  | 32 => .array .int
  | 33 => .int
  | 34 => .array .boolean
  | 35 => .array .int
  | 36 => .array .int
  | 37 => .array .int
  | 38 => .array .int
  | 39 => .int
  | 40 => .array .int
  | 41 => .array .int
  | 42 => .array .int
  | 43 => .int
  | 44 => .array .int
  | 45 => .array .int
  | 46 => .boolean
  | 47 => .array .int
  | 48 => .array .int
  | 49 => .int
  | 50 => .int
  | 51 => .array .int
  | 52 => .array .int
  | 53 => .array .int
  | 54 => .int
  | 55 => .array .int
  | 56 => .array .int
  | 57 => .array .int
  | 58 => .array .int
  | 59 => .int
  | 60 => .array .int
  | 61 => .array .int
  | 62 => .array .int
  | 63 => .array .int
  | 64 => .array .boolean
  | _ => .array .int
theorem wb_nm11 : ∀ a, a < 66 → ∀ b, b < 66 → a ≠ b → (wb_T11 a).2.1 ≠ (wb_T11 b).2.1 := by decide +kernel
theorem wb_ty11 : ∀ k, k < 66 → parseFieldDescriptor (wb_T11 k).2.2.1 = some (wb_Y11 k) := by decide +kernel
theorem wb_in11 : ∀ w ∈ u_ws wb_C11 wb_T11 66, w ∈ lw_tbl := by decide +kernel
abbrev wb_cls : List vw_C := [(wb_C0, wb_T0, 6), (wb_C1, wb_T1, 18), (wb_C2, wb_T2, 4), (wb_C3, wb_T3, 7), (wb_C4, wb_T4, 3), (wb_C5, wb_T5, 12), (wb_C6, wb_T6, 10), (wb_C7, wb_T7, 8), (wb_C8, wb_T8, 2), (wb_C9, wb_T9, 5), (wb_C10, wb_T10, 16), (wb_C11, wb_T11, 66)]
abbrev wb_I : Type := MethodName × ByteArray × Nat × Option FieldType × Nat × Nat × Nat × Nat
def wb_ml0 : List wb_I := [((⟨"", "", ""⟩ : MethodName), ⟨#[]⟩, 0, none, 0, 0, 0, 0),
 ((⟨"", "", ""⟩ : MethodName), ⟨#[]⟩, 0, none, 0, 0, 0, 0),
 ((⟨"WhichBin$Diary", "<init>", "()V"⟩ : MethodName), prog_2_method_1_code, 1, (none : Option FieldType), 1, 20, 5, 100),
 ((⟨"WhichBin$Diary", "clear", "()V"⟩ : MethodName), prog_2_method_2_code, 1, (none : Option FieldType), 0, 0, 0, 0),
 ((⟨"WhichBin$Diary", "add", "(IIIZZZ)I"⟩ : MethodName), prog_2_method_3_code, 7, (some .int : Option FieldType), 0, 0, 0, 0),
 ((⟨"WhichBin$Diary", "habitsThatFit", "(II)I"⟩ : MethodName), prog_2_method_4_code, 5, (some .int : Option FieldType), 2, 46, 0, 0),
 ((⟨"WhichBin$Diary", "allFit", "(III)Z"⟩ : MethodName), prog_2_method_5_code, 5, (some .boolean : Option FieldType), 1, 22, 0, 0),
 ((⟨"WhichBin$Diary", "isBrownBy", "(II)Z"⟩ : MethodName), prog_2_method_6_code, 3, (some .boolean : Option FieldType), 0, 0, 0, 0),
 ((⟨"WhichBin$Evening", "<init>", "()V"⟩ : MethodName), prog_3_method_1_code, 1, (none : Option FieldType), 1, 20, 12, 2962),
 ((⟨"WhichBin$Evening", "arrange", "(LWhichBin$Plan;LWhichBin$Standing;II)V"⟩ : MethodName), prog_3_method_2_code, 6, (none : Option FieldType), 2, 43, 0, 0),
 ((⟨"WhichBin$Evening", "changePlaces", "(II)V"⟩ : MethodName), prog_3_method_3_code, 4, (none : Option FieldType), 2, 43, 0, 0),
 ((⟨"WhichBin$Evening", "moveTo", "(II)V"⟩ : MethodName), prog_3_method_4_code, 3, (none : Option FieldType), 1, 21, 0, 0),
 ((⟨"WhichBin$Evening", "unfold", "(I)V"⟩ : MethodName), prog_3_method_5_code, 4, (none : Option FieldType), 5, 130, 0, 0),
 ((⟨"WhichBin$Evening", "putRight", "(I)V"⟩ : MethodName), prog_3_method_6_code, 6, (none : Option FieldType), 1, 23, 0, 0),
 ((⟨"WhichBin$Evening", "gatherSeen", "(I)V"⟩ : MethodName), prog_3_method_7_code, 5, (none : Option FieldType), 2, 46, 0, 0),
 ((⟨"WhichBin$Evening", "seenOf", "(II)I"⟩ : MethodName), prog_3_method_8_code, 3, (some .int : Option FieldType), 0, 0, 0, 0)]
def wb_ml1 : List wb_I := [((⟨"WhichBin$Evening", "spread", "(I)V"⟩ : MethodName), prog_3_method_9_code, 8, (none : Option FieldType), 4, 103, 0, 0),
 ((⟨"WhichBin$Evening", "lay", "(IIIII)V"⟩ : MethodName), prog_3_method_10_code, 8, (none : Option FieldType), 0, 0, 0, 0),
 ((⟨"WhichBin$Evening", "allWrong", "()I"⟩ : MethodName), prog_3_method_11_code, 3, (some .int : Option FieldType), 0, 0, 0, 0),
 ((⟨"WhichBin$Evening", "weightOfRow", "(IZ)I"⟩ : MethodName), prog_3_method_12_code, 4, (some .int : Option FieldType), 0, 0, 0, 0),
 ((⟨"WhichBin$Evening", "weightOfWrongs", "(I)I"⟩ : MethodName), prog_3_method_13_code, 4, (some .int : Option FieldType), 1, 25, 0, 0),
 ((⟨"WhichBin$Evening", "binsOf", "(III)I"⟩ : MethodName), prog_3_method_14_code, 6, (some .int : Option FieldType), 0, 0, 0, 0),
 ((⟨"WhichBin$Evening", "binAt", "(IZI)I"⟩ : MethodName), prog_3_method_15_code, 7, (some .int : Option FieldType), 3, 77, 0, 0),
 ((⟨"WhichBin$Evening", "oneBin", "(II)I"⟩ : MethodName), prog_3_method_16_code, 2, (some .int : Option FieldType), 0, 0, 0, 0),
 ((⟨"WhichBin$Evening", "binByMost", "(III)I"⟩ : MethodName), prog_3_method_17_code, 6, (some .int : Option FieldType), 1, 25, 0, 0),
 ((⟨"WhichBin$Evening", "binOfModel", "(III)I"⟩ : MethodName), prog_3_method_18_code, 5, (some .int : Option FieldType), 1, 21, 0, 0),
 ((⟨"WhichBin$Evening", "binByWorlds", "(III)I"⟩ : MethodName), prog_3_method_19_code, 8, (some .int : Option FieldType), 1, 22, 0, 0),
 ((⟨"WhichBin$Evening", "binByLaw", "(III)I"⟩ : MethodName), prog_3_method_20_code, 8, (some .int : Option FieldType), 2, 50, 0, 0),
 ((⟨"WhichBin$Evening", "goBy", "(II)V"⟩ : MethodName), prog_3_method_21_code, 8, (none : Option FieldType), 4, 103, 0, 0),
 ((⟨"WhichBin$Evening", "isWrong", "(I)Z"⟩ : MethodName), prog_3_method_22_code, 2, (some .boolean : Option FieldType), 0, 0, 0, 0),
 ((⟨"WhichBin$Evening", "lotOfTen", "(II)I"⟩ : MethodName), prog_3_method_23_code, 3, (some .int : Option FieldType), 1, 22, 0, 0),
 ((⟨"WhichBin$Evening", "stir", "(II)I"⟩ : MethodName), prog_3_method_24_code, 3, (some .int : Option FieldType), 0, 0, 0, 0)]
def wb_ml2 : List wb_I := [((⟨"WhichBin$Fence", "<init>", "()V"⟩ : MethodName), prog_4_method_1_code, 1, (none : Option FieldType), 1, 20, 2, 12),
 ((⟨"WhichBin$Fence", "settle", "(LWhichBin$Standing;I)V"⟩ : MethodName), prog_4_method_2_code, 4, (none : Option FieldType), 2, 84, 0, 0),
 ((⟨"WhichBin$Fence", "lookOver", "(I)Z"⟩ : MethodName), prog_4_method_3_code, 5, (some .boolean : Option FieldType), 1, 60, 0, 0),
 ((⟨"WhichBin$Laws", "<init>", "()V"⟩ : MethodName), prog_5_method_1_code, 1, (none : Option FieldType), 1, 20, 6, 2153),
 ((⟨"WhichBin$Laws", "clear", "()V"⟩ : MethodName), prog_5_method_2_code, 1, (none : Option FieldType), 0, 0, 0, 0),
 ((⟨"WhichBin$Laws", "begin", "(I)V"⟩ : MethodName), prog_5_method_3_code, 2, (none : Option FieldType), 0, 0, 0, 0),
 ((⟨"WhichBin$Laws", "emit", "(II)I"⟩ : MethodName), prog_5_method_4_code, 4, (some .int : Option FieldType), 0, 0, 0, 0),
 ((⟨"WhichBin$Laws", "aim", "(I)V"⟩ : MethodName), prog_5_method_5_code, 2, (none : Option FieldType), 0, 0, 0, 0),
 ((⟨"WhichBin$Laws", "bin", "(IIIII)I"⟩ : MethodName), prog_5_method_6_code, 6, (some .int : Option FieldType), 1, 25, 0, 0),
 ((⟨"WhichBin$Laws", "caseOf", "(IIIII)I"⟩ : MethodName), prog_5_method_7_code, 6, (some .int : Option FieldType), 0, 0, 0, 0),
 ((⟨"WhichBin$Laws", "reckonCases", "(LWhichBin$Plan;I)V"⟩ : MethodName), prog_5_method_8_code, 7, (none : Option FieldType), 3, 74, 0, 0),
 ((⟨"WhichBin$Laws", "reckonSigns", "(IIII)V"⟩ : MethodName), prog_5_method_9_code, 7, (none : Option FieldType), 2, 48, 0, 0),
 ((⟨"WhichBin$Laws", "run", "(I)I"⟩ : MethodName), prog_5_method_10_code, 7, (some .int : Option FieldType), 1, 22, 0, 0),
 ((⟨"WhichBin$Laws", "reckon", "(III)I"⟩ : MethodName), prog_5_method_11_code, 3, (some .int : Option FieldType), 0, 0, 0, 0),
 ((⟨"WhichBin$Past", "<init>", "()V"⟩ : MethodName), prog_6_method_1_code, 2, (none : Option FieldType), 2, 40, 81, 1560),
 ((⟨"WhichBin$Past", "clear", "()V"⟩ : MethodName), prog_6_method_2_code, 1, (none : Option FieldType), 0, 0, 0, 0)]
def wb_ml3 : List wb_I := [((⟨"WhichBin$Past", "remember", "(LWhichBin$Standing;)V"⟩ : MethodName), prog_6_method_3_code, 2, (none : Option FieldType), 2, 81, 0, 0),
 ((⟨"WhichBin$Past", "recall", "(LWhichBin$Standing;)Z"⟩ : MethodName), prog_6_method_4_code, 2, (some .boolean : Option FieldType), 2, 81, 0, 0),
 ((⟨"WhichBin$Plan", "<init>", "()V"⟩ : MethodName), prog_7_method_1_code, 1, (none : Option FieldType), 2, 40, 12, 2190),
 ((⟨"WhichBin$Plan", "clear", "()V"⟩ : MethodName), prog_7_method_2_code, 1, (none : Option FieldType), 1, 20, 0, 0),
 ((⟨"WhichBin$Plan", "find", "(J)I"⟩ : MethodName), prog_7_method_3_code, 4, (some .int : Option FieldType), 0, 0, 0, 0),
 ((⟨"WhichBin$Plan", "reckonLaws", "()V"⟩ : MethodName), prog_7_method_4_code, 2, (none : Option FieldType), 4, 100, 0, 0),
 ((⟨"WhichBin$Plan", "sureOf", "(IZ)I"⟩ : MethodName), prog_7_method_5_code, 3, (some .int : Option FieldType), 0, 0, 0, 0),
 ((⟨"WhichBin$Plan", "habitOf", "(IZI)I"⟩ : MethodName), prog_7_method_6_code, 4, (some .int : Option FieldType), 0, 0, 0, 0),
 ((⟨"WhichBin$Reader", "<init>", "()V"⟩ : MethodName), prog_8_method_1_code, 1, (none : Option FieldType), 5, 109, 6, 1633),
 ((⟨"WhichBin$Reader", "parse", "(LWhichBin$Tape;LWhichBin$Plan;)V"⟩ : MethodName), prog_8_method_2_code, 4, (none : Option FieldType), 6, 137, 0, 0),
 ((⟨"WhichBin$Reader", "fail", "(I)V"⟩ : MethodName), prog_8_method_3_code, 2, (none : Option FieldType), 0, 0, 0, 0),
 ((⟨"WhichBin$Reader", "failLater", "(I)V"⟩ : MethodName), prog_8_method_4_code, 2, (none : Option FieldType), 0, 0, 0, 0),
 ((⟨"WhichBin$Reader", "take", "(I)V"⟩ : MethodName), prog_8_method_5_code, 2, (none : Option FieldType), 1, 21, 0, 0),
 ((⟨"WhichBin$Reader", "takeInt", "(I)I"⟩ : MethodName), prog_8_method_6_code, 3, (some .int : Option FieldType), 2, 42, 0, 0),
 ((⟨"WhichBin$Reader", "parseSetting", "()V"⟩ : MethodName), prog_8_method_7_code, 2, (none : Option FieldType), 3, 64, 0, 0),
 ((⟨"WhichBin$Reader", "parseHouse", "(I)V"⟩ : MethodName), prog_8_method_8_code, 2, (none : Option FieldType), 3, 64, 0, 0)]
def wb_ml4 : List wb_I := [((⟨"WhichBin$Reader", "parseHabit", "(I)V"⟩ : MethodName), prog_8_method_9_code, 3, (none : Option FieldType), 5, 110, 0, 0),
 ((⟨"WhichBin$Reader", "parseModel", "(I)V"⟩ : MethodName), prog_8_method_10_code, 2, (none : Option FieldType), 2, 42, 0, 0),
 ((⟨"WhichBin$Reader", "parseLaw", "(I)V"⟩ : MethodName), prog_8_method_11_code, 4, (none : Option FieldType), 4, 87, 0, 0),
 ((⟨"WhichBin$Reader", "parseSum", "()V"⟩ : MethodName), prog_8_method_12_code, 5, (none : Option FieldType), 3, 63, 0, 0),
 ((⟨"WhichBin$Reader", "parseUnit", "()V"⟩ : MethodName), prog_8_method_13_code, 1, (none : Option FieldType), 2, 42, 0, 0),
 ((⟨"WhichBin$Reader", "takeAndWait", "(I)V"⟩ : MethodName), prog_8_method_14_code, 2, (none : Option FieldType), 2, 42, 0, 0),
 ((⟨"WhichBin$Reader", "emitWaiting", "(I)V"⟩ : MethodName), prog_8_method_15_code, 2, (none : Option FieldType), 1, 23, 0, 0),
 ((⟨"WhichBin$Reader", "bindingOf", "(I)I"⟩ : MethodName), prog_8_method_16_code, 1, (some .int : Option FieldType), 0, 0, 0, 0),
 ((⟨"WhichBin$Standing", "<init>", "()V"⟩ : MethodName), prog_9_method_1_code, 1, (none : Option FieldType), 1, 20, 1, 30),
 ((⟨"WhichBin$Standing", "of", "(II)I"⟩ : MethodName), prog_9_method_2_code, 3, (some .int : Option FieldType), 0, 0, 0, 0),
 ((⟨"WhichBin$Standing", "set", "(III)V"⟩ : MethodName), prog_9_method_3_code, 4, (none : Option FieldType), 0, 0, 0, 0),
 ((⟨"WhichBin$Standing", "clear", "()V"⟩ : MethodName), prog_9_method_4_code, 2, (none : Option FieldType), 1, 23, 0, 0),
 ((⟨"WhichBin$Standing", "copy", "(LWhichBin$Standing;)V"⟩ : MethodName), prog_9_method_5_code, 2, (none : Option FieldType), 1, 60, 0, 0),
 ((⟨"WhichBin$Standing", "record", "(LWhichBin$Evening;)V"⟩ : MethodName), prog_9_method_6_code, 3, (none : Option FieldType), 1, 23, 0, 0),
 ((⟨"WhichBin$Tape", "<init>", "()V"⟩ : MethodName), prog_10_method_1_code, 1, (none : Option FieldType), 1, 20, 1, 2000),
 ((⟨"WhichBin$Tape", "hasRoomFor", "(I)Z"⟩ : MethodName), prog_10_method_2_code, 2, (some .boolean : Option FieldType), 0, 0, 0, 0)]
def wb_ml5 : List wb_I := [((⟨"WhichBin$Tape", "add", "(I)V"⟩ : MethodName), prog_10_method_3_code, 3, (none : Option FieldType), 0, 0, 0, 0),
 ((⟨"WhichBin$Tape", "at", "(I)I"⟩ : MethodName), prog_10_method_4_code, 2, (some .int : Option FieldType), 0, 0, 0, 0),
 ((⟨"WhichBin$Tokens", "<init>", "()V"⟩ : MethodName), prog_11_method_1_code, 5, (none : Option FieldType), 4, 85, 4, 1228),
 ((⟨"WhichBin$Tokens", "cut", "(LWhichBin$Tape;)V"⟩ : MethodName), prog_11_method_2_code, 4, (none : Option FieldType), 5, 114, 0, 0),
 ((⟨"WhichBin$Tokens", "cutOne", "(LWhichBin$Tape;I)I"⟩ : MethodName), prog_11_method_3_code, 4, (some .int : Option FieldType), 4, 91, 0, 0),
 ((⟨"WhichBin$Tokens", "cutWord", "(LWhichBin$Tape;I)I"⟩ : MethodName), prog_11_method_4_code, 6, (some .int : Option FieldType), 2, 46, 0, 0),
 ((⟨"WhichBin$Tokens", "cutInt", "(LWhichBin$Tape;I)I"⟩ : MethodName), prog_11_method_5_code, 6, (some .int : Option FieldType), 2, 46, 0, 0),
 ((⟨"WhichBin$Tokens", "cutNoToken", "(LWhichBin$Tape;I)I"⟩ : MethodName), prog_11_method_6_code, 3, (some .int : Option FieldType), 1, 24, 0, 0),
 ((⟨"WhichBin$Tokens", "add", "(IIJ)V"⟩ : MethodName), prog_11_method_7_code, 5, (none : Option FieldType), 0, 0, 0, 0),
 ((⟨"WhichBin$Tokens", "kindOf", "(J)I"⟩ : MethodName), prog_11_method_8_code, 4, (some .int : Option FieldType), 0, 0, 0, 0),
 ((⟨"WhichBin$Tokens", "withLetter", "(JI)J"⟩ : MethodName), prog_11_method_9_code, 3, (some .long : Option FieldType), 0, 0, 0, 0),
 ((⟨"WhichBin$Tokens", "isBlank", "(I)Z"⟩ : MethodName), prog_11_method_10_code, 1, (some .boolean : Option FieldType), 0, 0, 0, 0),
 ((⟨"WhichBin$Tokens", "isLetter", "(I)Z"⟩ : MethodName), prog_11_method_11_code, 1, (some .boolean : Option FieldType), 0, 0, 0, 0),
 ((⟨"WhichBin$Tokens", "isDigit", "(I)Z"⟩ : MethodName), prog_11_method_12_code, 1, (some .boolean : Option FieldType), 0, 0, 0, 0),
 ((⟨"WhichBin", "<init>", "()V"⟩ : MethodName), prog_1_method_1_code, 2, (none : Option FieldType), 6, 129, 152, 13384),
 ((⟨"WhichBin", "feed", "(IIIII)I"⟩ : MethodName), prog_1_method_2_code, 6, (some .int : Option FieldType), 1, 22, 0, 0)]
def wb_ml6 : List wb_I := [((⟨"WhichBin", "back", "(I)I"⟩ : MethodName), prog_1_method_3_code, 2, (some .int : Option FieldType), 0, 0, 0, 0),
 ((⟨"WhichBin", "read", "()I"⟩ : MethodName), prog_1_method_4_code, 2, (some .int : Option FieldType), 7, 160, 0, 0),
 ((⟨"WhichBin", "place", "()I"⟩ : MethodName), prog_1_method_5_code, 1, (some .int : Option FieldType), 0, 0, 0, 0),
 ((⟨"WhichBin", "startAnew", "()V"⟩ : MethodName), prog_1_method_6_code, 2, (none : Option FieldType), 2, 44, 0, 0),
 ((⟨"WhichBin", "forgetAnswers", "()V"⟩ : MethodName), prog_1_method_7_code, 1, (none : Option FieldType), 1, 23, 0, 0),
 ((⟨"WhichBin", "house", "(II)I"⟩ : MethodName), prog_1_method_8_code, 4, (some .int : Option FieldType), 1, 23, 0, 0),
 ((⟨"WhichBin", "night", "(I)I"⟩ : MethodName), prog_1_method_9_code, 2, (some .int : Option FieldType), 0, 0, 0, 0),
 ((⟨"WhichBin", "count", "(I)I"⟩ : MethodName), prog_1_method_10_code, 2, (some .int : Option FieldType), 1, 22, 0, 0),
 ((⟨"WhichBin", "heldSlots", "()I"⟩ : MethodName), prog_1_method_11_code, 3, (some .int : Option FieldType), 0, 0, 0, 0),
 ((⟨"WhichBin", "isHouse", "(I)Z"⟩ : MethodName), prog_1_method_12_code, 2, (some .boolean : Option FieldType), 0, 0, 0, 0),
 ((⟨"WhichBin", "isRow", "(I)Z"⟩ : MethodName), prog_1_method_13_code, 1, (some .boolean : Option FieldType), 0, 0, 0, 0),
 ((⟨"WhichBin", "hasBit", "(II)Z"⟩ : MethodName), prog_1_method_14_code, 2, (some .boolean : Option FieldType), 0, 0, 0, 0),
 ((⟨"WhichBin", "allHouses", "()I"⟩ : MethodName), prog_1_method_15_code, 1, (some .int : Option FieldType), 0, 0, 0, 0),
 ((⟨"WhichBin", "nights", "(I)I"⟩ : MethodName), prog_1_method_16_code, 4, (some .int : Option FieldType), 7, 173, 0, 0),
 ((⟨"WhichBin", "leaflet", "(IZ)Z"⟩ : MethodName), prog_1_method_17_code, 3, (some .boolean : Option FieldType), 3, 102, 0, 0),
 ((⟨"WhichBin", "swap", "(II)Z"⟩ : MethodName), prog_1_method_18_code, 4, (some .boolean : Option FieldType), 3, 102, 0, 0)]
def wb_ml7 : List wb_I := [((⟨"WhichBin", "habit", "(II)Z"⟩ : MethodName), prog_1_method_19_code, 3, (some .boolean : Option FieldType), 3, 102, 0, 0),
 ((⟨"WhichBin", "canBeSet", "(I)Z"⟩ : MethodName), prog_1_method_20_code, 1, (some .boolean : Option FieldType), 0, 0, 0, 0),
 ((⟨"WhichBin", "undo", "()Z"⟩ : MethodName), prog_1_method_21_code, 1, (some .boolean : Option FieldType), 3, 102, 0, 0),
 ((⟨"WhichBin", "hold", "(I)Z"⟩ : MethodName), prog_1_method_22_code, 2, (some .boolean : Option FieldType), 2, 81, 0, 0),
 ((⟨"WhichBin", "restore", "(I)Z"⟩ : MethodName), prog_1_method_23_code, 2, (some .boolean : Option FieldType), 2, 81, 0, 0),
 ((⟨"WhichBin", "isSlot", "(I)Z"⟩ : MethodName), prog_1_method_24_code, 1, (some .boolean : Option FieldType), 0, 0, 0, 0),
 ((⟨"WhichBin", "puts", "(IZI)I"⟩ : MethodName), prog_1_method_25_code, 4, (some .int : Option FieldType), 7, 173, 0, 0),
 ((⟨"WhichBin", "chance", "(IZ)I"⟩ : MethodName), prog_1_method_26_code, 3, (some .int : Option FieldType), 7, 173, 0, 0),
 ((⟨"WhichBin", "street", "(IZ)I"⟩ : MethodName), prog_1_method_27_code, 3, (some .int : Option FieldType), 7, 173, 0, 0),
 ((⟨"WhichBin", "mean", "(Z)I"⟩ : MethodName), prog_1_method_28_code, 2, (some .int : Option FieldType), 7, 174, 0, 0),
 ((⟨"WhichBin", "pays", "(Z)I"⟩ : MethodName), prog_1_method_29_code, 5, (some .int : Option FieldType), 7, 173, 0, 0),
 ((⟨"WhichBin", "tells", "(IZ)I"⟩ : MethodName), prog_1_method_30_code, 6, (some .int : Option FieldType), 7, 173, 0, 0),
 ((⟨"WhichBin", "herd", "(I)I"⟩ : MethodName), prog_1_method_31_code, 4, (some .int : Option FieldType), 7, 173, 0, 0),
 ((⟨"WhichBin", "whom", "(I)I"⟩ : MethodName), prog_1_method_32_code, 2, (some .int : Option FieldType), 8, 198, 0, 0),
 ((⟨"WhichBin", "worth", "(IZ)I"⟩ : MethodName), prog_1_method_33_code, 3, (some .int : Option FieldType), 7, 174, 0, 0),
 ((⟨"WhichBin", "fewest", "(I)I"⟩ : MethodName), prog_1_method_34_code, 4, (some .int : Option FieldType), 8, 198, 0, 0)]
def wb_ml8 : List wb_I := [((⟨"WhichBin", "bestLeaflets", "(I)I"⟩ : MethodName), prog_1_method_35_code, 5, (some .int : Option FieldType), 7, 174, 0, 0),
 ((⟨"WhichBin", "meanWith", "(I)I"⟩ : MethodName), prog_1_method_36_code, 2, (some .int : Option FieldType), 6, 153, 0, 0),
 ((⟨"WhichBin", "bestSwap", "()I"⟩ : MethodName), prog_1_method_37_code, 6, (some .int : Option FieldType), 7, 175, 0, 0),
 ((⟨"WhichBin", "meanIfChanged", "(II)I"⟩ : MethodName), prog_1_method_38_code, 3, (some .int : Option FieldType), 6, 153, 0, 0),
 ((⟨"WhichBin", "hour", "(IZ)I"⟩ : MethodName), prog_1_method_39_code, 3, (some .int : Option FieldType), 7, 174, 0, 0),
 ((⟨"WhichBin", "bestHour", "()I"⟩ : MethodName), prog_1_method_40_code, 5, (some .int : Option FieldType), 7, 174, 0, 0),
 ((⟨"WhichBin", "meanIfPutRight", "(I)I"⟩ : MethodName), prog_1_method_41_code, 2, (some .int : Option FieldType), 6, 153, 0, 0),
 ((⟨"WhichBin", "two", "()I"⟩ : MethodName), prog_1_method_42_code, 4, (some .int : Option FieldType), 7, 173, 0, 0),
 ((⟨"WhichBin", "better", "()I"⟩ : MethodName), prog_1_method_43_code, 5, (some .int : Option FieldType), 7, 173, 0, 0),
 ((⟨"WhichBin", "rests", "(I)I"⟩ : MethodName), prog_1_method_44_code, 2, (some .int : Option FieldType), 7, 174, 0, 0),
 ((⟨"WhichBin", "findRests", "()V"⟩ : MethodName), prog_1_method_45_code, 2, (none : Option FieldType), 6, 153, 0, 0),
 ((⟨"WhichBin", "isResting", "(I)Z"⟩ : MethodName), prog_1_method_46_code, 4, (some .boolean : Option FieldType), 1, 21, 0, 0),
 ((⟨"WhichBin", "fence", "(I)I"⟩ : MethodName), prog_1_method_47_code, 2, (some .int : Option FieldType), 3, 107, 0, 0),
 ((⟨"WhichBin", "year", "(II)I"⟩ : MethodName), prog_1_method_48_code, 7, (some .int : Option FieldType), 7, 173, 0, 0),
 ((⟨"WhichBin", "tonight", "()LWhichBin$Evening;"⟩ : MethodName), prog_1_method_49_code, 1, (some (.object "WhichBin$Evening") : Option FieldType), 6, 153, 0, 0),
 ((⟨"WhichBin", "allWeight", "()I"⟩ : MethodName), prog_1_method_50_code, 1, (some .int : Option FieldType), 0, 0, 0, 0)]
def wb_ml9 : List wb_I := [((⟨"WhichBin", "partOfAll", "(JZ)I"⟩ : MethodName), prog_1_method_51_code, 4, (some .int : Option FieldType), 2, 52, 0, 0),
 ((⟨"WhichBin", "fraction", "(JJZ)I"⟩ : MethodName), prog_1_method_52_code, 12, (some .int : Option FieldType), 1, 21, 0, 0),
 ((⟨"WhichBin", "tell", "(IZIIZZ)I"⟩ : MethodName), prog_1_method_53_code, 7, (some .int : Option FieldType), 1, 26, 0, 0),
 ((⟨"WhichBin", "isSeen", "(I)Z"⟩ : MethodName), prog_1_method_54_code, 1, (some .boolean : Option FieldType), 0, 0, 0, 0),
 ((⟨"WhichBin", "forget", "()I"⟩ : MethodName), prog_1_method_55_code, 2, (some .int : Option FieldType), 1, 20, 0, 0),
 ((⟨"WhichBin", "fits", "(II)I"⟩ : MethodName), prog_1_method_56_code, 3, (some .int : Option FieldType), 3, 70, 0, 0),
 ((⟨"WhichBinModel", "<init>", "()V"⟩ : MethodName), prog_13_method_2_code, 1, (none : Option FieldType), 2, 48, 45, 12716),
 ((⟨"WhichBinModel", "feed", "(IIIII)I"⟩ : MethodName), prog_13_method_3_code, 6, (some .int : Option FieldType), 1, 22, 0, 0),
 ((⟨"WhichBinModel", "put", "(I)V"⟩ : MethodName), prog_13_method_4_code, 3, (none : Option FieldType), 0, 0, 0, 0),
 ((⟨"WhichBinModel", "back", "(I)I"⟩ : MethodName), prog_13_method_5_code, 2, (some .int : Option FieldType), 0, 0, 0, 0),
 ((⟨"WhichBinModel", "byteAt", "(I)I"⟩ : MethodName), prog_13_method_6_code, 2, (some .int : Option FieldType), 0, 0, 0, 0),
 ((⟨"WhichBinModel", "isDigit", "(I)Z"⟩ : MethodName), prog_13_method_7_code, 1, (some .boolean : Option FieldType), 0, 0, 0, 0),
 ((⟨"WhichBinModel", "isLetter", "(I)Z"⟩ : MethodName), prog_13_method_8_code, 1, (some .boolean : Option FieldType), 0, 0, 0, 0),
 ((⟨"WhichBinModel", "appends", "(JI)J"⟩ : MethodName), prog_13_method_9_code, 3, (some .long : Option FieldType), 0, 0, 0, 0),
 ((⟨"WhichBinModel", "word", "(IIIIIII)J"⟩ : MethodName), prog_13_method_10_code, 7, (some .long : Option FieldType), 1, 22, 0, 0),
 ((⟨"WhichBinModel", "token", "(IIIJ)V"⟩ : MethodName), prog_13_method_11_code, 6, (none : Option FieldType), 0, 0, 0, 0)]
def wb_ml10 : List wb_I := [((⟨"WhichBinModel", "cut", "()V"⟩ : MethodName), prog_13_method_12_code, 8, (none : Option FieldType), 2, 49, 0, 0),
 ((⟨"WhichBinModel", "sign", "(III)I"⟩ : MethodName), prog_13_method_13_code, 5, (some .int : Option FieldType), 1, 25, 0, 0),
 ((⟨"WhichBinModel", "is", "(I)Z"⟩ : MethodName), prog_13_method_14_code, 2, (some .boolean : Option FieldType), 0, 0, 0, 0),
 ((⟨"WhichBinModel", "fail", "(I)V"⟩ : MethodName), prog_13_method_15_code, 2, (none : Option FieldType), 0, 0, 0, 0),
 ((⟨"WhichBinModel", "wrong", "(II)V"⟩ : MethodName), prog_13_method_16_code, 4, (none : Option FieldType), 0, 0, 0, 0),
 ((⟨"WhichBinModel", "goesOn", "()V"⟩ : MethodName), prog_13_method_17_code, 1, (none : Option FieldType), 1, 21, 0, 0),
 ((⟨"WhichBinModel", "must", "(I)V"⟩ : MethodName), prog_13_method_18_code, 2, (none : Option FieldType), 2, 41, 0, 0),
 ((⟨"WhichBinModel", "plain", "(I)V"⟩ : MethodName), prog_13_method_19_code, 2, (none : Option FieldType), 0, 0, 0, 0),
 ((⟨"WhichBinModel", "read", "()I"⟩ : MethodName), prog_13_method_20_code, 2, (some .int : Option FieldType), 9, 191, 0, 0),
 ((⟨"WhichBinModel", "place", "()I"⟩ : MethodName), prog_13_method_21_code, 1, (some .int : Option FieldType), 0, 0, 0, 0),
 ((⟨"WhichBinModel", "tellOne", "()V"⟩ : MethodName), prog_13_method_22_code, 1, (none : Option FieldType), 8, 171, 0, 0),
 ((⟨"WhichBinModel", "setting", "(I)I"⟩ : MethodName), prog_13_method_23_code, 3, (some .int : Option FieldType), 3, 64, 0, 0),
 ((⟨"WhichBinModel", "bounded", "(II)I"⟩ : MethodName), prog_13_method_24_code, 4, (some .int : Option FieldType), 2, 41, 0, 0),
 ((⟨"WhichBinModel", "named", "(I)I"⟩ : MethodName), prog_13_method_25_code, 3, (some .int : Option FieldType), 0, 0, 0, 0),
 ((⟨"WhichBinModel", "tellHouse", "()V"⟩ : MethodName), prog_13_method_26_code, 3, (none : Option FieldType), 7, 149, 0, 0),
 ((⟨"WhichBinModel", "tellHabit", "(I)V"⟩ : MethodName), prog_13_method_27_code, 4, (none : Option FieldType), 6, 126, 0, 0)]
def wb_ml11 : List wb_I := [((⟨"WhichBinModel", "tellLaw", "(I)V"⟩ : MethodName), prog_13_method_28_code, 4, (none : Option FieldType), 5, 103, 0, 0),
 ((⟨"WhichBinModel", "term", "()V"⟩ : MethodName), prog_13_method_29_code, 1, (none : Option FieldType), 4, 83, 0, 0),
 ((⟨"WhichBinModel", "emit", "(II)V"⟩ : MethodName), prog_13_method_30_code, 3, (none : Option FieldType), 0, 0, 0, 0),
 ((⟨"WhichBinModel", "comesOut", "(Z)V"⟩ : MethodName), prog_13_method_31_code, 3, (none : Option FieldType), 1, 22, 0, 0),
 ((⟨"WhichBinModel", "expression", "()V"⟩ : MethodName), prog_13_method_32_code, 3, (none : Option FieldType), 3, 61, 0, 0),
 ((⟨"WhichBinModel", "unit", "()V"⟩ : MethodName), prog_13_method_33_code, 1, (none : Option FieldType), 2, 41, 0, 0),
 ((⟨"WhichBinModel", "termOf", "(II)I"⟩ : MethodName), prog_13_method_34_code, 8, (some .int : Option FieldType), 0, 0, 0, 0),
 ((⟨"WhichBinModel", "in", "(III)Z"⟩ : MethodName), prog_13_method_35_code, 3, (some .boolean : Option FieldType), 0, 0, 0, 0),
 ((⟨"WhichBinModel", "bits", "(I)I"⟩ : MethodName), prog_13_method_36_code, 3, (some .int : Option FieldType), 0, 0, 0, 0),
 ((⟨"WhichBinModel", "isHouse", "(I)Z"⟩ : MethodName), prog_13_method_37_code, 2, (some .boolean : Option FieldType), 1, 22, 0, 0),
 ((⟨"WhichBinModel", "begins", "()V"⟩ : MethodName), prog_13_method_38_code, 2, (none : Option FieldType), 1, 20, 0, 0),
 ((⟨"WhichBinModel", "plainly", "()V"⟩ : MethodName), prog_13_method_39_code, 1, (none : Option FieldType), 0, 0, 0, 0),
 ((⟨"WhichBinModel", "keepsRow", "()V"⟩ : MethodName), prog_13_method_40_code, 2, (none : Option FieldType), 0, 0, 0, 0),
 ((⟨"WhichBinModel", "copies", "()V"⟩ : MethodName), prog_13_method_41_code, 2, (none : Option FieldType), 1, 20, 0, 0),
 ((⟨"WhichBinModel", "hasLeaflet", "(I)Z"⟩ : MethodName), prog_13_method_42_code, 2, (some .boolean : Option FieldType), 0, 0, 0, 0),
 ((⟨"WhichBinModel", "sureNow", "(I)I"⟩ : MethodName), prog_13_method_43_code, 2, (some .int : Option FieldType), 1, 21, 0, 0)]
def wb_ml12 : List wb_I := [((⟨"WhichBinModel", "habitNow", "(I)I"⟩ : MethodName), prog_13_method_44_code, 2, (some .int : Option FieldType), 1, 21, 0, 0),
 ((⟨"WhichBinModel", "houseAt", "(I)I"⟩ : MethodName), prog_13_method_45_code, 3, (some .int : Option FieldType), 0, 0, 0, 0),
 ((⟨"WhichBinModel", "worlds", "()I"⟩ : MethodName), prog_13_method_46_code, 1, (some .int : Option FieldType), 0, 0, 0, 0),
 ((⟨"WhichBinModel", "fillsWeights", "()V"⟩ : MethodName), prog_13_method_47_code, 4, (none : Option FieldType), 2, 42, 0, 0),
 ((⟨"WhichBinModel", "signIn", "(II)Z"⟩ : MethodName), prog_13_method_48_code, 3, (some .boolean : Option FieldType), 0, 0, 0, 0),
 ((⟨"WhichBinModel", "plainOf", "(Z)I"⟩ : MethodName), prog_13_method_49_code, 2, (some .int : Option FieldType), 0, 0, 0, 0),
 ((⟨"WhichBinModel", "mostOf", "(IZ)I"⟩ : MethodName), prog_13_method_50_code, 5, (some .int : Option FieldType), 2, 46, 0, 0),
 ((⟨"WhichBinModel", "seenFrom", "(I)I"⟩ : MethodName), prog_13_method_51_code, 3, (some .int : Option FieldType), 0, 0, 0, 0),
 ((⟨"WhichBinModel", "seenOf", "(II)I"⟩ : MethodName), prog_13_method_52_code, 5, (some .int : Option FieldType), 1, 22, 0, 0),
 ((⟨"WhichBinModel", "asOne", "(IIZ)I"⟩ : MethodName), prog_13_method_53_code, 4, (some .int : Option FieldType), 1, 21, 0, 0),
 ((⟨"WhichBinModel", "lawOf", "(IZ)I"⟩ : MethodName), prog_13_method_54_code, 7, (some .int : Option FieldType), 2, 46, 0, 0),
 ((⟨"WhichBinModel", "isSeenAlike", "(II)Z"⟩ : MethodName), prog_13_method_55_code, 4, (some .boolean : Option FieldType), 1, 22, 0, 0),
 ((⟨"WhichBinModel", "wiseOf", "(IZ)I"⟩ : MethodName), prog_13_method_56_code, 5, (some .int : Option FieldType), 2, 45, 0, 0),
 ((⟨"WhichBinModel", "putOf", "(IZ)I"⟩ : MethodName), prog_13_method_57_code, 3, (some .int : Option FieldType), 3, 72, 0, 0),
 ((⟨"WhichBinModel", "aheadIn", "(I)V"⟩ : MethodName), prog_13_method_58_code, 3, (none : Option FieldType), 0, 0, 0, 0),
 ((⟨"WhichBinModel", "rights", "(I)V"⟩ : MethodName), prog_13_method_59_code, 4, (none : Option FieldType), 1, 20, 0, 0)]
def wb_ml13 : List wb_I := [((⟨"WhichBinModel", "fillsOut", "()V"⟩ : MethodName), prog_13_method_60_code, 4, (none : Option FieldType), 4, 94, 0, 0),
 ((⟨"WhichBinModel", "isWrongIn", "(II)Z"⟩ : MethodName), prog_13_method_61_code, 4, (some .boolean : Option FieldType), 0, 0, 0, 0),
 ((⟨"WhichBinModel", "wrongIn", "(I)I"⟩ : MethodName), prog_13_method_62_code, 4, (some .int : Option FieldType), 1, 23, 0, 0),
 ((⟨"WhichBinModel", "allWeight", "()I"⟩ : MethodName), prog_13_method_63_code, 3, (some .int : Option FieldType), 0, 0, 0, 0),
 ((⟨"WhichBinModel", "chanceOf", "(I)I"⟩ : MethodName), prog_13_method_64_code, 4, (some .int : Option FieldType), 1, 23, 0, 0),
 ((⟨"WhichBinModel", "meanNow", "()I"⟩ : MethodName), prog_13_method_65_code, 3, (some .int : Option FieldType), 5, 117, 0, 0),
 ((⟨"WhichBinModel", "common", "(II)I"⟩ : MethodName), prog_13_method_66_code, 5, (some .int : Option FieldType), 0, 0, 0, 0),
 ((⟨"WhichBinModel", "lineOf", "(IIZ)I"⟩ : MethodName), prog_13_method_67_code, 4, (some .int : Option FieldType), 1, 24, 0, 0),
 ((⟨"WhichBinModel", "mixed", "(II)I"⟩ : MethodName), prog_13_method_68_code, 3, (some .int : Option FieldType), 0, 0, 0, 0),
 ((⟨"WhichBinModel", "lotOf", "(I)I"⟩ : MethodName), prog_13_method_69_code, 2, (some .int : Option FieldType), 1, 22, 0, 0),
 ((⟨"WhichBinModel", "worldNow", "()I"⟩ : MethodName), prog_13_method_70_code, 3, (some .int : Option FieldType), 2, 43, 0, 0),
 ((⟨"WhichBinModel", "nightGoes", "()V"⟩ : MethodName), prog_13_method_71_code, 4, (none : Option FieldType), 3, 65, 0, 0),
 ((⟨"WhichBinModel", "house", "(II)I"⟩ : MethodName), prog_13_method_72_code, 3, (some .int : Option FieldType), 2, 43, 0, 0),
 ((⟨"WhichBinModel", "night", "(I)I"⟩ : MethodName), prog_13_method_73_code, 2, (some .int : Option FieldType), 1, 22, 0, 0),
 ((⟨"WhichBinModel", "keeps", "()V"⟩ : MethodName), prog_13_method_74_code, 2, (none : Option FieldType), 1, 21, 0, 0),
 ((⟨"WhichBinModel", "nights", "(I)I"⟩ : MethodName), prog_13_method_75_code, 3, (some .int : Option FieldType), 5, 117, 0, 0)]
def wb_ml14 : List wb_I := [((⟨"WhichBinModel", "leaflet", "(IZ)Z"⟩ : MethodName), prog_13_method_76_code, 3, (some .boolean : Option FieldType), 2, 43, 0, 0),
 ((⟨"WhichBinModel", "swaps", "(II)V"⟩ : MethodName), prog_13_method_77_code, 4, (none : Option FieldType), 0, 0, 0, 0),
 ((⟨"WhichBinModel", "swap", "(II)Z"⟩ : MethodName), prog_13_method_78_code, 3, (some .boolean : Option FieldType), 2, 43, 0, 0),
 ((⟨"WhichBinModel", "habit", "(II)Z"⟩ : MethodName), prog_13_method_79_code, 3, (some .boolean : Option FieldType), 2, 43, 0, 0),
 ((⟨"WhichBinModel", "undo", "()Z"⟩ : MethodName), prog_13_method_80_code, 2, (some .boolean : Option FieldType), 0, 0, 0, 0),
 ((⟨"WhichBinModel", "isRow", "(I)Z"⟩ : MethodName), prog_13_method_81_code, 1, (some .boolean : Option FieldType), 1, 22, 0, 0),
 ((⟨"WhichBinModel", "setsAhead", "(I)V"⟩ : MethodName), prog_13_method_82_code, 4, (none : Option FieldType), 0, 0, 0, 0),
 ((⟨"WhichBinModel", "lays", "()V"⟩ : MethodName), prog_13_method_83_code, 1, (none : Option FieldType), 5, 117, 0, 0),
 ((⟨"WhichBinModel", "puts", "(IZI)I"⟩ : MethodName), prog_13_method_84_code, 4, (some .int : Option FieldType), 6, 137, 0, 0),
 ((⟨"WhichBinModel", "chance", "(IZ)I"⟩ : MethodName), prog_13_method_85_code, 3, (some .int : Option FieldType), 6, 137, 0, 0),
 ((⟨"WhichBinModel", "street", "(IZ)I"⟩ : MethodName), prog_13_method_86_code, 5, (some .int : Option FieldType), 6, 137, 0, 0),
 ((⟨"WhichBinModel", "mean", "(Z)I"⟩ : MethodName), prog_13_method_87_code, 2, (some .int : Option FieldType), 6, 139, 0, 0),
 ((⟨"WhichBinModel", "pays", "(Z)I"⟩ : MethodName), prog_13_method_88_code, 6, (some .int : Option FieldType), 6, 137, 0, 0),
 ((⟨"WhichBinModel", "tells", "(IZ)I"⟩ : MethodName), prog_13_method_89_code, 8, (some .int : Option FieldType), 6, 137, 0, 0),
 ((⟨"WhichBinModel", "herd", "(I)I"⟩ : MethodName), prog_13_method_90_code, 3, (some .int : Option FieldType), 6, 137, 0, 0),
 ((⟨"WhichBinModel", "meanWith", "(I)I"⟩ : MethodName), prog_13_method_91_code, 2, (some .int : Option FieldType), 6, 139, 0, 0)]
def wb_ml15 : List wb_I := [((⟨"WhichBinModel", "allHouses", "()I"⟩ : MethodName), prog_13_method_92_code, 1, (some .int : Option FieldType), 0, 0, 0, 0),
 ((⟨"WhichBinModel", "bestLeaflets", "(I)I"⟩ : MethodName), prog_13_method_93_code, 7, (some .int : Option FieldType), 7, 160, 0, 0),
 ((⟨"WhichBinModel", "whom", "(I)I"⟩ : MethodName), prog_13_method_94_code, 2, (some .int : Option FieldType), 8, 186, 0, 0),
 ((⟨"WhichBinModel", "worth", "(IZ)I"⟩ : MethodName), prog_13_method_95_code, 3, (some .int : Option FieldType), 7, 160, 0, 0),
 ((⟨"WhichBinModel", "fewest", "(I)I"⟩ : MethodName), prog_13_method_96_code, 3, (some .int : Option FieldType), 8, 186, 0, 0),
 ((⟨"WhichBinModel", "bestSwap", "()I"⟩ : MethodName), prog_13_method_97_code, 6, (some .int : Option FieldType), 6, 139, 0, 0),
 ((⟨"WhichBinModel", "meanFrom", "(I)I"⟩ : MethodName), prog_13_method_98_code, 2, (some .int : Option FieldType), 6, 139, 0, 0),
 ((⟨"WhichBinModel", "hour", "(IZ)I"⟩ : MethodName), prog_13_method_99_code, 3, (some .int : Option FieldType), 7, 160, 0, 0),
 ((⟨"WhichBinModel", "bestHour", "()I"⟩ : MethodName), prog_13_method_100_code, 3, (some .int : Option FieldType), 7, 160, 0, 0),
 ((⟨"WhichBinModel", "two", "()I"⟩ : MethodName), prog_13_method_101_code, 3, (some .int : Option FieldType), 6, 137, 0, 0),
 ((⟨"WhichBinModel", "chanceNow", "(I)I"⟩ : MethodName), prog_13_method_102_code, 2, (some .int : Option FieldType), 5, 117, 0, 0),
 ((⟨"WhichBinModel", "better", "()I"⟩ : MethodName), prog_13_method_103_code, 4, (some .int : Option FieldType), 6, 138, 0, 0),
 ((⟨"WhichBinModel", "fillsChances", "()V"⟩ : MethodName), prog_13_method_104_code, 3, (none : Option FieldType), 5, 117, 0, 0),
 ((⟨"WhichBinModel", "isResting", "(I)Z"⟩ : MethodName), prog_13_method_105_code, 3, (some .boolean : Option FieldType), 0, 0, 0, 0),
 ((⟨"WhichBinModel", "rests", "(I)I"⟩ : MethodName), prog_13_method_106_code, 4, (some .int : Option FieldType), 6, 139, 0, 0),
 ((⟨"WhichBinModel", "looksOver", "()Z"⟩ : MethodName), prog_13_method_107_code, 4, (some .boolean : Option FieldType), 0, 0, 0, 0)]
def wb_ml16 : List wb_I := [((⟨"WhichBinModel", "fence", "(I)I"⟩ : MethodName), prog_13_method_108_code, 5, (some .int : Option FieldType), 1, 23, 0, 0),
 ((⟨"WhichBinModel", "year", "(II)I"⟩ : MethodName), prog_13_method_109_code, 6, (some .int : Option FieldType), 6, 137, 0, 0),
 ((⟨"WhichBinModel", "tell", "(IZIIZZ)I"⟩ : MethodName), prog_13_method_110_code, 7, (some .int : Option FieldType), 2, 43, 0, 0),
 ((⟨"WhichBinModel", "forget", "()I"⟩ : MethodName), prog_13_method_111_code, 2, (some .int : Option FieldType), 0, 0, 0, 0),
 ((⟨"WhichBinModel", "putBy", "(II)I"⟩ : MethodName), prog_13_method_112_code, 5, (some .int : Option FieldType), 0, 0, 0, 0),
 ((⟨"WhichBinModel", "fits", "(II)I"⟩ : MethodName), prog_13_method_113_code, 6, (some .int : Option FieldType), 2, 43, 0, 0),
 ((⟨"WhichBinModel", "hold", "(I)Z"⟩ : MethodName), prog_13_method_114_code, 3, (some .boolean : Option FieldType), 1, 22, 0, 0),
 ((⟨"WhichBinModel", "restore", "(I)Z"⟩ : MethodName), prog_13_method_115_code, 3, (some .boolean : Option FieldType), 1, 22, 0, 0),
 ((⟨"WhichBinModel", "count", "(I)I"⟩ : MethodName), prog_13_method_116_code, 2, (some .int : Option FieldType), 0, 0, 0, 0),
 ((⟨"java/lang/Integer", "bitCount", "(I)I"⟩ : MethodName), prog_15_method_49_code, 1, (some .int : Option FieldType), 0, 0, 0, 0),
 ((⟨"java/lang/Math", "abs", "(J)J"⟩ : MethodName), prog_16_method_61_code, 2, (some .long : Option FieldType), 0, 0, 0, 0),
 ((⟨"java/lang/Math", "max", "(II)I"⟩ : MethodName), prog_16_method_65_code, 2, (some .int : Option FieldType), 0, 0, 0, 0),
 ((⟨"java/lang/Math", "min", "(II)I"⟩ : MethodName), prog_16_method_69_code, 2, (some .int : Option FieldType), 0, 0, 0, 0),
 ((⟨"java/lang/String", "length", "()I"⟩ : MethodName), prog_17_method_54_code, 1, (some .int : Option FieldType), 1, 20, 0, 0),
 ((⟨"java/lang/String", "charAt", "(I)C"⟩ : MethodName), prog_17_method_56_code, 2, (some .char : Option FieldType), 3, 64, 0, 0),
 ((⟨"java/lang/String", "indexOf", "(I)I"⟩ : MethodName), prog_17_method_79_code, 2, (some .int : Option FieldType), 3, 70, 0, 0)]
def wb_ml17 : List wb_I := [((⟨"java/lang/String", "indexOf", "(II)I"⟩ : MethodName), prog_17_method_80_code, 3, (some .int : Option FieldType), 2, 48, 0, 0),
 ((⟨"java/lang/String", "coder", "()B"⟩ : MethodName), prog_17_method_152_code, 1, (some .byte : Option FieldType), 0, 0, 0, 0),
 ((⟨"java/lang/String", "isLatin1", "()Z"⟩ : MethodName), prog_17_method_154_code, 1, (some .boolean : Option FieldType), 0, 0, 0, 0),
 ((⟨"java/lang/String", "checkIndex", "(II)V"⟩ : MethodName), prog_17_method_155_code, 2, (none : Option FieldType), 1, 22, 0, 0),
 ((⟨"java/lang/StringLatin1", "charAt", "([BI)C"⟩ : MethodName), prog_18_method_2_code, 2, (some .char : Option FieldType), 2, 43, 0, 0),
 ((⟨"java/lang/StringLatin1", "canEncode", "(I)Z"⟩ : MethodName), prog_18_method_4_code, 1, (some .boolean : Option FieldType), 0, 0, 0, 0),
 ((⟨"java/lang/StringLatin1", "indexOf", "([BIII)I"⟩ : MethodName), prog_18_method_22_code, 4, (some .int : Option FieldType), 1, 25, 0, 0),
 ((⟨"java/lang/StringLatin1", "indexOfChar", "([BIII)I"⟩ : MethodName), prog_18_method_23_code, 6, (some .int : Option FieldType), 0, 0, 0, 0),
 ((⟨"java/util/Arrays", "rangeCheck", "(III)V"⟩ : MethodName), prog_21_method_30_code, 3, (none : Option FieldType), 0, 0, 0, 0),
 ((⟨"java/util/Arrays", "fill", "([II)V"⟩ : MethodName), prog_21_method_103_code, 4, (none : Option FieldType), 0, 0, 0, 0),
 ((⟨"java/util/Arrays", "fill", "([IIII)V"⟩ : MethodName), prog_21_method_104_code, 5, (none : Option FieldType), 1, 22, 0, 0),
 ((⟨"jdk/internal/util/Preconditions", "checkIndex", "(IILjava/util/function/BiFunction;)I"⟩ : MethodName), prog_22_method_11_code, 3, (some .int : Option FieldType), 0, 0, 0, 0),
 ((⟨"WhichBinLaw", "law", "([I)Z"⟩ : MethodName), code, 4, (some .boolean : Option FieldType), 10, 221, 199, 26182)]
def wb_mls : List (List wb_I) := [wb_ml0, wb_ml1, wb_ml2, wb_ml3, wb_ml4, wb_ml5, wb_ml6, wb_ml7, wb_ml8, wb_ml9, wb_ml10, wb_ml11, wb_ml12, wb_ml13, wb_ml14, wb_ml15, wb_ml16, wb_ml17]
def wb_mi (m : Nat) : wb_I := ((wb_mls.getD (m / 16) []).getD (m % 16) ((⟨"", "", ""⟩ : MethodName), ⟨#[]⟩, 0, none, 0, 0, 0, 0))
def wb_NM : Nat := 285
abbrev wb_E : Type := Nat × Instr × List Nat × List Nat
set_option maxRecDepth 100000 in
def wb_k_Diary_init : List wb_E := [(0, .aload_n 0, [], []), (1, .invokespecial 3, [0, 453, 145, 146], []), (4, .aload_n 0, [], []), (5, .bipush 20, [], []), (7, .newarray .int, [22, 250], []), (9, .putfield 11, [0, 0, 2, 454, 1], []), (12, .aload_n 0, [], []), (13, .bipush 20, [], []), (15, .newarray .int, [23, 250], []), (17, .putfield 15, [0, 1, 2, 455, 1], []), (20, .aload_n 0, [], []), (21, .bipush 20, [], []), (23, .newarray .boolean, [24, 474], []), (25, .putfield 18, [0, 2, 2, 456, 1], []), (28, .aload_n 0, [], []), (29, .bipush 20, [], []), (31, .newarray .boolean, [25, 474], []), (33, .putfield 22, [0, 3, 2, 457, 1], []), (36, .aload_n 0, [], []), (37, .bipush 20, [], []), (39, .newarray .boolean, [26, 474], []), (41, .putfield 25, [0, 4, 2, 458, 1], []), (44, .return_, [0], [])]
set_option maxRecDepth 100000 in
def wb_k_Diary_clear : List wb_E := [(0, .aload_n 0, [], []), (1, .iconst 0, [], []), (2, .putfield 28, [0, 5, 0, 459, 0], []), (5, .return_, [0], [])]
set_option maxRecDepth 100000 in
def wb_k_Diary_add : List wb_E := [(0, .aload_n 0, [], []), (1, .getfield 28, [0, 5, 0, 459, 0], []), (4, .bipush 20, [], []), (6, .if_icmp .lt 5, [11], []), (9, .iconst (-1), [], []), (10, .ireturn, [0], []), (11, .aload_n 0, [], []), (12, .getfield 11, [0, 0, 2, 454, 1], []), (15, .aload_n 0, [], []), (16, .getfield 28, [0, 5, 0, 459, 0], []), (19, .iload_n 1, [], []), (20, .iastore, [], []), (21, .aload_n 0, [], []), (22, .getfield 15, [0, 1, 2, 455, 1], []), (25, .aload_n 0, [], []), (26, .getfield 28, [0, 5, 0, 459, 0], []), (29, .iload_n 2, [], []), (30, .iload_n 3, [], []), (31, .isub, [], []), (32, .iastore, [], []), (33, .aload_n 0, [], []), (34, .getfield 18, [0, 2, 2, 456, 1], []), (37, .aload_n 0, [], []), (38, .getfield 28, [0, 5, 0, 459, 0], []), (41, .iload 4, [], []), (43, .bastore, [], []), (44, .aload_n 0, [], []), (45, .getfield 22, [0, 3, 2, 457, 1], []), (48, .aload_n 0, [], []), (49, .getfield 28, [0, 5, 0, 459, 0], []), (52, .iload 5, [], []), (54, .bastore, [], []), (55, .aload_n 0, [], []), (56, .getfield 25, [0, 4, 2, 458, 1], []), (59, .aload_n 0, [], []), (60, .getfield 28, [0, 5, 0, 459, 0], []), (63, .iload 6, [], []), (65, .bastore, [], []), (66, .aload_n 0, [], []), (67, .dup, [], []), (68, .getfield 28, [0, 5, 0, 459, 0], []), (71, .iconst 1, [], []), (72, .iadd, [], []), (73, .putfield 28, [0, 5, 0, 459, 0], []), (76, .aload_n 0, [], []), (77, .getfield 28, [0, 5, 0, 459, 0], []), (80, .iconst 1, [], []), (81, .isub, [], []), (82, .ireturn, [0], [])]
set_option maxRecDepth 100000 in
def wb_k_Diary_habitsThatFit : List wb_E := [(0, .iconst 0, [], []), (1, .istore_n 3, [], []), (2, .iconst 0, [], []), (3, .istore 4, [], []), (5, .iload 4, [], []), (7, .iconst 5, [], []), (8, .if_icmp .ge 27, [35], []), (11, .aload_n 0, [], []), (12, .iload 4, [], []), (14, .iload_n 1, [], []), (15, .iload_n 2, [], []), (16, .invokevirtual 32, [6, 4, 1, 0, 1241, 1244, 130, 1243, 46, 0], []), (19, .ifCond .eq 10, [29], []), (22, .iload_n 3, [], []), (23, .iconst 1, [], []), (24, .iload 4, [], []), (26, .ishl, [], []), (27, .ior, [], []), (28, .istore_n 3, [], []), (29, .iinc 4 1, [], []), (32, .goto (-27), [5], []), (35, .iload_n 3, [], [0, 1, 2, 4]), (36, .ireturn, [0], [])]
set_option maxRecDepth 100000 in
def wb_k_Diary_allFit : List wb_E := [(0, .iconst 0, [], []), (1, .istore 4, [], []), (3, .iload 4, [], []), (5, .iload_n 3, [], []), (6, .if_icmp .ge 48, [54], []), (9, .iload 4, [], []), (11, .aload_n 0, [], []), (12, .getfield 28, [0, 5, 0, 459, 0], []), (15, .if_icmp .ge 39, [54], []), (18, .aload_n 0, [], []), (19, .getfield 11, [0, 0, 2, 454, 1], []), (22, .iload 4, [], []), (24, .iaload, [], []), (25, .iload_n 2, [], []), (26, .if_icmp .ne 22, [48], []), (29, .aload_n 0, [], []), (30, .iload_n 1, [], []), (31, .iload 4, [], []), (33, .invokevirtual 36, [7, 3, 1, 0, 1245, 1248, 130, 1247, 47, 0], []), (36, .aload_n 0, [], []), (37, .getfield 25, [0, 4, 2, 458, 1], []), (40, .iload 4, [], []), (42, .baload, [], []), (43, .if_icmp .eq 5, [48], []), (46, .iconst 0, [], []), (47, .ireturn, [1], []), (48, .iinc 4 1, [], []), (51, .goto (-48), [3], []), (54, .iconst 1, [], [0, 1, 2, 3, 4]), (55, .ireturn, [1], [])]
set_option maxRecDepth 100000 in
def wb_k_Diary_isBrownBy : List wb_E := [(0, .iload_n 1, [], []), (1, .tableswitch 119 1 4 #[31, 64, 71, 86], [31, 120, 32, 65, 72, 87], []), (32, .aload_n 0, [], [1]), (33, .getfield 15, [0, 1, 2, 455, 1], []), (36, .iload_n 2, [], []), (37, .iaload, [], []), (38, .ifCond .ne 12, [50], []), (41, .aload_n 0, [], []), (42, .getfield 18, [0, 2, 2, 456, 1], []), (45, .iload_n 2, [], []), (46, .baload, [], []), (47, .goto 17, [64], []), (50, .aload_n 0, [], [1]), (51, .getfield 15, [0, 1, 2, 455, 1], []), (54, .iload_n 2, [], []), (55, .iaload, [], []), (56, .ifCond .le 7, [63], []), (59, .iconst 1, [], []), (60, .goto 4, [64], []), (63, .iconst 0, [], [0, 1, 2]), (64, .ireturn, [1], [0, 1, 2]), (65, .aload_n 0, [], [1]), (66, .getfield 22, [0, 3, 2, 457, 1], []), (69, .iload_n 2, [], []), (70, .baload, [], []), (71, .ireturn, [1], []), (72, .aload_n 0, [], [1]), (73, .getfield 18, [0, 2, 2, 456, 1], []), (76, .iload_n 2, [], []), (77, .baload, [], []), (78, .ifCond .ne 7, [85], []), (81, .iconst 1, [], []), (82, .goto 4, [86], []), (85, .iconst 0, [], [0, 1, 2]), (86, .ireturn, [1], [0, 1, 2]), (87, .aload_n 0, [], [1]), (88, .getfield 15, [0, 1, 2, 455, 1], []), (91, .iload_n 2, [], []), (92, .iaload, [], []), (93, .ifCond .ne 12, [105], []), (96, .aload_n 0, [], []), (97, .getfield 18, [0, 2, 2, 456, 1], []), (100, .iload_n 2, [], []), (101, .baload, [], []), (102, .goto 17, [119], []), (105, .aload_n 0, [], [1]), (106, .getfield 15, [0, 1, 2, 455, 1], []), (109, .iload_n 2, [], []), (110, .iaload, [], []), (111, .ifCond .ge 7, [118], []), (114, .iconst 1, [], []), (115, .goto 4, [119], []), (118, .iconst 0, [], [0, 1, 2]), (119, .ireturn, [1], [0, 1, 2]), (120, .aload_n 0, [], [1]), (121, .getfield 18, [0, 2, 2, 456, 1], []), (124, .iload_n 2, [], []), (125, .baload, [], []), (126, .ireturn, [1], [])]
set_option maxRecDepth 100000 in
def wb_k_Evening_init : List wb_E := [(0, .aload_n 0, [], []), (1, .invokespecial 3, [0, 480, 145, 146], []), (4, .aload_n 0, [], []), (5, .bipush 6, [], []), (7, .newarray .int, [27, 250], []), (9, .putfield 9, [1, 2, 2, 484, 1], []), (12, .aload_n 0, [], []), (13, .bipush 6, [], []), (15, .newarray .int, [28, 250], []), (17, .putfield 15, [1, 3, 2, 485, 1], []), (20, .aload_n 0, [], []), (21, .bipush 6, [], []), (23, .newarray .int, [29, 250], []), (25, .putfield 18, [1, 4, 2, 486, 1], []), (28, .aload_n 0, [], []), (29, .bipush 6, [], []), (31, .newarray .int, [30, 250], []), (33, .putfield 21, [1, 5, 2, 488, 1], []), (36, .aload_n 0, [], []), (37, .bipush 6, [], []), (39, .newarray .int, [31, 250], []), (41, .putfield 24, [1, 6, 2, 489, 1], []), (44, .aload_n 0, [], []), (45, .sipush 1093, [], []), (48, .newarray .int, [32, 250], []), (50, .putfield 27, [1, 7, 2, 490, 1], []), (53, .aload_n 0, [], []), (54, .sipush 1093, [], []), (57, .newarray .int, [33, 250], []), (59, .putfield 30, [1, 8, 2, 491, 1], []), (62, .aload_n 0, [], []), (63, .sipush 364, [], []), (66, .newarray .int, [34, 250], []), (68, .putfield 33, [1, 9, 2, 492, 1], []), (71, .aload_n 0, [], []), (72, .sipush 364, [], []), (75, .newarray .int, [35, 250], []), (77, .putfield 36, [1, 10, 2, 493, 1], []), (80, .aload_n 0, [], []), (81, .bipush 6, [], []), (83, .newarray .int, [36, 250], []), (85, .putfield 39, [1, 11, 2, 494, 1], []), (88, .aload_n 0, [], []), (89, .bipush 6, [], []), (91, .newarray .int, [37, 250], []), (93, .putfield 42, [1, 14, 2, 500, 1], []), (96, .aload_n 0, [], []), (97, .bipush 6, [], []), (99, .newarray .int, [38, 250], []), (101, .putfield 45, [1, 15, 2, 502, 1], []), (104, .return_, [0], [])]
set_option maxRecDepth 100000 in
def wb_k_Evening_arrange : List wb_E := [(0, .aload_n 0, [], []), (1, .aload_n 1, [], []), (2, .putfield 48, [1, 0, 2, 481, 0], []), (5, .aload_n 0, [], []), (6, .aload_n 1, [], []), (7, .getfield 52, [5, 0, 0, 327, 0], []), (10, .putfield 58, [1, 1, 0, 482, 0], []), (13, .iconst 0, [], []), (14, .istore 5, [], []), (16, .iload 5, [], []), (18, .aload_n 0, [], []), (19, .getfield 58, [1, 1, 0, 482, 0], []), (22, .if_icmp .ge 70, [92], []), (25, .aload_n 0, [], []), (26, .getfield 18, [1, 4, 2, 486, 1], []), (29, .iload 5, [], []), (31, .aload_n 1, [], []), (32, .iload 5, [], []), (34, .iload_n 3, [], []), (35, .iload 5, [], []), (37, .invokestatic 59, [107, 2, 1, 200, 930, 881, 118, 880, 0, 1], []), (40, .invokevirtual 63, [54, 3, 1, 5, 931, 889, 126, 887, 888, 0], []), (43, .iastore, [], []), (44, .aload_n 0, [], []), (45, .getfield 21, [1, 5, 2, 488, 1], []), (48, .iload 5, [], []), (50, .aload_n 1, [], []), (51, .iload 5, [], []), (53, .iload_n 3, [], []), (54, .iload 4, [], []), (56, .ior, [], []), (57, .iload 5, [], []), (59, .invokestatic 59, [107, 2, 1, 200, 930, 881, 118, 880, 0, 1], []), (62, .aload_n 2, [], []), (63, .iconst 1, [], []), (64, .iload 5, [], []), (66, .invokevirtual 69, [73, 3, 1, 7, 932, 885, 128, 883, 884, 0], []), (69, .invokevirtual 73, [55, 4, 1, 5, 933, 893, 126, 891, 892, 0], []), (72, .iastore, [], []), (73, .aload_n 0, [], []), (74, .iload 5, [], []), (76, .aload_n 2, [], []), (77, .iconst 0, [], []), (78, .iload 5, [], []), (80, .invokevirtual 69, [73, 3, 1, 7, 932, 885, 128, 883, 884, 0], []), (83, .invokevirtual 77, [11, 3, 0, 1, 934, 937, 131, 936, 26, 0], []), (86, .iinc 5 1, [], []), (89, .goto (-73), [16], []), (92, .return_, [0], [0, 1, 2, 3, 4, 5])]
set_option maxRecDepth 100000 in
def wb_k_Evening_changePlaces : List wb_E := [(0, .aload_n 0, [], []), (1, .getfield 15, [1, 3, 2, 485, 1], []), (4, .iload_n 1, [], []), (5, .iaload, [], []), (6, .istore_n 3, [], []), (7, .aload_n 0, [], []), (8, .iload_n 1, [], []), (9, .aload_n 0, [], []), (10, .getfield 15, [1, 3, 2, 485, 1], []), (13, .iload_n 2, [], []), (14, .iaload, [], []), (15, .invokevirtual 77, [11, 3, 0, 1, 934, 937, 131, 936, 26, 0], []), (18, .aload_n 0, [], []), (19, .iload_n 2, [], []), (20, .iload_n 3, [], []), (21, .invokevirtual 77, [11, 3, 0, 1, 934, 937, 131, 936, 26, 0], []), (24, .return_, [0], [])]
set_option maxRecDepth 100000 in
def wb_k_Evening_moveTo : List wb_E := [(0, .aload_n 0, [], []), (1, .getfield 15, [1, 3, 2, 485, 1], []), (4, .iload_n 1, [], []), (5, .iload_n 2, [], []), (6, .iastore, [], []), (7, .aload_n 0, [], []), (8, .getfield 9, [1, 2, 2, 484, 1], []), (11, .iload_n 2, [], []), (12, .iload_n 1, [], []), (13, .iastore, [], []), (14, .aload_n 0, [], []), (15, .getfield 24, [1, 6, 2, 489, 1], []), (18, .iload_n 2, [], []), (19, .iload_n 2, [], []), (20, .aload_n 0, [], []), (21, .getfield 48, [1, 0, 2, 481, 0], []), (24, .getfield 81, [5, 3, 2, 336, 1], []), (27, .iload_n 1, [], []), (28, .iaload, [], []), (29, .invokestatic 84, [268, 2, 1, 200, 938, 732, 135, 731, 0, 0], []), (32, .iastore, [], []), (33, .return_, [0], [])]
set_option maxRecDepth 100000 in
def wb_k_Evening_unfold : List wb_E := [(0, .getstatic 89, [0, 4, 943, 0], []), (3, .aload_n 0, [], []), (4, .getfield 58, [1, 1, 0, 482, 0], []), (7, .iconst 1, [], []), (8, .iadd, [], []), (9, .iaload, [], []), (10, .istore_n 2, [], []), (11, .aload_n 0, [], []), (12, .getfield 27, [1, 7, 2, 490, 1], []), (15, .iconst 0, [], []), (16, .iload_n 2, [], []), (17, .iconst 0, [], []), (18, .invokestatic 92, [282, 4, 0, 200, 945, 947, 133, 946, 0, 0], []), (21, .aload_n 0, [], []), (22, .getfield 30, [1, 8, 2, 491, 1], []), (25, .iconst 0, [], []), (26, .iload_n 2, [], []), (27, .iconst 0, [], []), (28, .invokestatic 92, [282, 4, 0, 200, 945, 947, 133, 946, 0, 0], []), (31, .aload_n 0, [], []), (32, .getfield 39, [1, 11, 2, 494, 1], []), (35, .iconst 0, [], []), (36, .invokestatic 98, [281, 2, 0, 200, 951, 577, 133, 576, 0, 0], []), (39, .aload_n 0, [], []), (40, .iconst 0, [], []), (41, .putfield 101, [1, 12, 0, 496, 0], []), (44, .aload_n 0, [], []), (45, .getfield 27, [1, 7, 2, 490, 1], []), (48, .iconst 0, [], []), (49, .aload_n 0, [], []), (50, .getfield 48, [1, 0, 2, 481, 0], []), (53, .getfield 104, [5, 7, 0, 348, 0], []), (56, .iastore, [], []), (57, .aload_n 0, [], []), (58, .getfield 30, [1, 8, 2, 491, 1], []), (61, .iconst 0, [], []), (62, .bipush 10, [], []), (64, .aload_n 0, [], []), (65, .getfield 48, [1, 0, 2, 481, 0], []), (68, .getfield 104, [5, 7, 0, 348, 0], []), (71, .isub, [], []), (72, .iastore, [], []), (73, .iconst 0, [], []), (74, .istore_n 3, [], []), (75, .iload_n 3, [], [2]), (76, .aload_n 0, [], []), (77, .getfield 58, [1, 1, 0, 482, 0], []), (80, .if_icmp .ge 44, [124], []), (83, .iload_n 3, [], []), (84, .iload_n 1, [], []), (85, .if_icmp .ne 8, [93], []), (88, .aload_n 0, [], []), (89, .iload_n 3, [], []), (90, .invokevirtual 106, [13, 2, 0, 1, 952, 955, 131, 954, 27, 0], []), (93, .aload_n 0, [], [2]), (94, .getfield 21, [1, 5, 2, 488, 1], []), (97, .aload_n 0, [], []), (98, .getfield 9, [1, 2, 2, 484, 1], []), (101, .iload_n 3, [], []), (102, .iaload, [], []), (103, .iaload, [], []), (104, .iconst 4, [], []), (105, .if_icmp .ne 8, [113], []), (108, .aload_n 0, [], []), (109, .iload_n 3, [], []), (110, .invokevirtual 110, [14, 2, 0, 1, 958, 961, 131, 960, 28, 0], []), (113, .aload_n 0, [], [2]), (114, .iload_n 3, [], []), (115, .invokevirtual 113, [16, 2, 0, 1, 962, 965, 131, 964, 29, 0], []), (118, .iinc 3 1, [], []), (121, .goto (-46), [75], []), (124, .iload_n 1, [], [2, 3]), (125, .aload_n 0, [], []), (126, .getfield 58, [1, 1, 0, 482, 0], []), (129, .if_icmp .ne 11, [140], []), (132, .aload_n 0, [], []), (133, .aload_n 0, [], []), (134, .getfield 58, [1, 1, 0, 482, 0], []), (137, .invokevirtual 106, [13, 2, 0, 1, 952, 955, 131, 954, 27, 0], []), (140, .return_, [0], [0, 1, 2, 3])]
set_option maxRecDepth 100000 in
def wb_k_Evening_putRight : List wb_E := [(0, .getstatic 89, [0, 4, 943, 0], []), (3, .iload_n 1, [], []), (4, .iaload, [], []), (5, .istore_n 2, [], []), (6, .iconst 0, [], []), (7, .istore_n 3, [], []), (8, .iconst 0, [], []), (9, .istore 4, [], []), (11, .iload_n 2, [], []), (12, .istore 5, [], []), (14, .iload 5, [], []), (16, .getstatic 89, [0, 4, 943, 0], []), (19, .iload_n 1, [], []), (20, .iconst 1, [], []), (21, .iadd, [], []), (22, .iaload, [], []), (23, .if_icmp .ge 47, [70], []), (26, .iload_n 3, [], []), (27, .aload_n 0, [], []), (28, .getfield 27, [1, 7, 2, 490, 1], []), (31, .iload 5, [], []), (33, .iaload, [], []), (34, .iadd, [], []), (35, .istore_n 3, [], []), (36, .iload 4, [], []), (38, .aload_n 0, [], []), (39, .getfield 30, [1, 8, 2, 491, 1], []), (42, .iload 5, [], []), (44, .iaload, [], []), (45, .iadd, [], []), (46, .istore 4, [], []), (48, .aload_n 0, [], []), (49, .getfield 27, [1, 7, 2, 490, 1], []), (52, .iload 5, [], []), (54, .iconst 0, [], []), (55, .iastore, [], []), (56, .aload_n 0, [], []), (57, .getfield 30, [1, 8, 2, 491, 1], []), (60, .iload 5, [], []), (62, .iconst 0, [], []), (63, .iastore, [], []), (64, .iinc 5 1, [], []), (67, .goto (-53), [14], []), (70, .aload_n 0, [], [5]), (71, .getfield 27, [1, 7, 2, 490, 1], []), (74, .iload_n 2, [], []), (75, .getstatic 116, [0, 2, 956, 1], []), (78, .iload_n 1, [], []), (79, .iaload, [], []), (80, .iconst 1, [], []), (81, .isub, [], []), (82, .iconst 2, [], []), (83, .idiv, [], []), (84, .iadd, [], []), (85, .iload_n 3, [], []), (86, .iastore, [], []), (87, .aload_n 0, [], []), (88, .getfield 30, [1, 8, 2, 491, 1], []), (91, .iload_n 2, [], []), (92, .iload 4, [], []), (94, .iastore, [], []), (95, .aload_n 0, [], []), (96, .iconst 0, [], []), (97, .putfield 101, [1, 12, 0, 496, 0], []), (100, .aload_n 0, [], []), (101, .getfield 39, [1, 11, 2, 494, 1], []), (104, .iconst 0, [], []), (105, .invokestatic 98, [281, 2, 0, 200, 951, 577, 133, 576, 0, 0], []), (108, .return_, [0], [])]
set_option maxRecDepth 100000 in
def wb_k_Evening_gatherSeen : List wb_E := [(0, .getstatic 89, [0, 4, 943, 0], []), (3, .iload_n 1, [], []), (4, .iaload, [], []), (5, .istore_n 2, [], []), (6, .getstatic 116, [0, 2, 956, 1], []), (9, .iload_n 1, [], []), (10, .aload_n 0, [], []), (11, .getfield 24, [1, 6, 2, 489, 1], []), (14, .iload_n 1, [], []), (15, .iaload, [], []), (16, .isub, [], []), (17, .iaload, [], []), (18, .istore_n 3, [], []), (19, .aload_n 0, [], []), (20, .getfield 33, [1, 9, 2, 492, 1], []), (23, .iload_n 2, [], []), (24, .getstatic 89, [0, 4, 943, 0], []), (27, .iload_n 1, [], []), (28, .iconst 1, [], []), (29, .iadd, [], []), (30, .iaload, [], []), (31, .iconst 0, [], []), (32, .invokestatic 92, [282, 4, 0, 200, 945, 947, 133, 946, 0, 0], []), (35, .aload_n 0, [], []), (36, .getfield 36, [1, 10, 2, 493, 1], []), (39, .iload_n 2, [], []), (40, .getstatic 89, [0, 4, 943, 0], []), (43, .iload_n 1, [], []), (44, .iconst 1, [], []), (45, .iadd, [], []), (46, .iaload, [], []), (47, .iconst 0, [], []), (48, .invokestatic 92, [282, 4, 0, 200, 945, 947, 133, 946, 0, 0], []), (51, .iconst 0, [], []), (52, .istore 4, [], []), (54, .iload 4, [], []), (56, .getstatic 116, [0, 2, 956, 1], []), (59, .iload_n 1, [], []), (60, .iaload, [], []), (61, .if_icmp .ge 55, [116], []), (64, .aload_n 0, [], []), (65, .getfield 33, [1, 9, 2, 492, 1], []), (68, .iload_n 2, [], []), (69, .iload 4, [], []), (71, .iload_n 3, [], []), (72, .idiv, [], []), (73, .iadd, [], []), (74, .dup2, [], []), (75, .iaload, [], []), (76, .aload_n 0, [], []), (77, .getfield 27, [1, 7, 2, 490, 1], []), (80, .iload_n 2, [], []), (81, .iload 4, [], []), (83, .iadd, [], []), (84, .iaload, [], []), (85, .iadd, [], []), (86, .iastore, [], []), (87, .aload_n 0, [], []), (88, .getfield 36, [1, 10, 2, 493, 1], []), (91, .iload_n 2, [], []), (92, .iload 4, [], []), (94, .iload_n 3, [], []), (95, .idiv, [], []), (96, .iadd, [], []), (97, .dup2, [], []), (98, .iaload, [], []), (99, .aload_n 0, [], []), (100, .getfield 30, [1, 8, 2, 491, 1], []), (103, .iload_n 2, [], []), (104, .iload 4, [], []), (106, .iadd, [], []), (107, .iaload, [], []), (108, .iadd, [], []), (109, .iastore, [], []), (110, .iinc 4 1, [], []), (113, .goto (-59), [54], []), (116, .return_, [0], [0, 1, 2, 3, 4])]
set_option maxRecDepth 100000 in
def wb_k_Evening_seenOf : List wb_E := [(0, .iload_n 1, [], []), (1, .getstatic 116, [0, 2, 956, 1], []), (4, .iload_n 2, [], []), (5, .aload_n 0, [], []), (6, .getfield 24, [1, 6, 2, 489, 1], []), (9, .iload_n 2, [], []), (10, .iaload, [], []), (11, .isub, [], []), (12, .iaload, [], []), (13, .idiv, [], []), (14, .ireturn, [0], [])]
set_option maxRecDepth 100000 in
def wb_k_Evening_spread : List wb_E := [(0, .aload_n 0, [], []), (1, .getfield 18, [1, 4, 2, 486, 1], []), (4, .aload_n 0, [], []), (5, .getfield 9, [1, 2, 2, 484, 1], []), (8, .iload_n 1, [], []), (9, .iaload, [], []), (10, .iaload, [], []), (11, .istore_n 2, [], []), (12, .bipush 10, [], []), (14, .iload_n 2, [], []), (15, .isub, [], []), (16, .istore_n 3, [], []), (17, .getstatic 89, [0, 4, 943, 0], []), (20, .iload_n 1, [], []), (21, .iaload, [], []), (22, .istore 4, [], []), (24, .iconst 0, [], []), (25, .istore 5, [], []), (27, .iload 5, [], [6, 7]), (29, .getstatic 116, [0, 2, 956, 1], []), (32, .iload_n 1, [], []), (33, .iaload, [], []), (34, .if_icmp .ge 87, [121], []), (37, .aload_n 0, [], []), (38, .getfield 27, [1, 7, 2, 490, 1], []), (41, .iload 4, [], []), (43, .iload 5, [], []), (45, .iadd, [], []), (46, .iaload, [], []), (47, .istore 6, [], []), (49, .aload_n 0, [], []), (50, .getfield 30, [1, 8, 2, 491, 1], []), (53, .iload 4, [], []), (55, .iload 5, [], []), (57, .iadd, [], []), (58, .iaload, [], []), (59, .istore 7, [], []), (61, .iload 6, [], []), (63, .iload 7, [], []), (65, .iadd, [], []), (66, .ifCond .le 49, [115], []), (69, .aload_n 0, [], []), (70, .iload_n 1, [], []), (71, .iload 5, [], []), (73, .aload_n 0, [], []), (74, .iload_n 1, [], []), (75, .iconst 1, [], []), (76, .iload 5, [], []), (78, .invokevirtual 119, [22, 4, 1, 1, 966, 969, 131, 967, 968, 0], []), (81, .iload 6, [], []), (83, .iload_n 2, [], []), (84, .imul, [], []), (85, .iload 7, [], []), (87, .iload_n 3, [], []), (88, .imul, [], []), (89, .invokevirtual 122, [17, 6, 0, 1, 1000, 1003, 131, 1002, 35, 0], []), (92, .aload_n 0, [], []), (93, .iload_n 1, [], []), (94, .iload 5, [], []), (96, .aload_n 0, [], []), (97, .iload_n 1, [], []), (98, .iconst 0, [], []), (99, .iload 5, [], []), (101, .invokevirtual 119, [22, 4, 1, 1, 966, 969, 131, 967, 968, 0], []), (104, .iload 6, [], []), (106, .iload_n 3, [], []), (107, .imul, [], []), (108, .iload 7, [], []), (110, .iload_n 2, [], []), (111, .imul, [], []), (112, .invokevirtual 122, [17, 6, 0, 1, 1000, 1003, 131, 1002, 35, 0], []), (115, .iinc 5 1, [], [6, 7]), (118, .goto (-91), [27], []), (121, .return_, [0], [0, 1, 2, 3, 4, 5, 6, 7])]
set_option maxRecDepth 100000 in
def wb_k_Evening_lay : List wb_E := [(0, .getstatic 89, [0, 4, 943, 0], []), (3, .iload_n 1, [], []), (4, .iconst 1, [], []), (5, .iadd, [], []), (6, .iaload, [], []), (7, .iload_n 2, [], []), (8, .iadd, [], []), (9, .iload_n 3, [], []), (10, .getstatic 116, [0, 2, 956, 1], []), (13, .iload_n 1, [], []), (14, .iaload, [], []), (15, .imul, [], []), (16, .iadd, [], []), (17, .istore 6, [], []), (19, .aload_n 0, [], []), (20, .getfield 27, [1, 7, 2, 490, 1], []), (23, .iload 6, [], []), (25, .dup2, [], []), (26, .iaload, [], []), (27, .iload 4, [], []), (29, .iadd, [], []), (30, .iastore, [], []), (31, .aload_n 0, [], []), (32, .getfield 30, [1, 8, 2, 491, 1], []), (35, .iload 6, [], []), (37, .dup2, [], []), (38, .iaload, [], []), (39, .iload 5, [], []), (41, .iadd, [], []), (42, .iastore, [], []), (43, .getstatic 126, [0, 3, 1004, 1], []), (46, .aload_n 0, [], []), (47, .getfield 58, [1, 1, 0, 482, 0], []), (50, .iconst 1, [], []), (51, .isub, [], []), (52, .iload_n 1, [], []), (53, .isub, [], []), (54, .iaload, [], []), (55, .istore 7, [], []), (57, .iload_n 3, [], []), (58, .iconst 2, [], []), (59, .if_icmp .ne 23, [82], []), (62, .aload_n 0, [], []), (63, .dup, [], []), (64, .getfield 101, [1, 12, 0, 496, 0], []), (67, .iload 4, [], []), (69, .iload 5, [], []), (71, .iadd, [], []), (72, .iload 7, [], []), (74, .imul, [], []), (75, .iadd, [], []), (76, .putfield 101, [1, 12, 0, 496, 0], []), (79, .goto 32, [111], []), (82, .aload_n 0, [], [2, 6]), (83, .getfield 39, [1, 11, 2, 494, 1], []), (86, .aload_n 0, [], []), (87, .getfield 9, [1, 2, 2, 484, 1], []), (90, .iload_n 1, [], []), (91, .iaload, [], []), (92, .dup2, [], []), (93, .iaload, [], []), (94, .iload_n 3, [], []), (95, .iconst 1, [], []), (96, .if_icmp .ne 8, [104], []), (99, .iload 5, [], []), (101, .goto 5, [106], []), (104, .iload 4, [], [0, 1, 2, 3, 5, 6]), (106, .iload 7, [], [0, 1, 2, 3, 4, 5, 6]), (108, .imul, [], []), (109, .iadd, [], []), (110, .iastore, [], []), (111, .return_, [0], [0, 1, 2, 3, 4, 5, 6, 7])]
set_option maxRecDepth 100000 in
def wb_k_Evening_allWrong : List wb_E := [(0, .iconst 0, [], []), (1, .istore_n 1, [], []), (2, .iconst 0, [], []), (3, .istore_n 2, [], []), (4, .iload_n 2, [], []), (5, .aload_n 0, [], []), (6, .getfield 58, [1, 1, 0, 482, 0], []), (9, .if_icmp .ge 18, [27], []), (12, .iload_n 1, [], []), (13, .aload_n 0, [], []), (14, .getfield 39, [1, 11, 2, 494, 1], []), (17, .iload_n 2, [], []), (18, .iaload, [], []), (19, .iadd, [], []), (20, .istore_n 1, [], []), (21, .iinc 2 1, [], []), (24, .goto (-20), [4], []), (27, .iload_n 1, [], [0, 2]), (28, .ireturn, [0], [])]
set_option maxRecDepth 100000 in
def wb_k_Evening_weightOfRow : List wb_E := [(0, .getstatic 89, [0, 4, 943, 0], []), (3, .aload_n 0, [], []), (4, .getfield 58, [1, 1, 0, 482, 0], []), (7, .iaload, [], []), (8, .iload_n 1, [], []), (9, .getstatic 116, [0, 2, 956, 1], []), (12, .aload_n 0, [], []), (13, .getfield 58, [1, 1, 0, 482, 0], []), (16, .iaload, [], []), (17, .irem, [], []), (18, .iadd, [], []), (19, .istore_n 3, [], []), (20, .iload_n 2, [], []), (21, .ifCond .eq 12, [33], []), (24, .aload_n 0, [], []), (25, .getfield 27, [1, 7, 2, 490, 1], []), (28, .iload_n 3, [], []), (29, .iaload, [], []), (30, .goto 9, [39], []), (33, .aload_n 0, [], [1, 2]), (34, .getfield 30, [1, 8, 2, 491, 1], []), (37, .iload_n 3, [], []), (38, .iaload, [], []), (39, .ireturn, [0], [0, 1, 2, 3])]
set_option maxRecDepth 100000 in
def wb_k_Evening_weightOfWrongs : List wb_E := [(0, .iconst 0, [], []), (1, .istore_n 2, [], []), (2, .iconst 0, [], []), (3, .istore_n 3, [], []), (4, .iload_n 3, [], []), (5, .getstatic 116, [0, 2, 956, 1], []), (8, .aload_n 0, [], []), (9, .getfield 58, [1, 1, 0, 482, 0], []), (12, .iaload, [], []), (13, .if_icmp .ge 71, [84], []), (16, .iconst 0, [], []), (17, .iload_n 3, [], []), (18, .aload_n 0, [], []), (19, .getfield 58, [1, 1, 0, 482, 0], []), (22, .invokestatic 129, [21, 3, 1, 200, 978, 980, 131, 979, 0, 0], []), (25, .iload_n 1, [], []), (26, .if_icmp .ne 21, [47], []), (29, .iload_n 2, [], []), (30, .aload_n 0, [], []), (31, .getfield 27, [1, 7, 2, 490, 1], []), (34, .getstatic 89, [0, 4, 943, 0], []), (37, .aload_n 0, [], []), (38, .getfield 58, [1, 1, 0, 482, 0], []), (41, .iaload, [], []), (42, .iload_n 3, [], []), (43, .iadd, [], []), (44, .iaload, [], []), (45, .iadd, [], []), (46, .istore_n 2, [], []), (47, .iconst 1, [], []), (48, .iload_n 3, [], []), (49, .aload_n 0, [], []), (50, .getfield 58, [1, 1, 0, 482, 0], []), (53, .invokestatic 129, [21, 3, 1, 200, 978, 980, 131, 979, 0, 0], []), (56, .iload_n 1, [], []), (57, .if_icmp .ne 21, [78], []), (60, .iload_n 2, [], []), (61, .aload_n 0, [], []), (62, .getfield 30, [1, 8, 2, 491, 1], []), (65, .getstatic 89, [0, 4, 943, 0], []), (68, .aload_n 0, [], []), (69, .getfield 58, [1, 1, 0, 482, 0], []), (72, .iaload, [], []), (73, .iload_n 3, [], []), (74, .iadd, [], []), (75, .iaload, [], []), (76, .iadd, [], []), (77, .istore_n 2, [], []), (78, .iinc 3 1, [], []), (81, .goto (-77), [4], []), (84, .iload_n 2, [], [0, 1, 3]), (85, .ireturn, [0], [])]
set_option maxRecDepth 100000 in
def wb_k_Evening_binsOf : List wb_E := [(0, .iconst 0, [], []), (1, .istore_n 3, [], []), (2, .iload_n 1, [], []), (3, .istore 4, [], []), (5, .iconst 0, [], []), (6, .istore 5, [], []), (8, .iload 5, [], [1]), (10, .iload_n 2, [], []), (11, .if_icmp .ge 26, [37], []), (14, .iload 4, [], []), (16, .iconst 3, [], []), (17, .irem, [], []), (18, .iload_n 0, [], []), (19, .if_icmp .ne 6, [25], []), (22, .iinc 3 1, [], []), (25, .iload 4, [], [1]), (27, .iconst 3, [], []), (28, .idiv, [], []), (29, .istore 4, [], []), (31, .iinc 5 1, [], []), (34, .goto (-26), [8], []), (37, .iload_n 3, [], [0, 1, 2, 4, 5]), (38, .ireturn, [0], [])]
set_option maxRecDepth 100000 in
def wb_k_Evening_binAt : List wb_E := [(0, .aload_n 0, [], []), (1, .getfield 9, [1, 2, 2, 484, 1], []), (4, .iload_n 1, [], []), (5, .iaload, [], []), (6, .istore 4, [], []), (8, .iload_n 2, [], []), (9, .ifCond .eq 7, [16], []), (12, .iconst 1, [], []), (13, .goto 4, [17], []), (16, .iconst 0, [], [2, 5, 6]), (17, .istore 5, [], [2, 5, 6]), (19, .iload_n 3, [], []), (20, .getstatic 116, [0, 2, 956, 1], []), (23, .iload_n 1, [], []), (24, .iaload, [], []), (25, .irem, [], []), (26, .istore 6, [], []), (28, .aload_n 0, [], []), (29, .getfield 21, [1, 5, 2, 488, 1], []), (32, .iload 4, [], []), (34, .iaload, [], []), (35, .tableswitch 98 1 6 #[37, 47, 66, 76, 86, 88], [37, 133, 72, 82, 101, 111, 121, 123], []), (72, .aload_n 0, [], [2, 3, 4]), (73, .iload_n 1, [], []), (74, .iload 5, [], []), (76, .iload 6, [], []), (78, .invokevirtual 133, [24, 4, 1, 1, 970, 973, 131, 972, 30, 0], []), (81, .ireturn, [0], []), (82, .iload_n 1, [], [0, 2, 3, 4]), (83, .ifCond .ne 8, [91], []), (86, .iload 5, [], []), (88, .goto 12, [100], []), (91, .iload 6, [], [0, 1, 2, 3, 4]), (93, .iconst 3, [], []), (94, .irem, [], []), (95, .iload 5, [], []), (97, .invokestatic 136, [23, 2, 1, 200, 981, 983, 131, 982, 0, 0], []), (100, .ireturn, [0], [0, 1, 2, 3, 4, 5, 6]), (101, .aload_n 0, [], [2, 3, 4]), (102, .iload_n 1, [], []), (103, .iload 5, [], []), (105, .iload 6, [], []), (107, .invokevirtual 139, [25, 4, 1, 1, 984, 987, 131, 986, 32, 0], []), (110, .ireturn, [0], []), (111, .aload_n 0, [], [2, 3, 4]), (112, .iload_n 1, [], []), (113, .iload 5, [], []), (115, .iload 6, [], []), (117, .invokevirtual 142, [26, 4, 1, 1, 988, 991, 131, 990, 33, 0], []), (120, .ireturn, [0], []), (121, .iconst 2, [], [0, 1, 2, 3, 4, 5, 6]), (122, .ireturn, [0], []), (123, .aload_n 0, [], [2, 3, 4]), (124, .iload_n 1, [], []), (125, .iload 5, [], []), (127, .iload 6, [], []), (129, .invokevirtual 145, [27, 4, 1, 1, 992, 995, 131, 994, 34, 0], []), (132, .ireturn, [0], []), (133, .iload 5, [], [0, 1, 2, 3, 4, 6]), (135, .ireturn, [0], [])]
set_option maxRecDepth 100000 in
def wb_k_Evening_oneBin : List wb_E := [(0, .iload_n 0, [], []), (1, .iconst 2, [], []), (2, .if_icmp .ne 7, [9], []), (5, .iload_n 1, [], []), (6, .goto 4, [10], []), (9, .iload_n 0, [], [1]), (10, .ireturn, [0], [0, 1])]
set_option maxRecDepth 100000 in
def wb_k_Evening_binByMost : List wb_E := [(0, .aload_n 0, [], []), (1, .iload_n 3, [], []), (2, .iload_n 1, [], []), (3, .invokevirtual 148, [15, 3, 1, 1, 974, 977, 131, 976, 31, 0], []), (6, .istore 4, [], []), (8, .iconst 1, [], []), (9, .iload 4, [], []), (11, .aload_n 0, [], []), (12, .getfield 24, [1, 6, 2, 489, 1], []), (15, .iload_n 1, [], []), (16, .iaload, [], []), (17, .invokestatic 129, [21, 3, 1, 200, 978, 980, 131, 979, 0, 0], []), (20, .iconst 0, [], []), (21, .iload 4, [], []), (23, .aload_n 0, [], []), (24, .getfield 24, [1, 6, 2, 489, 1], []), (27, .iload_n 1, [], []), (28, .iaload, [], []), (29, .invokestatic 129, [21, 3, 1, 200, 978, 980, 131, 979, 0, 0], []), (32, .isub, [], []), (33, .istore 5, [], []), (35, .iload 5, [], []), (37, .ifCond .ne 5, [42], []), (40, .iload_n 2, [], []), (41, .ireturn, [0], []), (42, .iload 5, [], [0, 1, 2, 3, 4]), (44, .ifCond .le 7, [51], []), (47, .iconst 1, [], []), (48, .goto 4, [52], []), (51, .iconst 0, [], [0, 1, 2, 3, 4, 5]), (52, .ireturn, [0], [0, 1, 2, 3, 4, 5])]
set_option maxRecDepth 100000 in
def wb_k_Evening_binOfModel : List wb_E := [(0, .aload_n 0, [], []), (1, .getfield 48, [1, 0, 2, 481, 0], []), (4, .getfield 151, [5, 5, 2, 343, 1], []), (7, .aload_n 0, [], []), (8, .getfield 9, [1, 2, 2, 484, 1], []), (11, .iload_n 1, [], []), (12, .iaload, [], []), (13, .iaload, [], []), (14, .istore 4, [], []), (16, .iload 4, [], []), (18, .ifCond .lt 23, [41], []), (21, .iload 4, [], []), (23, .aload_n 0, [], []), (24, .getfield 58, [1, 1, 0, 482, 0], []), (27, .if_icmp .ge 14, [41], []), (30, .aload_n 0, [], []), (31, .getfield 15, [1, 3, 2, 485, 1], []), (34, .iload 4, [], []), (36, .iaload, [], []), (37, .iload_n 1, [], []), (38, .if_icmp .lt 5, [43], []), (41, .iload_n 2, [], [0, 1, 3, 4]), (42, .ireturn, [0], []), (43, .iload_n 3, [], [1]), (44, .getstatic 116, [0, 2, 956, 1], []), (47, .aload_n 0, [], []), (48, .getfield 15, [1, 3, 2, 485, 1], []), (51, .iload 4, [], []), (53, .iaload, [], []), (54, .iaload, [], []), (55, .idiv, [], []), (56, .iconst 3, [], []), (57, .irem, [], []), (58, .iload_n 2, [], []), (59, .invokestatic 136, [23, 2, 1, 200, 981, 983, 131, 982, 0, 0], []), (62, .ireturn, [0], [])]
set_option maxRecDepth 100000 in
def wb_k_Evening_binByWorlds : List wb_E := [(0, .getstatic 89, [0, 4, 943, 0], []), (3, .iload_n 1, [], []), (4, .iaload, [], []), (5, .aload_n 0, [], []), (6, .iload_n 3, [], []), (7, .iload_n 1, [], []), (8, .invokevirtual 148, [15, 3, 1, 1, 974, 977, 131, 976, 31, 0], []), (11, .iadd, [], []), (12, .istore 4, [], []), (14, .aload_n 0, [], []), (15, .getfield 18, [1, 4, 2, 486, 1], []), (18, .aload_n 0, [], []), (19, .getfield 9, [1, 2, 2, 484, 1], []), (22, .iload_n 1, [], []), (23, .iaload, [], []), (24, .iaload, [], []), (25, .istore 5, [], []), (27, .aload_n 0, [], []), (28, .getfield 33, [1, 9, 2, 492, 1], []), (31, .iload 4, [], []), (33, .iaload, [], []), (34, .iload_n 2, [], []), (35, .iconst 1, [], []), (36, .if_icmp .ne 8, [44], []), (39, .iload 5, [], []), (41, .goto 8, [49], []), (44, .bipush 10, [], [1, 3, 6, 7]), (46, .iload 5, [], []), (48, .isub, [], []), (49, .imul, [], [1, 3, 6, 7]), (50, .istore 6, [], []), (52, .aload_n 0, [], []), (53, .getfield 36, [1, 10, 2, 493, 1], []), (56, .iload 4, [], []), (58, .iaload, [], []), (59, .iload_n 2, [], []), (60, .ifCond .ne 8, [68], []), (63, .iload 5, [], []), (65, .goto 8, [73], []), (68, .bipush 10, [], [0, 1, 3, 4, 7]), (70, .iload 5, [], []), (72, .isub, [], []), (73, .imul, [], [0, 1, 3, 4, 5, 7]), (74, .istore 7, [], []), (76, .iload 6, [], []), (78, .iload 7, [], []), (80, .if_icmp .ne 5, [85], []), (83, .iload_n 2, [], []), (84, .ireturn, [0], []), (85, .iload 6, [], [0, 1, 2, 3, 4, 5]), (87, .iload 7, [], []), (89, .if_icmp .le 7, [96], []), (92, .iconst 1, [], []), (93, .goto 4, [97], []), (96, .iconst 0, [], [0, 1, 2, 3, 4, 5, 6, 7]), (97, .ireturn, [0], [0, 1, 2, 3, 4, 5, 6, 7])]
set_option maxRecDepth 100000 in
def wb_k_Evening_binByLaw : List wb_E := [(0, .aload_n 0, [], []), (1, .iload_n 3, [], []), (2, .iload_n 1, [], []), (3, .invokevirtual 148, [15, 3, 1, 1, 974, 977, 131, 976, 31, 0], []), (6, .istore 4, [], []), (8, .iconst 1, [], []), (9, .iload 4, [], []), (11, .aload_n 0, [], []), (12, .getfield 24, [1, 6, 2, 489, 1], []), (15, .iload_n 1, [], []), (16, .iaload, [], []), (17, .invokestatic 129, [21, 3, 1, 200, 978, 980, 131, 979, 0, 0], []), (20, .istore 5, [], []), (22, .iconst 0, [], []), (23, .iload 4, [], []), (25, .aload_n 0, [], []), (26, .getfield 24, [1, 6, 2, 489, 1], []), (29, .iload_n 1, [], []), (30, .iaload, [], []), (31, .invokestatic 129, [21, 3, 1, 200, 978, 980, 131, 979, 0, 0], []), (34, .istore 6, [], []), (36, .iload_n 3, [], []), (37, .iconst 3, [], []), (38, .irem, [], []), (39, .iconst 1, [], []), (40, .if_icmp .ne 7, [47], []), (43, .iconst 1, [], []), (44, .goto 4, [48], []), (47, .iconst 0, [], [3, 4, 7]), (48, .istore 7, [], [3, 4, 7]), (50, .aload_n 0, [], []), (51, .getfield 48, [1, 0, 2, 481, 0], []), (54, .getfield 154, [5, 6, 2, 346, 1], []), (57, .aload_n 0, [], []), (58, .getfield 9, [1, 2, 2, 484, 1], []), (61, .iload_n 1, [], []), (62, .iaload, [], []), (63, .iload_n 2, [], []), (64, .iload 5, [], []), (66, .iload 6, [], []), (68, .iload_n 1, [], []), (69, .ifCond .ne 7, [76], []), (72, .iconst (-1), [], []), (73, .goto 5, [78], []), (76, .iload 7, [], [0, 1, 2, 3, 4, 5, 6]), (78, .invokevirtual 158, [40, 6, 1, 3, 996, 999, 127, 997, 998, 0], [0, 1, 2, 3, 4, 5, 6, 7]), (81, .ireturn, [0], [])]
set_option maxRecDepth 100000 in
def wb_k_Evening_goBy : List wb_E := [(0, .aload_n 0, [], []), (1, .iload_n 1, [], []), (2, .bipush 16, [], []), (4, .iload_n 2, [], []), (5, .imul, [], []), (6, .invokestatic 164, [30, 2, 1, 200, 1010, 1012, 131, 1011, 0, 0], []), (9, .aload_n 0, [], []), (10, .getfield 48, [1, 0, 2, 481, 0], []), (13, .getfield 104, [5, 7, 0, 348, 0], []), (16, .if_icmp .ge 7, [23], []), (19, .iconst 1, [], []), (20, .goto 4, [24], []), (23, .iconst 0, [], [3, 4, 5, 6, 7]), (24, .putfield 167, [1, 13, 3, 499, 0], [3, 4, 5, 6, 7]), (27, .aload_n 0, [], []), (28, .iconst 0, [], []), (29, .putfield 171, [1, 16, 0, 505, 0], []), (32, .aload_n 0, [], []), (33, .iconst 0, [], []), (34, .putfield 174, [1, 17, 0, 508, 0], []), (37, .iconst 0, [], []), (38, .istore_n 3, [], []), (39, .iconst 0, [], []), (40, .istore 4, [], []), (42, .iload 4, [], [5, 6, 7]), (44, .aload_n 0, [], []), (45, .getfield 58, [1, 1, 0, 482, 0], []), (48, .if_icmp .ge 179, [227], []), (51, .aload_n 0, [], []), (52, .getfield 9, [1, 2, 2, 484, 1], []), (55, .iload 4, [], []), (57, .iaload, [], []), (58, .istore 5, [], []), (60, .iload_n 1, [], []), (61, .bipush 16, [], []), (63, .iload_n 2, [], []), (64, .imul, [], []), (65, .iconst 1, [], []), (66, .iadd, [], []), (67, .iload 5, [], []), (69, .iadd, [], []), (70, .invokestatic 164, [30, 2, 1, 200, 1010, 1012, 131, 1011, 0, 0], []), (73, .aload_n 0, [], []), (74, .getfield 18, [1, 4, 2, 486, 1], []), (77, .iload 5, [], []), (79, .iaload, [], []), (80, .if_icmp .ge 7, [87], []), (83, .iconst 1, [], []), (84, .goto 4, [88], []), (87, .iconst 0, [], [6, 7]), (88, .istore 6, [], [6, 7]), (90, .iload 6, [], []), (92, .aload_n 0, [], []), (93, .getfield 167, [1, 13, 0, 499, 0], []), (96, .if_icmp .ne 7, [103], []), (99, .iconst 1, [], []), (100, .goto 4, [104], []), (103, .iconst 0, [], [6, 7]), (104, .istore 7, [], [6, 7]), (106, .aload_n 0, [], []), (107, .getfield 45, [1, 15, 2, 502, 1], []), (110, .iload 5, [], []), (112, .iload 7, [], []), (114, .ifCond .eq 7, [121], []), (117, .iconst 1, [], []), (118, .goto 4, [122], []), (121, .iconst 0, [], [6]), (122, .iastore, [], [6]), (123, .aload_n 0, [], []), (124, .getfield 42, [1, 14, 2, 500, 1], []), (127, .iload 5, [], []), (129, .aload_n 0, [], []), (130, .iload 4, [], []), (132, .iload 7, [], []), (134, .iload_n 3, [], []), (135, .invokevirtual 119, [22, 4, 1, 1, 966, 969, 131, 967, 968, 0], []), (138, .iastore, [], []), (139, .iload_n 3, [], []), (140, .aload_n 0, [], []), (141, .getfield 42, [1, 14, 2, 500, 1], []), (144, .iload 5, [], []), (146, .iaload, [], []), (147, .getstatic 116, [0, 2, 956, 1], []), (150, .iload 4, [], []), (152, .iaload, [], []), (153, .imul, [], []), (154, .iadd, [], []), (155, .istore_n 3, [], []), (156, .aload_n 0, [], []), (157, .getfield 42, [1, 14, 2, 500, 1], []), (160, .iload 5, [], []), (162, .iaload, [], []), (163, .iconst 2, [], []), (164, .if_icmp .ne 22, [186], []), (167, .aload_n 0, [], []), (168, .dup, [], []), (169, .getfield 174, [1, 17, 0, 508, 0], []), (172, .aload_n 0, [], []), (173, .getfield 48, [1, 0, 2, 481, 0], []), (176, .getfield 177, [5, 9, 0, 358, 0], []), (179, .iadd, [], []), (180, .putfield 174, [1, 17, 0, 508, 0], []), (183, .goto 38, [221], []), (186, .aload_n 0, [], [6, 7]), (187, .iload 5, [], []), (189, .invokevirtual 180, [29, 2, 1, 1, 1017, 1020, 131, 1018, 1019, 0], []), (192, .ifCond .eq 29, [221], []), (195, .aload_n 0, [], []), (196, .dup, [], []), (197, .getfield 174, [1, 17, 0, 508, 0], []), (200, .aload_n 0, [], []), (201, .getfield 48, [1, 0, 2, 481, 0], []), (204, .getfield 184, [5, 8, 0, 354, 0], []), (207, .iadd, [], []), (208, .putfield 174, [1, 17, 0, 508, 0], []), (211, .aload_n 0, [], []), (212, .dup, [], []), (213, .getfield 171, [1, 16, 0, 505, 0], []), (216, .iconst 1, [], []), (217, .iadd, [], []), (218, .putfield 171, [1, 16, 0, 505, 0], []), (221, .iinc 4 1, [], [5, 6, 7]), (224, .goto (-182), [42], []), (227, .return_, [0], [0, 1, 2, 3, 4, 5, 6, 7])]
set_option maxRecDepth 100000 in
def wb_k_Evening_isWrong : List wb_E := [(0, .aload_n 0, [], []), (1, .getfield 42, [1, 14, 2, 500, 1], []), (4, .iload_n 1, [], []), (5, .iaload, [], []), (6, .aload_n 0, [], []), (7, .getfield 167, [1, 13, 0, 499, 0], []), (10, .ifCond .eq 7, [17], []), (13, .iconst 0, [], []), (14, .goto 4, [18], []), (17, .iconst 1, [], [0, 1]), (18, .if_icmp .ne 7, [25], [0, 1]), (21, .iconst 1, [], []), (22, .goto 4, [26], []), (25, .iconst 0, [], [0, 1]), (26, .ireturn, [1], [0, 1])]
set_option maxRecDepth 100000 in
def wb_k_Evening_lotOfTen : List wb_E := [(0, .iload_n 0, [], []), (1, .bipush 53, [], []), (3, .invokestatic 187, [31, 2, 1, 200, 1013, 1015, 131, 1014, 0, 0], []), (6, .iload_n 1, [], []), (7, .invokestatic 187, [31, 2, 1, 200, 1013, 1015, 131, 1014, 0, 0], []), (10, .istore_n 2, [], []), (11, .iload_n 2, [], []), (12, .iconst 1, [], []), (13, .iushr, [], []), (14, .bipush 10, [], []), (16, .irem, [], []), (17, .ireturn, [0], [])]
set_option maxRecDepth 100000 in
def wb_k_Evening_stir : List wb_E := [(0, .iload_n 0, [], []), (1, .iload_n 1, [], []), (2, .ixor, [], []), (3, .ldc 190, [0, 1103515245, 1016], []), (5, .imul, [], []), (6, .sipush 12345, [], []), (9, .iadd, [], []), (10, .istore_n 2, [], []), (11, .iload_n 2, [], []), (12, .iload_n 2, [], []), (13, .bipush 15, [], []), (15, .iushr, [], []), (16, .ixor, [], []), (17, .ireturn, [0], [])]
set_option maxRecDepth 100000 in
def wb_k_Fence_init : List wb_E := [(0, .aload_n 0, [], []), (1, .invokespecial 3, [0, 551, 145, 146], []), (4, .aload_n 0, [], []), (5, .bipush 6, [], []), (7, .newarray .int, [39, 250], []), (9, .putfield 9, [2, 0, 2, 552, 1], []), (12, .aload_n 0, [], []), (13, .bipush 6, [], []), (15, .newarray .int, [40, 250], []), (17, .putfield 15, [2, 1, 2, 553, 1], []), (20, .return_, [0], [])]
set_option maxRecDepth 100000 in
def wb_k_Fence_settle : List wb_E := [(0, .iconst 0, [], []), (1, .istore_n 3, [], []), (2, .iload_n 3, [], []), (3, .iload_n 2, [], []), (4, .if_icmp .ge 26, [30], []), (7, .aload_n 0, [], []), (8, .getfield 15, [2, 1, 2, 553, 1], []), (11, .aload_n 1, [], []), (12, .iconst 0, [], []), (13, .iload_n 3, [], []), (14, .invokevirtual 20, [73, 3, 1, 7, 1207, 885, 128, 883, 884, 0], []), (17, .aload_n 1, [], []), (18, .iconst 2, [], []), (19, .iload_n 3, [], []), (20, .invokevirtual 20, [73, 3, 1, 7, 1207, 885, 128, 883, 884, 0], []), (23, .iastore, [], []), (24, .iinc 3 1, [], []), (27, .goto (-25), [2], []), (30, .aload_n 0, [], [1, 3]), (31, .iconst 0, [], []), (32, .putfield 24, [2, 2, 0, 554, 0], []), (35, .aload_n 0, [], [1, 3]), (36, .getfield 24, [2, 2, 0, 554, 0], []), (39, .bipush 20, [], []), (41, .if_icmp .ge 24, [65], []), (44, .aload_n 0, [], []), (45, .iload_n 2, [], []), (46, .invokevirtual 28, [34, 2, 1, 2, 1208, 1211, 132, 1210, 45, 0], []), (49, .ifCond .eq 16, [65], []), (52, .aload_n 0, [], []), (53, .dup, [], []), (54, .getfield 24, [2, 2, 0, 554, 0], []), (57, .iconst 1, [], []), (58, .iadd, [], []), (59, .putfield 24, [2, 2, 0, 554, 0], []), (62, .goto (-27), [35], []), (65, .aload_n 0, [], [1, 3]), (66, .iconst 0, [], []), (67, .putfield 32, [2, 3, 0, 556, 0], []), (70, .iconst 0, [], []), (71, .istore_n 3, [], []), (72, .iload_n 3, [], [1]), (73, .iload_n 2, [], []), (74, .if_icmp .ge 30, [104], []), (77, .aload_n 0, [], []), (78, .dup, [], []), (79, .getfield 32, [2, 3, 0, 556, 0], []), (82, .aload_n 0, [], []), (83, .getfield 15, [2, 1, 2, 553, 1], []), (86, .iload_n 3, [], []), (87, .iaload, [], []), (88, .getstatic 35, [0, 2, 1213, 1], []), (91, .iload_n 3, [], []), (92, .iaload, [], []), (93, .imul, [], []), (94, .iadd, [], []), (95, .putfield 32, [2, 3, 0, 556, 0], []), (98, .iinc 3 1, [], []), (101, .goto (-29), [72], []), (104, .return_, [0], [0, 1, 2, 3])]
set_option maxRecDepth 100000 in
def wb_k_Fence_lookOver : List wb_E := [(0, .iconst 0, [], []), (1, .istore_n 2, [], []), (2, .aload_n 0, [], []), (3, .getfield 15, [2, 1, 2, 553, 1], []), (6, .iconst 0, [], []), (7, .aload_n 0, [], []), (8, .getfield 9, [2, 0, 2, 552, 1], []), (11, .iconst 0, [], []), (12, .bipush 6, [], []), (14, .invokestatic 38, [1, 1212, 920, 919, 137], []), (17, .iconst 1, [], []), (18, .istore_n 3, [], []), (19, .iload_n 3, [], [4]), (20, .iload_n 1, [], []), (21, .iconst 1, [], []), (22, .isub, [], []), (23, .if_icmp .ge 59, [82], []), (26, .aload_n 0, [], []), (27, .getfield 9, [2, 0, 2, 552, 1], []), (30, .iload_n 3, [], []), (31, .iconst 1, [], []), (32, .isub, [], []), (33, .iaload, [], []), (34, .istore 4, [], []), (36, .iload 4, [], []), (38, .iconst 2, [], []), (39, .if_icmp .eq 37, [76], []), (42, .iload 4, [], []), (44, .aload_n 0, [], []), (45, .getfield 9, [2, 0, 2, 552, 1], []), (48, .iload_n 3, [], []), (49, .iconst 1, [], []), (50, .iadd, [], []), (51, .iaload, [], []), (52, .if_icmp .ne 24, [76], []), (55, .iload 4, [], []), (57, .aload_n 0, [], []), (58, .getfield 9, [2, 0, 2, 552, 1], []), (61, .iload_n 3, [], []), (62, .iaload, [], []), (63, .if_icmp .eq 13, [76], []), (66, .aload_n 0, [], []), (67, .getfield 15, [2, 1, 2, 553, 1], []), (70, .iload_n 3, [], []), (71, .iload 4, [], []), (73, .iastore, [], []), (74, .iconst 1, [], []), (75, .istore_n 2, [], []), (76, .iinc 3 1, [], [4]), (79, .goto (-60), [19], []), (82, .iload_n 2, [], [0, 1, 3, 4]), (83, .ireturn, [1], [])]
set_option maxRecDepth 100000 in
def wb_k_Laws_init : List wb_E := [(0, .aload_n 0, [], []), (1, .invokespecial 3, [0, 295, 145, 146], []), (4, .aload_n 0, [], []), (5, .sipush 402, [], []), (8, .newarray .int, [41, 250], []), (10, .putfield 11, [3, 0, 2, 296, 1], []), (13, .aload_n 0, [], []), (14, .sipush 402, [], []), (17, .newarray .int, [42, 250], []), (19, .putfield 17, [3, 1, 2, 297, 1], []), (22, .aload_n 0, [], []), (23, .bipush 6, [], []), (25, .newarray .int, [43, 250], []), (27, .putfield 20, [3, 2, 2, 298, 1], []), (30, .aload_n 0, [], []), (31, .bipush 7, [], []), (33, .newarray .int, [44, 250], []), (35, .putfield 23, [3, 3, 2, 299, 1], []), (38, .aload_n 0, [], []), (39, .bipush 40, [], []), (41, .newarray .int, [45, 250], []), (43, .putfield 26, [3, 4, 2, 300, 1], []), (46, .aload_n 0, [], []), (47, .sipush 1296, [], []), (50, .newarray .byte, [46, 162], []), (52, .putfield 29, [3, 5, 2, 301, 1], []), (55, .return_, [0], [])]
set_option maxRecDepth 100000 in
def wb_k_Laws_clear : List wb_E := [(0, .aload_n 0, [], []), (1, .iconst 0, [], []), (2, .putfield 33, [3, 6, 0, 302, 0], []), (5, .return_, [0], [])]
set_option maxRecDepth 100000 in
def wb_k_Laws_begin : List wb_E := [(0, .aload_n 0, [], []), (1, .getfield 20, [3, 2, 2, 298, 1], []), (4, .iload_n 1, [], []), (5, .aload_n 0, [], []), (6, .getfield 33, [3, 6, 0, 302, 0], []), (9, .iastore, [], []), (10, .return_, [0], [])]
set_option maxRecDepth 100000 in
def wb_k_Laws_emit : List wb_E := [(0, .aload_n 0, [], []), (1, .getfield 33, [3, 6, 0, 302, 0], []), (4, .istore_n 3, [], []), (5, .aload_n 0, [], []), (6, .getfield 33, [3, 6, 0, 302, 0], []), (9, .aload_n 0, [], []), (10, .getfield 11, [3, 0, 2, 296, 1], []), (13, .arraylength, [], []), (14, .if_icmp .ge 33, [47], []), (17, .aload_n 0, [], []), (18, .getfield 11, [3, 0, 2, 296, 1], []), (21, .aload_n 0, [], []), (22, .getfield 33, [3, 6, 0, 302, 0], []), (25, .iload_n 1, [], []), (26, .iastore, [], []), (27, .aload_n 0, [], []), (28, .getfield 17, [3, 1, 2, 297, 1], []), (31, .aload_n 0, [], []), (32, .getfield 33, [3, 6, 0, 302, 0], []), (35, .iload_n 2, [], []), (36, .iastore, [], []), (37, .aload_n 0, [], []), (38, .dup, [], []), (39, .getfield 33, [3, 6, 0, 302, 0], []), (42, .iconst 1, [], []), (43, .iadd, [], []), (44, .putfield 33, [3, 6, 0, 302, 0], []), (47, .iload_n 3, [], [0, 1, 2]), (48, .ireturn, [0], [])]
set_option maxRecDepth 100000 in
def wb_k_Laws_aim : List wb_E := [(0, .iload_n 1, [], []), (1, .ifCond .lt 21, [22], []), (4, .iload_n 1, [], []), (5, .aload_n 0, [], []), (6, .getfield 33, [3, 6, 0, 302, 0], []), (9, .if_icmp .ge 13, [22], []), (12, .aload_n 0, [], []), (13, .getfield 17, [3, 1, 2, 297, 1], []), (16, .iload_n 1, [], []), (17, .aload_n 0, [], []), (18, .getfield 33, [3, 6, 0, 302, 0], []), (21, .iastore, [], []), (22, .return_, [0], [0, 1])]
set_option maxRecDepth 100000 in
def wb_k_Laws_bin : List wb_E := [(0, .aload_n 0, [], []), (1, .getfield 29, [3, 5, 2, 301, 1], []), (4, .iload_n 1, [], []), (5, .iload_n 2, [], []), (6, .iload_n 3, [], []), (7, .iload 4, [], []), (9, .iload 5, [], []), (11, .invokestatic 37, [41, 5, 1, 200, 864, 866, 127, 865, 0, 0], []), (14, .baload, [], []), (15, .ireturn, [0], [])]
set_option maxRecDepth 100000 in
def wb_k_Laws_caseOf : List wb_E := [(0, .iload_n 2, [], []), (1, .bipush 6, [], []), (3, .imul, [], []), (4, .iload_n 3, [], []), (5, .iadd, [], []), (6, .istore 5, [], []), (8, .iload_n 0, [], []), (9, .sipush 216, [], []), (12, .imul, [], []), (13, .iload 5, [], []), (15, .iconst 2, [], []), (16, .imul, [], []), (17, .iload_n 1, [], []), (18, .iadd, [], []), (19, .iconst 3, [], []), (20, .imul, [], []), (21, .iadd, [], []), (22, .iload 4, [], []), (24, .iadd, [], []), (25, .iconst 1, [], []), (26, .iadd, [], []), (27, .ireturn, [0], [])]
set_option maxRecDepth 100000 in
def wb_k_Laws_reckonCases : List wb_E := [(0, .aload_n 0, [], []), (1, .getfield 23, [3, 3, 2, 299, 1], []), (4, .iconst 3, [], []), (5, .aload_n 1, [], []), (6, .getfield 41, [5, 3, 2, 337, 1], []), (9, .iload_n 2, [], []), (10, .iaload, [], []), (11, .iastore, [], []), (12, .aload_n 0, [], []), (13, .getfield 23, [3, 3, 2, 299, 1], []), (16, .iconst 4, [], []), (17, .aload_n 1, [], []), (18, .getfield 46, [5, 2, 2, 333, 1], []), (21, .iload_n 2, [], []), (22, .iaload, [], []), (23, .iastore, [], []), (24, .aload_n 0, [], []), (25, .getfield 23, [3, 3, 2, 299, 1], []), (28, .iconst 5, [], []), (29, .iload_n 2, [], []), (30, .iastore, [], []), (31, .iconst 5, [], []), (32, .aload_n 1, [], []), (33, .getfield 41, [5, 3, 2, 337, 1], []), (36, .iload_n 2, [], []), (37, .iaload, [], []), (38, .invokestatic 49, [268, 2, 1, 200, 851, 732, 135, 731, 0, 0], []), (41, .istore_n 3, [], []), (42, .iconst 0, [], []), (43, .istore 4, [], []), (45, .iload 4, [], [1, 5, 6]), (47, .iload_n 3, [], []), (48, .if_icmp .gt 53, [101], []), (51, .iconst 0, [], []), (52, .istore 5, [], []), (54, .iload 4, [], [1, 6]), (56, .iload 5, [], []), (58, .iadd, [], []), (59, .iload_n 3, [], []), (60, .if_icmp .gt 35, [95], []), (63, .iconst (-1), [], []), (64, .istore 6, [], []), (66, .iload 6, [], [1]), (68, .iconst 1, [], []), (69, .if_icmp .gt 20, [89], []), (72, .aload_n 0, [], []), (73, .iload_n 2, [], []), (74, .iload 4, [], []), (76, .iload 5, [], []), (78, .iload 6, [], []), (80, .invokevirtual 55, [43, 5, 0, 3, 852, 855, 127, 854, 21, 0], []), (83, .iinc 6 1, [], []), (86, .goto (-20), [66], []), (89, .iinc 5 1, [], [1, 6]), (92, .goto (-38), [54], []), (95, .iinc 4 1, [], [1, 5, 6]), (98, .goto (-53), [45], []), (101, .return_, [0], [0, 1, 2, 3, 4, 5, 6])]
set_option maxRecDepth 100000 in
def wb_k_Laws_reckonSigns : List wb_E := [(0, .aload_n 0, [], []), (1, .getfield 23, [3, 3, 2, 299, 1], []), (4, .iconst 1, [], []), (5, .iload_n 2, [], []), (6, .iastore, [], []), (7, .aload_n 0, [], []), (8, .getfield 23, [3, 3, 2, 299, 1], []), (11, .iconst 2, [], []), (12, .iload_n 3, [], []), (13, .iastore, [], []), (14, .aload_n 0, [], []), (15, .getfield 23, [3, 3, 2, 299, 1], []), (18, .bipush 6, [], []), (20, .iload 4, [], []), (22, .iastore, [], []), (23, .iconst 0, [], []), (24, .istore 5, [], []), (26, .iload 5, [], [6]), (28, .iconst 1, [], []), (29, .if_icmp .gt 55, [84], []), (32, .aload_n 0, [], []), (33, .getfield 23, [3, 3, 2, 299, 1], []), (36, .iconst 0, [], []), (37, .iload 5, [], []), (39, .iastore, [], []), (40, .aload_n 0, [], []), (41, .aload_n 0, [], []), (42, .getfield 20, [3, 2, 2, 298, 1], []), (45, .iload_n 1, [], []), (46, .iaload, [], []), (47, .invokevirtual 59, [44, 2, 1, 3, 856, 859, 127, 858, 22, 0], []), (50, .ifCond .le 7, [57], []), (53, .iconst 1, [], []), (54, .goto 4, [58], []), (57, .iconst 0, [], [6]), (58, .istore 6, [], [6]), (60, .aload_n 0, [], []), (61, .getfield 29, [3, 5, 2, 301, 1], []), (64, .iload_n 1, [], []), (65, .iload 5, [], []), (67, .iload_n 2, [], []), (68, .iload_n 3, [], []), (69, .iload 4, [], []), (71, .invokestatic 37, [41, 5, 1, 200, 864, 866, 127, 865, 0, 0], []), (74, .iload 6, [], []), (76, .i2b, [], []), (77, .bastore, [], []), (78, .iinc 5 1, [], []), (81, .goto (-55), [26], []), (84, .return_, [0], [0, 1, 2, 3, 4, 5, 6])]
set_option maxRecDepth 100000 in
def wb_k_Laws_run : List wb_E := [(0, .iconst 0, [], []), (1, .istore_n 2, [], []), (2, .iload_n 1, [], []), (3, .istore_n 3, [], []), (4, .iload_n 3, [], [1, 4, 5, 6]), (5, .ifCond .lt 183, [188], []), (8, .iload_n 3, [], []), (9, .aload_n 0, [], []), (10, .getfield 33, [3, 6, 0, 302, 0], []), (13, .if_icmp .ge 175, [188], []), (16, .aload_n 0, [], []), (17, .getfield 11, [3, 0, 2, 296, 1], []), (20, .iload_n 3, [], []), (21, .iaload, [], []), (22, .iconst 3, [], []), (23, .if_icmp .eq 165, [188], []), (26, .aload_n 0, [], []), (27, .getfield 11, [3, 0, 2, 296, 1], []), (30, .iload_n 3, [], []), (31, .iaload, [], []), (32, .istore 4, [], []), (34, .iload 4, [], []), (36, .ifCond .eq 9, [45], []), (39, .iload 4, [], []), (41, .iconst 1, [], []), (42, .if_icmp .ne 49, [91], []), (45, .iload_n 2, [], [1, 5, 6]), (46, .aload_n 0, [], []), (47, .getfield 26, [3, 4, 2, 300, 1], []), (50, .arraylength, [], []), (51, .if_icmp .ge 131, [182], []), (54, .aload_n 0, [], []), (55, .getfield 26, [3, 4, 2, 300, 1], []), (58, .iload_n 2, [], []), (59, .iload 4, [], []), (61, .ifCond .ne 12, [73], []), (64, .aload_n 0, [], []), (65, .getfield 17, [3, 1, 2, 297, 1], []), (68, .iload_n 3, [], []), (69, .iaload, [], []), (70, .goto 14, [84], []), (73, .aload_n 0, [], [1, 4, 5, 6]), (74, .getfield 23, [3, 3, 2, 299, 1], []), (77, .aload_n 0, [], []), (78, .getfield 17, [3, 1, 2, 297, 1], []), (81, .iload_n 3, [], []), (82, .iaload, [], []), (83, .iaload, [], []), (84, .iastore, [], [1, 4, 5, 6]), (85, .iinc 2 1, [], []), (88, .goto 94, [182], []), (91, .iload_n 2, [], [1, 5, 6]), (92, .iconst 2, [], []), (93, .if_icmp .lt 89, [182], []), (96, .aload_n 0, [], []), (97, .getfield 26, [3, 4, 2, 300, 1], []), (100, .iload_n 2, [], []), (101, .iconst 2, [], []), (102, .isub, [], []), (103, .iaload, [], []), (104, .istore 5, [], []), (106, .aload_n 0, [], []), (107, .getfield 26, [3, 4, 2, 300, 1], []), (110, .iload_n 2, [], []), (111, .iconst 1, [], []), (112, .isub, [], []), (113, .iaload, [], []), (114, .istore 6, [], []), (116, .iload 4, [], []), (118, .bipush 47, [], []), (120, .if_icmp .ne 10, [130], []), (123, .iload 6, [], []), (125, .ifCond .ne 5, [130], []), (128, .iconst 0, [], []), (129, .ireturn, [0], []), (130, .iload 4, [], [1]), (132, .iconst 2, [], []), (133, .if_icmp .eq 26, [159], []), (136, .aload_n 0, [], []), (137, .getfield 26, [3, 4, 2, 300, 1], []), (140, .iload_n 2, [], []), (141, .iconst 2, [], []), (142, .isub, [], []), (143, .iload 4, [], []), (145, .iload 5, [], []), (147, .iload 6, [], []), (149, .invokestatic 63, [45, 3, 1, 200, 860, 862, 127, 861, 0, 0], []), (152, .iastore, [], []), (153, .iinc 2 (-1), [], []), (156, .goto 26, [182], []), (159, .iinc 2 (-2), [], [1, 4]), (162, .iload 5, [], []), (164, .iload 6, [], []), (166, .if_icmp .lt 16, [182], []), (169, .iload_n 3, [], []), (170, .aload_n 0, [], []), (171, .getfield 17, [3, 1, 2, 297, 1], []), (174, .iload_n 3, [], []), (175, .iaload, [], []), (176, .iconst 1, [], []), (177, .isub, [], []), (178, .invokestatic 67, [267, 2, 1, 200, 863, 729, 135, 728, 0, 0], []), (181, .istore_n 3, [], []), (182, .iinc 3 1, [], [1, 4, 5, 6]), (185, .goto (-181), [4], []), (188, .iload_n 2, [], [1, 3, 4, 5, 6]), (189, .ifCond .le 14, [203], []), (192, .aload_n 0, [], []), (193, .getfield 26, [3, 4, 2, 300, 1], []), (196, .iload_n 2, [], []), (197, .iconst 1, [], []), (198, .isub, [], []), (199, .iaload, [], []), (200, .goto 4, [204], []), (203, .iconst 0, [], [0, 1, 2, 3, 4, 5, 6]), (204, .ireturn, [0], [0, 1, 2, 3, 4, 5, 6])]
set_option maxRecDepth 100000 in
def wb_k_Laws_reckon : List wb_E := [(0, .iload_n 0, [], []), (1, .tableswitch 43 42 45 #[39, 31, 43, 35], [31, 44, 40, 32, 44, 36], []), (32, .iload_n 1, [], [0]), (33, .iload_n 2, [], []), (34, .iadd, [], []), (35, .ireturn, [0], []), (36, .iload_n 1, [], [0]), (37, .iload_n 2, [], []), (38, .isub, [], []), (39, .ireturn, [0], []), (40, .iload_n 1, [], [0]), (41, .iload_n 2, [], []), (42, .imul, [], []), (43, .ireturn, [0], []), (44, .iload_n 2, [], [0]), (45, .ifCond .ne 7, [52], []), (48, .iconst 0, [], []), (49, .goto 6, [55], []), (52, .iload_n 1, [], [0]), (53, .iload_n 2, [], []), (54, .idiv, [], []), (55, .ireturn, [0], [0, 1, 2])]
set_option maxRecDepth 100000 in
def wb_k_Past_init : List wb_E := [(0, .aload_n 0, [], []), (1, .invokespecial 1, [0, 433, 145, 146], []), (4, .aload_n 0, [], []), (5, .bipush 40, [], []), (7, .anewarray 9, [47, 434, 435], []), (10, .putfield 11, [4, 0, 2, 437, 1], []), (13, .iconst 0, [], []), (14, .istore_n 1, [], []), (15, .iload_n 1, [], []), (16, .bipush 40, [], []), (18, .if_icmp .ge 22, [40], []), (21, .aload_n 0, [], []), (22, .getfield 11, [4, 0, 2, 437, 1], []), (25, .iload_n 1, [], []), (26, .new 9, [17, 434, 391, 128], []), (29, .dup, [], []), (30, .invokespecial 15, [72, 1, 0, 201, 436, 394, 128, 393, 0, 1], []), (33, .aastore, [], []), (34, .iinc 1 1, [], []), (37, .goto (-22), [15], []), (40, .return_, [0], [0, 1])]
set_option maxRecDepth 100000 in
def wb_k_Past_clear : List wb_E := [(0, .aload_n 0, [], []), (1, .iconst 0, [], []), (2, .putfield 16, [4, 2, 0, 439, 0], []), (5, .return_, [0], [])]
set_option maxRecDepth 100000 in
def wb_k_Past_remember : List wb_E := [(0, .aload_n 0, [], []), (1, .getfield 11, [4, 0, 2, 437, 1], []), (4, .aload_n 0, [], []), (5, .getfield 20, [4, 1, 0, 438, 0], []), (8, .aaload, [], []), (9, .aload_n 1, [], []), (10, .invokevirtual 23, [76, 2, 0, 7, 914, 917, 128, 915, 916, 0], []), (13, .aload_n 0, [], []), (14, .aload_n 0, [], []), (15, .getfield 20, [4, 1, 0, 438, 0], []), (18, .iconst 1, [], []), (19, .iadd, [], []), (20, .bipush 40, [], []), (22, .irem, [], []), (23, .putfield 20, [4, 1, 0, 438, 0], []), (26, .aload_n 0, [], []), (27, .aload_n 0, [], []), (28, .getfield 16, [4, 2, 0, 439, 0], []), (31, .iconst 1, [], []), (32, .iadd, [], []), (33, .bipush 40, [], []), (35, .invokestatic 27, [268, 2, 1, 200, 921, 732, 135, 731, 0, 0], []), (38, .putfield 16, [4, 2, 0, 439, 0], []), (41, .return_, [0], [])]
set_option maxRecDepth 100000 in
def wb_k_Past_recall : List wb_E := [(0, .aload_n 0, [], []), (1, .getfield 16, [4, 2, 0, 439, 0], []), (4, .ifCond .ne 5, [9], []), (7, .iconst 0, [], []), (8, .ireturn, [1], []), (9, .aload_n 0, [], []), (10, .aload_n 0, [], []), (11, .getfield 20, [4, 1, 0, 438, 0], []), (14, .bipush 40, [], []), (16, .iadd, [], []), (17, .iconst 1, [], []), (18, .isub, [], []), (19, .bipush 40, [], []), (21, .irem, [], []), (22, .putfield 20, [4, 1, 0, 438, 0], []), (25, .aload_n 0, [], []), (26, .dup, [], []), (27, .getfield 16, [4, 2, 0, 439, 0], []), (30, .iconst 1, [], []), (31, .isub, [], []), (32, .putfield 16, [4, 2, 0, 439, 0], []), (35, .aload_n 1, [], []), (36, .aload_n 0, [], []), (37, .getfield 11, [4, 0, 2, 437, 1], []), (40, .aload_n 0, [], []), (41, .getfield 20, [4, 1, 0, 438, 0], []), (44, .aaload, [], []), (45, .invokevirtual 23, [76, 2, 0, 7, 914, 917, 128, 915, 916, 0], []), (48, .iconst 1, [], []), (49, .ireturn, [1], [])]
set_option maxRecDepth 100000 in
def wb_k_Plan_init : List wb_E := [(0, .aload_n 0, [], []), (1, .invokespecial 3, [0, 289, 145, 146], []), (4, .aload_n 0, [], []), (5, .bipush 6, [], []), (7, .newarray .long, [48, 249], []), (9, .putfield 9, [5, 1, 2, 330, 1], []), (12, .aload_n 0, [], []), (13, .bipush 6, [], []), (15, .newarray .int, [49, 250], []), (17, .putfield 15, [5, 2, 2, 332, 1], []), (20, .aload_n 0, [], []), (21, .bipush 6, [], []), (23, .newarray .int, [50, 250], []), (25, .putfield 19, [5, 3, 2, 335, 1], []), (28, .aload_n 0, [], []), (29, .bipush 6, [], []), (31, .newarray .int, [51, 250], []), (33, .putfield 22, [5, 4, 2, 339, 1], []), (36, .aload_n 0, [], []), (37, .bipush 6, [], []), (39, .newarray .int, [52, 250], []), (41, .putfield 25, [5, 5, 2, 341, 1], []), (44, .aload_n 0, [], []), (45, .new 28, [13, 290, 291, 127], []), (48, .dup, [], []), (49, .invokespecial 30, [35, 1, 0, 201, 292, 294, 127, 293, 0, 1], []), (52, .putfield 31, [5, 6, 2, 344, 1], []), (55, .aload_n 0, [], []), (56, .invokevirtual 35, [51, 1, 0, 5, 318, 321, 126, 319, 320, 0], []), (59, .return_, [0], [])]
set_option maxRecDepth 100000 in
def wb_k_Plan_clear : List wb_E := [(0, .aload_n 0, [], []), (1, .iconst 0, [], []), (2, .putfield 38, [5, 0, 0, 326, 0], []), (5, .aload_n 0, [], []), (6, .getfield 31, [5, 6, 2, 344, 1], []), (9, .invokevirtual 42, [36, 1, 0, 3, 322, 325, 127, 323, 324, 0], []), (12, .aload_n 0, [], []), (13, .iconst 5, [], []), (14, .putfield 43, [5, 7, 0, 347, 0], []), (17, .aload_n 0, [], []), (18, .bipush 10, [], []), (20, .putfield 46, [5, 8, 0, 351, 0], []), (23, .aload_n 0, [], []), (24, .iconst 5, [], []), (25, .putfield 49, [5, 9, 0, 355, 0], []), (28, .aload_n 0, [], []), (29, .iconst 3, [], []), (30, .putfield 52, [5, 10, 0, 359, 0], []), (33, .aload_n 0, [], []), (34, .iconst 0, [], []), (35, .putfield 55, [5, 11, 0, 362, 0], []), (38, .return_, [0], [])]
set_option maxRecDepth 100000 in
def wb_k_Plan_find : List wb_E := [(0, .iconst 0, [], []), (1, .istore_n 3, [], []), (2, .iload_n 3, [], [2]), (3, .aload_n 0, [], []), (4, .getfield 38, [5, 0, 0, 326, 0], []), (7, .if_icmp .ge 22, [29], []), (10, .aload_n 0, [], []), (11, .getfield 9, [5, 1, 2, 330, 1], []), (14, .iload_n 3, [], []), (15, .laload, [], []), (16, .lload_n 1, [], []), (17, .lcmp, [], []), (18, .ifCond .ne 5, [23], []), (21, .iload_n 3, [], []), (22, .ireturn, [0], []), (23, .iinc 3 1, [], [2]), (26, .goto (-24), [2], []), (29, .iconst (-1), [], [0, 1, 2, 3]), (30, .ireturn, [0], [])]
set_option maxRecDepth 100000 in
def wb_k_Plan_reckonLaws : List wb_E := [(0, .iconst 0, [], []), (1, .istore_n 1, [], []), (2, .iload_n 1, [], []), (3, .aload_n 0, [], []), (4, .getfield 38, [5, 0, 0, 326, 0], []), (7, .if_icmp .ge 29, [36], []), (10, .aload_n 0, [], []), (11, .getfield 22, [5, 4, 2, 339, 1], []), (14, .iload_n 1, [], []), (15, .iaload, [], []), (16, .bipush 6, [], []), (18, .if_icmp .ne 12, [30], []), (21, .aload_n 0, [], []), (22, .getfield 31, [5, 6, 2, 344, 1], []), (25, .aload_n 0, [], []), (26, .iload_n 1, [], []), (27, .invokevirtual 58, [42, 3, 0, 3, 847, 850, 127, 848, 849, 0], []), (30, .iinc 1 1, [], []), (33, .goto (-31), [2], []), (36, .return_, [0], [0, 1])]
set_option maxRecDepth 100000 in
def wb_k_Plan_sureOf : List wb_E := [(0, .iload_n 2, [], []), (1, .ifCond .eq 8, [9], []), (4, .bipush 10, [], []), (6, .goto 9, [15], []), (9, .aload_n 0, [], [2]), (10, .getfield 15, [5, 2, 2, 332, 1], []), (13, .iload_n 1, [], []), (14, .iaload, [], []), (15, .ireturn, [0], [0, 1, 2])]
set_option maxRecDepth 100000 in
def wb_k_Plan_habitOf : List wb_E := [(0, .iload_n 2, [], []), (1, .ifCond .eq 5, [6], []), (4, .iconst 0, [], []), (5, .ireturn, [0], []), (6, .iload_n 3, [], [2]), (7, .iconst (-1), [], []), (8, .if_icmp .ne 12, [20], []), (11, .aload_n 0, [], []), (12, .getfield 22, [5, 4, 2, 339, 1], []), (15, .iload_n 1, [], []), (16, .iaload, [], []), (17, .goto 4, [21], []), (20, .iload_n 3, [], [0, 1, 2]), (21, .ireturn, [0], [0, 1, 2, 3])]
set_option maxRecDepth 100000 in
def wb_k_Reader_init : List wb_E := [(0, .aload_n 0, [], []), (1, .invokespecial 3, [0, 168, 145, 146], []), (4, .aload_n 0, [], []), (5, .new 9, [19, 169, 170, 121], []), (8, .dup, [], []), (9, .invokespecial 11, [82, 1, 0, 201, 171, 173, 121, 172, 0, 0], []), (12, .putfield 12, [6, 0, 2, 251, 1], []), (15, .aload_n 0, [], []), (16, .sipush 400, [], []), (19, .newarray .int, [53, 250], []), (21, .putfield 18, [6, 1, 2, 252, 1], []), (24, .aload_n 0, [], []), (25, .iconst (-1), [], []), (26, .putfield 22, [6, 9, 0, 261, 0], []), (29, .return_, [0], [])]
set_option maxRecDepth 100000 in
def wb_k_Reader_parse : List wb_E := [(0, .aload_n 0, [], []), (1, .getfield 12, [6, 0, 2, 251, 1], []), (4, .aload_n 1, [], []), (5, .invokevirtual 26, [83, 2, 0, 9, 668, 671, 121, 669, 670, 0], []), (8, .aload_n 0, [], []), (9, .aload_n 2, [], []), (10, .putfield 30, [6, 2, 2, 253, 0], []), (13, .aload_n 0, [], []), (14, .getfield 30, [6, 2, 2, 253, 0], []), (17, .invokevirtual 34, [51, 1, 0, 5, 771, 321, 126, 319, 320, 0], []), (20, .aload_n 0, [], []), (21, .iconst 0, [], []), (22, .putfield 39, [6, 3, 0, 254, 0], []), (25, .aload_n 0, [], []), (26, .aload_n 0, [], []), (27, .getfield 12, [6, 0, 2, 251, 1], []), (30, .getfield 42, [9, 1, 2, 231, 1], []), (33, .iconst 0, [], []), (34, .iaload, [], []), (35, .putfield 45, [6, 4, 0, 255, 0], []), (38, .aload_n 0, [], []), (39, .iconst 0, [], []), (40, .putfield 48, [6, 8, 0, 259, 0], []), (43, .aload_n 0, [], []), (44, .iconst (-1), [], []), (45, .putfield 22, [6, 9, 0, 261, 0], []), (48, .aload_n 0, [], []), (49, .iconst 0, [], []), (50, .putfield 51, [6, 6, 0, 257, 0], []), (53, .iconst 0, [], []), (54, .istore_n 3, [], []), (55, .iload_n 3, [], [1, 2]), (56, .sipush 400, [], []), (59, .if_icmp .gt 100, [159], []), (62, .aload_n 0, [], []), (63, .getfield 48, [6, 8, 0, 259, 0], []), (66, .ifCond .ne 93, [159], []), (69, .aload_n 0, [], []), (70, .getfield 45, [6, 4, 0, 255, 0], []), (73, .bipush 103, [], []), (75, .if_icmp .eq 84, [159], []), (78, .aload_n 0, [], []), (79, .getfield 45, [6, 4, 0, 255, 0], []), (82, .ifCond .eq 10, [92], []), (85, .aload_n 0, [], []), (86, .invokevirtual 54, [62, 1, 0, 6, 772, 775, 120, 774, 8, 0], []), (89, .goto 58, [147], []), (92, .aload_n 0, [], [1, 2]), (93, .getfield 30, [6, 2, 2, 253, 0], []), (96, .getfield 57, [5, 0, 0, 328, 0], []), (99, .bipush 6, [], []), (101, .if_icmp .ge 41, [142], []), (104, .aload_n 0, [], []), (105, .aload_n 0, [], []), (106, .getfield 30, [6, 2, 2, 253, 0], []), (109, .getfield 57, [5, 0, 0, 328, 0], []), (112, .invokevirtual 60, [63, 2, 0, 6, 792, 795, 120, 794, 13, 0], []), (115, .aload_n 0, [], []), (116, .aload_n 0, [], []), (117, .getfield 30, [6, 2, 2, 253, 0], []), (120, .getfield 57, [5, 0, 0, 328, 0], []), (123, .invokevirtual 64, [64, 2, 0, 6, 800, 803, 120, 802, 14, 0], []), (126, .aload_n 0, [], []), (127, .getfield 30, [6, 2, 2, 253, 0], []), (130, .dup, [], []), (131, .getfield 57, [5, 0, 0, 328, 0], []), (134, .iconst 1, [], []), (135, .iadd, [], []), (136, .putfield 57, [5, 0, 0, 328, 0], []), (139, .goto 8, [147], []), (142, .aload_n 0, [], [1, 2]), (143, .iconst 2, [], []), (144, .invokevirtual 67, [58, 2, 0, 6, 776, 779, 120, 778, 9, 0], []), (147, .aload_n 0, [], [1, 2]), (148, .bipush 59, [], []), (150, .invokevirtual 70, [60, 2, 0, 6, 780, 783, 120, 782, 10, 0], []), (153, .iinc 3 1, [], []), (156, .goto (-101), [55], []), (159, .aload_n 0, [], [1, 2, 3]), (160, .getfield 48, [6, 8, 0, 259, 0], []), (163, .ifCond .ne 26, [189], []), (166, .aload_n 0, [], []), (167, .getfield 51, [6, 6, 0, 257, 0], []), (170, .ifCond .eq 19, [189], []), (173, .aload_n 0, [], []), (174, .aload_n 0, [], []), (175, .getfield 51, [6, 6, 0, 257, 0], []), (178, .putfield 48, [6, 8, 0, 259, 0], []), (181, .aload_n 0, [], []), (182, .aload_n 0, [], []), (183, .getfield 73, [6, 7, 0, 258, 0], []), (186, .putfield 22, [6, 9, 0, 261, 0], []), (189, .return_, [0], [0, 1, 2, 3])]
set_option maxRecDepth 100000 in
def wb_k_Reader_fail : List wb_E := [(0, .aload_n 0, [], []), (1, .getfield 48, [6, 8, 0, 259, 0], []), (4, .ifCond .ne 24, [28], []), (7, .aload_n 0, [], []), (8, .iload_n 1, [], []), (9, .putfield 48, [6, 8, 0, 259, 0], []), (12, .aload_n 0, [], []), (13, .aload_n 0, [], []), (14, .getfield 12, [6, 0, 2, 251, 1], []), (17, .getfield 76, [9, 2, 2, 233, 1], []), (20, .aload_n 0, [], []), (21, .getfield 39, [6, 3, 0, 254, 0], []), (24, .iaload, [], []), (25, .putfield 22, [6, 9, 0, 261, 0], []), (28, .return_, [0], [0, 1])]
set_option maxRecDepth 100000 in
def wb_k_Reader_failLater : List wb_E := [(0, .aload_n 0, [], []), (1, .getfield 51, [6, 6, 0, 257, 0], []), (4, .ifCond .ne 24, [28], []), (7, .aload_n 0, [], []), (8, .iload_n 1, [], []), (9, .putfield 51, [6, 6, 0, 257, 0], []), (12, .aload_n 0, [], []), (13, .aload_n 0, [], []), (14, .getfield 12, [6, 0, 2, 251, 1], []), (17, .getfield 76, [9, 2, 2, 233, 1], []), (20, .aload_n 0, [], []), (21, .getfield 39, [6, 3, 0, 254, 0], []), (24, .iaload, [], []), (25, .putfield 73, [6, 7, 0, 258, 0], []), (28, .return_, [0], [0, 1])]
set_option maxRecDepth 100000 in
def wb_k_Reader_take : List wb_E := [(0, .aload_n 0, [], []), (1, .getfield 45, [6, 4, 0, 255, 0], []), (4, .iload_n 1, [], []), (5, .if_icmp .eq 11, [16], []), (8, .aload_n 0, [], []), (9, .iconst 1, [], []), (10, .invokevirtual 67, [58, 2, 0, 6, 776, 779, 120, 778, 9, 0], []), (13, .goto 70, [83], []), (16, .aload_n 0, [], [1]), (17, .getfield 39, [6, 3, 0, 254, 0], []), (20, .sipush 400, [], []), (23, .if_icmp .lt 11, [34], []), (26, .aload_n 0, [], []), (27, .iconst 2, [], []), (28, .invokevirtual 67, [58, 2, 0, 6, 776, 779, 120, 778, 9, 0], []), (31, .goto 52, [83], []), (34, .aload_n 0, [], [1]), (35, .getfield 48, [6, 8, 0, 259, 0], []), (38, .ifCond .ne 45, [83], []), (41, .aload_n 0, [], []), (42, .getfield 39, [6, 3, 0, 254, 0], []), (45, .iconst 1, [], []), (46, .iadd, [], []), (47, .aload_n 0, [], []), (48, .getfield 12, [6, 0, 2, 251, 1], []), (51, .getfield 79, [9, 4, 0, 237, 0], []), (54, .if_icmp .ge 29, [83], []), (57, .aload_n 0, [], []), (58, .dup, [], []), (59, .getfield 39, [6, 3, 0, 254, 0], []), (62, .iconst 1, [], []), (63, .iadd, [], []), (64, .putfield 39, [6, 3, 0, 254, 0], []), (67, .aload_n 0, [], []), (68, .aload_n 0, [], []), (69, .getfield 12, [6, 0, 2, 251, 1], []), (72, .getfield 42, [9, 1, 2, 231, 1], []), (75, .aload_n 0, [], []), (76, .getfield 39, [6, 3, 0, 254, 0], []), (79, .iaload, [], []), (80, .putfield 45, [6, 4, 0, 255, 0], []), (83, .return_, [0], [0, 1])]
set_option maxRecDepth 100000 in
def wb_k_Reader_takeInt : List wb_E := [(0, .aload_n 0, [], []), (1, .getfield 12, [6, 0, 2, 251, 1], []), (4, .getfield 82, [9, 3, 2, 235, 1], []), (7, .aload_n 0, [], []), (8, .getfield 39, [6, 3, 0, 254, 0], []), (11, .laload, [], []), (12, .l2i, [], []), (13, .istore_n 2, [], []), (14, .aload_n 0, [], []), (15, .getfield 45, [6, 4, 0, 255, 0], []), (18, .bipush 101, [], []), (20, .if_icmp .ne 13, [33], []), (23, .iload_n 2, [], []), (24, .iload_n 1, [], []), (25, .if_icmp .le 8, [33], []), (28, .aload_n 0, [], []), (29, .iconst 5, [], []), (30, .invokevirtual 86, [59, 2, 0, 6, 788, 791, 120, 790, 12, 0], []), (33, .aload_n 0, [], [1]), (34, .bipush 101, [], []), (36, .invokevirtual 70, [60, 2, 0, 6, 780, 783, 120, 782, 10, 0], []), (39, .iload_n 2, [], []), (40, .ireturn, [0], [])]
set_option maxRecDepth 100000 in
def wb_k_Reader_parseSetting : List wb_E := [(0, .aload_n 0, [], []), (1, .getfield 45, [6, 4, 0, 255, 0], []), (4, .istore_n 1, [], []), (5, .iload_n 1, [], []), (6, .iconst 1, [], []), (7, .if_icmp .lt 8, [15], []), (10, .iload_n 1, [], []), (11, .iconst 5, [], []), (12, .if_icmp .le 9, [21], []), (15, .aload_n 0, [], [1]), (16, .iconst 1, [], []), (17, .invokevirtual 67, [58, 2, 0, 6, 776, 779, 120, 778, 9, 0], []), (20, .return_, [0], []), (21, .aload_n 0, [], []), (22, .iload_n 1, [], []), (23, .invokevirtual 70, [60, 2, 0, 6, 780, 783, 120, 782, 10, 0], []), (26, .iload_n 1, [], []), (27, .tableswitch 94 1 4 #[29, 45, 61, 77], [29, 121, 56, 72, 88, 104], []), (56, .aload_n 0, [], [1]), (57, .getfield 30, [6, 2, 2, 253, 0], []), (60, .aload_n 0, [], []), (61, .bipush 10, [], []), (63, .invokevirtual 89, [61, 2, 1, 6, 784, 787, 120, 786, 11, 0], []), (66, .putfield 93, [5, 7, 0, 349, 0], []), (69, .goto 66, [135], []), (72, .aload_n 0, [], [1]), (73, .getfield 30, [6, 2, 2, 253, 0], []), (76, .aload_n 0, [], []), (77, .bipush 30, [], []), (79, .invokevirtual 89, [61, 2, 1, 6, 784, 787, 120, 786, 11, 0], []), (82, .putfield 96, [5, 8, 0, 352, 0], []), (85, .goto 50, [135], []), (88, .aload_n 0, [], [1]), (89, .getfield 30, [6, 2, 2, 253, 0], []), (92, .aload_n 0, [], []), (93, .bipush 30, [], []), (95, .invokevirtual 89, [61, 2, 1, 6, 784, 787, 120, 786, 11, 0], []), (98, .putfield 99, [5, 9, 0, 356, 0], []), (101, .goto 34, [135], []), (104, .aload_n 0, [], [1]), (105, .getfield 30, [6, 2, 2, 253, 0], []), (108, .aload_n 0, [], []), (109, .sipush 999, [], []), (112, .invokevirtual 89, [61, 2, 1, 6, 784, 787, 120, 786, 11, 0], []), (115, .putfield 102, [5, 10, 0, 360, 0], []), (118, .goto 17, [135], []), (121, .aload_n 0, [], [1]), (122, .getfield 30, [6, 2, 2, 253, 0], []), (125, .aload_n 0, [], []), (126, .sipush 9999, [], []), (129, .invokevirtual 89, [61, 2, 1, 6, 784, 787, 120, 786, 11, 0], []), (132, .putfield 105, [5, 11, 0, 363, 0], []), (135, .return_, [0], [0, 1])]
set_option maxRecDepth 100000 in
def wb_k_Reader_parseHouse : List wb_E := [(0, .aload_n 0, [], []), (1, .iconst 0, [], []), (2, .invokevirtual 70, [60, 2, 0, 6, 780, 783, 120, 782, 10, 0], []), (5, .aload_n 0, [], []), (6, .getfield 30, [6, 2, 2, 253, 0], []), (9, .getfield 108, [5, 1, 2, 331, 1], []), (12, .iload_n 1, [], []), (13, .aload_n 0, [], []), (14, .getfield 12, [6, 0, 2, 251, 1], []), (17, .getfield 82, [9, 3, 2, 235, 1], []), (20, .aload_n 0, [], []), (21, .getfield 39, [6, 3, 0, 254, 0], []), (24, .laload, [], []), (25, .lastore, [], []), (26, .aload_n 0, [], []), (27, .getfield 45, [6, 4, 0, 255, 0], []), (30, .bipush 100, [], []), (32, .if_icmp .ne 31, [63], []), (35, .aload_n 0, [], []), (36, .getfield 30, [6, 2, 2, 253, 0], []), (39, .aload_n 0, [], []), (40, .getfield 12, [6, 0, 2, 251, 1], []), (43, .getfield 82, [9, 3, 2, 235, 1], []), (46, .aload_n 0, [], []), (47, .getfield 39, [6, 3, 0, 254, 0], []), (50, .laload, [], []), (51, .invokevirtual 111, [52, 2, 1, 5, 796, 799, 126, 797, 798, 0], []), (54, .iconst (-1), [], []), (55, .if_icmp .eq 8, [63], []), (58, .aload_n 0, [], []), (59, .iconst 3, [], []), (60, .invokevirtual 86, [59, 2, 0, 6, 788, 791, 120, 790, 12, 0], []), (63, .aload_n 0, [], []), (64, .bipush 100, [], []), (66, .invokevirtual 70, [60, 2, 0, 6, 780, 783, 120, 782, 10, 0], []), (69, .aload_n 0, [], []), (70, .getfield 30, [6, 2, 2, 253, 0], []), (73, .getfield 115, [5, 2, 2, 334, 1], []), (76, .iload_n 1, [], []), (77, .aload_n 0, [], []), (78, .bipush 10, [], []), (80, .invokevirtual 89, [61, 2, 1, 6, 784, 787, 120, 786, 11, 0], []), (83, .iastore, [], []), (84, .aload_n 0, [], []), (85, .getfield 30, [6, 2, 2, 253, 0], []), (88, .getfield 118, [5, 3, 2, 338, 1], []), (91, .iload_n 1, [], []), (92, .aload_n 0, [], []), (93, .bipush 6, [], []), (95, .invokevirtual 89, [61, 2, 1, 6, 784, 787, 120, 786, 11, 0], []), (98, .iastore, [], []), (99, .return_, [0], [])]
set_option maxRecDepth 100000 in
def wb_k_Reader_parseHabit : List wb_E := [(0, .aload_n 0, [], []), (1, .getfield 45, [6, 4, 0, 255, 0], []), (4, .istore_n 2, [], []), (5, .iload_n 2, [], []), (6, .bipush 61, [], []), (8, .if_icmp .ne 22, [30], []), (11, .aload_n 0, [], []), (12, .getfield 30, [6, 2, 2, 253, 0], []), (15, .getfield 121, [5, 4, 2, 340, 1], []), (18, .iload_n 1, [], []), (19, .bipush 6, [], []), (21, .iastore, [], []), (22, .aload_n 0, [], []), (23, .iload_n 1, [], []), (24, .invokevirtual 124, [66, 2, 0, 6, 804, 807, 120, 806, 15, 0], []), (27, .goto 52, [79], []), (30, .iload_n 2, [], []), (31, .bipush 6, [], []), (33, .if_icmp .lt 41, [74], []), (36, .iload_n 2, [], []), (37, .bipush 11, [], []), (39, .if_icmp .gt 35, [74], []), (42, .aload_n 0, [], []), (43, .getfield 30, [6, 2, 2, 253, 0], []), (46, .getfield 121, [5, 4, 2, 340, 1], []), (49, .iload_n 1, [], []), (50, .iload_n 2, [], []), (51, .bipush 6, [], []), (53, .isub, [], []), (54, .iastore, [], []), (55, .aload_n 0, [], []), (56, .iload_n 2, [], []), (57, .invokevirtual 70, [60, 2, 0, 6, 780, 783, 120, 782, 10, 0], []), (60, .iload_n 2, [], []), (61, .bipush 9, [], []), (63, .if_icmp .ne 16, [79], []), (66, .aload_n 0, [], []), (67, .iload_n 1, [], []), (68, .invokevirtual 127, [65, 2, 0, 6, 839, 842, 120, 841, 20, 0], []), (71, .goto 8, [79], []), (74, .aload_n 0, [], [1, 2]), (75, .iconst 1, [], []), (76, .invokevirtual 67, [58, 2, 0, 6, 776, 779, 120, 778, 9, 0], []), (79, .return_, [0], [0, 1, 2])]
set_option maxRecDepth 100000 in
def wb_k_Reader_parseModel : List wb_E := [(0, .aload_n 0, [], []), (1, .getfield 30, [6, 2, 2, 253, 0], []), (4, .getfield 130, [5, 5, 2, 342, 1], []), (7, .iload_n 1, [], []), (8, .aload_n 0, [], []), (9, .getfield 30, [6, 2, 2, 253, 0], []), (12, .aload_n 0, [], []), (13, .getfield 12, [6, 0, 2, 251, 1], []), (16, .getfield 82, [9, 3, 2, 235, 1], []), (19, .aload_n 0, [], []), (20, .getfield 39, [6, 3, 0, 254, 0], []), (23, .laload, [], []), (24, .invokevirtual 111, [52, 2, 1, 5, 796, 799, 126, 797, 798, 0], []), (27, .iastore, [], []), (28, .aload_n 0, [], []), (29, .getfield 45, [6, 4, 0, 255, 0], []), (32, .bipush 100, [], []), (34, .if_icmp .ne 21, [55], []), (37, .aload_n 0, [], []), (38, .getfield 30, [6, 2, 2, 253, 0], []), (41, .getfield 130, [5, 5, 2, 342, 1], []), (44, .iload_n 1, [], []), (45, .iaload, [], []), (46, .iconst (-1), [], []), (47, .if_icmp .ne 8, [55], []), (50, .aload_n 0, [], []), (51, .iconst 4, [], []), (52, .invokevirtual 86, [59, 2, 0, 6, 788, 791, 120, 790, 12, 0], []), (55, .aload_n 0, [], [1]), (56, .bipush 100, [], []), (58, .invokevirtual 70, [60, 2, 0, 6, 780, 783, 120, 782, 10, 0], []), (61, .return_, [0], [])]
set_option maxRecDepth 100000 in
def wb_k_Reader_parseLaw : List wb_E := [(0, .aload_n 0, [], []), (1, .getfield 30, [6, 2, 2, 253, 0], []), (4, .getfield 133, [5, 6, 2, 345, 1], []), (7, .iload_n 1, [], []), (8, .invokevirtual 137, [37, 2, 0, 3, 808, 811, 127, 809, 810, 0], []), (11, .aload_n 0, [], []), (12, .bipush 61, [], []), (14, .invokevirtual 70, [60, 2, 0, 6, 780, 783, 120, 782, 10, 0], []), (17, .iconst 0, [], []), (18, .istore_n 2, [], []), (19, .iload_n 2, [], [1, 3]), (20, .iconst 4, [], []), (21, .if_icmp .ge 91, [112], []), (24, .aload_n 0, [], []), (25, .getfield 45, [6, 4, 0, 255, 0], []), (28, .bipush 12, [], []), (30, .if_icmp .ne 82, [112], []), (33, .aload_n 0, [], []), (34, .bipush 12, [], []), (36, .invokevirtual 70, [60, 2, 0, 6, 780, 783, 120, 782, 10, 0], []), (39, .aload_n 0, [], []), (40, .invokevirtual 142, [67, 1, 0, 6, 812, 815, 120, 814, 16, 0], []), (43, .aload_n 0, [], []), (44, .bipush 60, [], []), (46, .invokevirtual 70, [60, 2, 0, 6, 780, 783, 120, 782, 10, 0], []), (49, .aload_n 0, [], []), (50, .invokevirtual 142, [67, 1, 0, 6, 812, 815, 120, 814, 16, 0], []), (53, .aload_n 0, [], []), (54, .getfield 30, [6, 2, 2, 253, 0], []), (57, .getfield 133, [5, 6, 2, 345, 1], []), (60, .iconst 2, [], []), (61, .iconst 0, [], []), (62, .invokevirtual 145, [38, 3, 1, 3, 824, 827, 127, 825, 826, 0], []), (65, .istore_n 3, [], []), (66, .aload_n 0, [], []), (67, .bipush 13, [], []), (69, .invokevirtual 70, [60, 2, 0, 6, 780, 783, 120, 782, 10, 0], []), (72, .aload_n 0, [], []), (73, .invokevirtual 142, [67, 1, 0, 6, 812, 815, 120, 814, 16, 0], []), (76, .aload_n 0, [], []), (77, .bipush 14, [], []), (79, .invokevirtual 70, [60, 2, 0, 6, 780, 783, 120, 782, 10, 0], []), (82, .aload_n 0, [], []), (83, .getfield 30, [6, 2, 2, 253, 0], []), (86, .getfield 133, [5, 6, 2, 345, 1], []), (89, .iconst 3, [], []), (90, .iconst 0, [], []), (91, .invokevirtual 145, [38, 3, 1, 3, 824, 827, 127, 825, 826, 0], []), (94, .pop, [], []), (95, .aload_n 0, [], []), (96, .getfield 30, [6, 2, 2, 253, 0], []), (99, .getfield 133, [5, 6, 2, 345, 1], []), (102, .iload_n 3, [], []), (103, .invokevirtual 149, [39, 2, 0, 3, 835, 838, 127, 836, 837, 0], []), (106, .iinc 2 1, [], []), (109, .goto (-90), [19], []), (112, .aload_n 0, [], [1, 2, 3]), (113, .getfield 45, [6, 4, 0, 255, 0], []), (116, .bipush 12, [], []), (118, .if_icmp .ne 8, [126], []), (121, .aload_n 0, [], []), (122, .iconst 2, [], []), (123, .invokevirtual 67, [58, 2, 0, 6, 776, 779, 120, 778, 9, 0], []), (126, .aload_n 0, [], [1, 2, 3]), (127, .invokevirtual 142, [67, 1, 0, 6, 812, 815, 120, 814, 16, 0], []), (130, .aload_n 0, [], []), (131, .getfield 30, [6, 2, 2, 253, 0], []), (134, .getfield 133, [5, 6, 2, 345, 1], []), (137, .iconst 3, [], []), (138, .iconst 0, [], []), (139, .invokevirtual 145, [38, 3, 1, 3, 824, 827, 127, 825, 826, 0], []), (142, .pop, [], []), (143, .return_, [0], [])]
set_option maxRecDepth 100000 in
def wb_k_Reader_parseSum : List wb_E := [(0, .aload_n 0, [], []), (1, .iconst 0, [], []), (2, .putfield 152, [6, 5, 0, 256, 0], []), (5, .iconst 0, [], []), (6, .istore_n 1, [], []), (7, .iconst 1, [], []), (8, .istore_n 2, [], []), (9, .iconst 0, [], []), (10, .istore_n 3, [], []), (11, .iconst 0, [], []), (12, .istore 4, [], []), (14, .iload 4, [], []), (16, .sipush 400, [], []), (19, .if_icmp .gt 136, [155], []), (22, .aload_n 0, [], []), (23, .getfield 48, [6, 8, 0, 259, 0], []), (26, .ifCond .ne 129, [155], []), (29, .iload_n 3, [], []), (30, .ifCond .ne 125, [155], []), (33, .iload_n 2, [], []), (34, .ifCond .eq 35, [69], []), (37, .aload_n 0, [], []), (38, .getfield 45, [6, 4, 0, 255, 0], []), (41, .bipush 40, [], []), (43, .if_icmp .ne 26, [69], []), (46, .iload_n 1, [], []), (47, .bipush 6, [], []), (49, .if_icmp .ne 8, [57], []), (52, .aload_n 0, [], []), (53, .iconst 2, [], []), (54, .invokevirtual 67, [58, 2, 0, 6, 776, 779, 120, 778, 9, 0], []), (57, .iinc 1 1, [], []), (60, .aload_n 0, [], []), (61, .bipush 40, [], []), (63, .invokevirtual 155, [69, 2, 0, 6, 816, 819, 120, 818, 17, 0], []), (66, .goto 83, [149], []), (69, .iload_n 2, [], []), (70, .ifCond .eq 12, [82], []), (73, .aload_n 0, [], []), (74, .invokevirtual 158, [68, 1, 0, 6, 820, 823, 120, 822, 18, 0], []), (77, .iconst 0, [], []), (78, .istore_n 2, [], []), (79, .goto 70, [149], []), (82, .aload_n 0, [], []), (83, .getfield 45, [6, 4, 0, 255, 0], []), (86, .invokestatic 161, [71, 1, 1, 200, 828, 830, 120, 829, 0, 0], []), (89, .ifCond .le 27, [116], []), (92, .aload_n 0, [], []), (93, .aload_n 0, [], []), (94, .getfield 45, [6, 4, 0, 255, 0], []), (97, .invokestatic 161, [71, 1, 1, 200, 828, 830, 120, 829, 0, 0], []), (100, .invokevirtual 164, [70, 2, 0, 6, 831, 834, 120, 833, 19, 0], []), (103, .aload_n 0, [], []), (104, .aload_n 0, [], []), (105, .getfield 45, [6, 4, 0, 255, 0], []), (108, .invokevirtual 155, [69, 2, 0, 6, 816, 819, 120, 818, 17, 0], []), (111, .iconst 1, [], []), (112, .istore_n 2, [], []), (113, .goto 36, [149], []), (116, .iload_n 1, [], []), (117, .ifCond .le 30, [147], []), (120, .aload_n 0, [], []), (121, .bipush 41, [], []), (123, .invokevirtual 70, [60, 2, 0, 6, 780, 783, 120, 782, 10, 0], []), (126, .aload_n 0, [], []), (127, .iconst 1, [], []), (128, .invokevirtual 164, [70, 2, 0, 6, 831, 834, 120, 833, 19, 0], []), (131, .aload_n 0, [], []), (132, .dup, [], []), (133, .getfield 152, [6, 5, 0, 256, 0], []), (136, .iconst 1, [], []), (137, .isub, [], []), (138, .putfield 152, [6, 5, 0, 256, 0], []), (141, .iinc 1 (-1), [], []), (144, .goto 5, [149], []), (147, .iconst 1, [], [3]), (148, .istore_n 3, [], []), (149, .iinc 4 1, [], []), (152, .goto (-138), [14], []), (155, .aload_n 0, [], [1, 2, 3, 4]), (156, .iconst 1, [], []), (157, .invokevirtual 164, [70, 2, 0, 6, 831, 834, 120, 833, 19, 0], []), (160, .return_, [0], [])]
set_option maxRecDepth 100000 in
def wb_k_Reader_parseUnit : List wb_E := [(0, .aload_n 0, [], []), (1, .getfield 45, [6, 4, 0, 255, 0], []), (4, .bipush 101, [], []), (6, .if_icmp .ne 37, [43], []), (9, .aload_n 0, [], []), (10, .getfield 30, [6, 2, 2, 253, 0], []), (13, .getfield 133, [5, 6, 2, 345, 1], []), (16, .iconst 0, [], []), (17, .aload_n 0, [], []), (18, .getfield 12, [6, 0, 2, 251, 1], []), (21, .getfield 82, [9, 3, 2, 235, 1], []), (24, .aload_n 0, [], []), (25, .getfield 39, [6, 3, 0, 254, 0], []), (28, .laload, [], []), (29, .l2i, [], []), (30, .invokevirtual 145, [38, 3, 1, 3, 824, 827, 127, 825, 826, 0], []), (33, .pop, [], []), (34, .aload_n 0, [], []), (35, .bipush 101, [], []), (37, .invokevirtual 70, [60, 2, 0, 6, 780, 783, 120, 782, 10, 0], []), (40, .goto 56, [96], []), (43, .aload_n 0, [], []), (44, .getfield 45, [6, 4, 0, 255, 0], []), (47, .bipush 15, [], []), (49, .if_icmp .lt 42, [91], []), (52, .aload_n 0, [], []), (53, .getfield 45, [6, 4, 0, 255, 0], []), (56, .bipush 21, [], []), (58, .if_icmp .gt 33, [91], []), (61, .aload_n 0, [], []), (62, .getfield 30, [6, 2, 2, 253, 0], []), (65, .getfield 133, [5, 6, 2, 345, 1], []), (68, .iconst 1, [], []), (69, .aload_n 0, [], []), (70, .getfield 45, [6, 4, 0, 255, 0], []), (73, .bipush 15, [], []), (75, .isub, [], []), (76, .invokevirtual 145, [38, 3, 1, 3, 824, 827, 127, 825, 826, 0], []), (79, .pop, [], []), (80, .aload_n 0, [], []), (81, .aload_n 0, [], []), (82, .getfield 45, [6, 4, 0, 255, 0], []), (85, .invokevirtual 70, [60, 2, 0, 6, 780, 783, 120, 782, 10, 0], []), (88, .goto 8, [96], []), (91, .aload_n 0, [], []), (92, .iconst 1, [], []), (93, .invokevirtual 67, [58, 2, 0, 6, 776, 779, 120, 778, 9, 0], []), (96, .return_, [0], [0])]
set_option maxRecDepth 100000 in
def wb_k_Reader_takeAndWait : List wb_E := [(0, .aload_n 0, [], []), (1, .iload_n 1, [], []), (2, .invokevirtual 70, [60, 2, 0, 6, 780, 783, 120, 782, 10, 0], []), (5, .aload_n 0, [], []), (6, .getfield 152, [6, 5, 0, 256, 0], []), (9, .aload_n 0, [], []), (10, .getfield 18, [6, 1, 2, 252, 1], []), (13, .arraylength, [], []), (14, .if_icmp .ge 23, [37], []), (17, .aload_n 0, [], []), (18, .getfield 18, [6, 1, 2, 252, 1], []), (21, .aload_n 0, [], []), (22, .getfield 152, [6, 5, 0, 256, 0], []), (25, .iload_n 1, [], []), (26, .iastore, [], []), (27, .aload_n 0, [], []), (28, .dup, [], []), (29, .getfield 152, [6, 5, 0, 256, 0], []), (32, .iconst 1, [], []), (33, .iadd, [], []), (34, .putfield 152, [6, 5, 0, 256, 0], []), (37, .return_, [0], [0, 1])]
set_option maxRecDepth 100000 in
def wb_k_Reader_emitWaiting : List wb_E := [(0, .aload_n 0, [], []), (1, .getfield 152, [6, 5, 0, 256, 0], []), (4, .ifCond .le 55, [59], []), (7, .aload_n 0, [], []), (8, .getfield 18, [6, 1, 2, 252, 1], []), (11, .aload_n 0, [], []), (12, .getfield 152, [6, 5, 0, 256, 0], []), (15, .iconst 1, [], []), (16, .isub, [], []), (17, .iaload, [], []), (18, .invokestatic 161, [71, 1, 1, 200, 828, 830, 120, 829, 0, 0], []), (21, .iload_n 1, [], []), (22, .if_icmp .lt 37, [59], []), (25, .aload_n 0, [], []), (26, .dup, [], []), (27, .getfield 152, [6, 5, 0, 256, 0], []), (30, .iconst 1, [], []), (31, .isub, [], []), (32, .putfield 152, [6, 5, 0, 256, 0], []), (35, .aload_n 0, [], []), (36, .getfield 30, [6, 2, 2, 253, 0], []), (39, .getfield 133, [5, 6, 2, 345, 1], []), (42, .aload_n 0, [], []), (43, .getfield 18, [6, 1, 2, 252, 1], []), (46, .aload_n 0, [], []), (47, .getfield 152, [6, 5, 0, 256, 0], []), (50, .iaload, [], []), (51, .iconst 0, [], []), (52, .invokevirtual 145, [38, 3, 1, 3, 824, 827, 127, 825, 826, 0], []), (55, .pop, [], []), (56, .goto (-56), [0], []), (59, .return_, [0], [0, 1])]
set_option maxRecDepth 100000 in
def wb_k_Reader_bindingOf : List wb_E := [(0, .iload_n 0, [], []), (1, .bipush 43, [], []), (3, .if_icmp .eq 9, [12], []), (6, .iload_n 0, [], []), (7, .bipush 45, [], []), (9, .if_icmp .ne 5, [14], []), (12, .iconst 1, [], [0]), (13, .ireturn, [0], []), (14, .iload_n 0, [], []), (15, .bipush 42, [], []), (17, .if_icmp .eq 9, [26], []), (20, .iload_n 0, [], []), (21, .bipush 47, [], []), (23, .if_icmp .ne 7, [30], []), (26, .iconst 2, [], [0]), (27, .goto 4, [31], []), (30, .iconst 0, [], [0]), (31, .ireturn, [0], [0])]
set_option maxRecDepth 100000 in
def wb_k_Standing_init : List wb_E := [(0, .aload_n 0, [], []), (1, .invokespecial 3, [0, 395, 145, 146], []), (4, .aload_n 0, [], []), (5, .bipush 30, [], []), (7, .newarray .int, [54, 250], []), (9, .putfield 11, [7, 0, 2, 396, 1], []), (12, .return_, [0], [])]
set_option maxRecDepth 100000 in
def wb_k_Standing_of : List wb_E := [(0, .aload_n 0, [], []), (1, .getfield 11, [7, 0, 2, 396, 1], []), (4, .iload_n 1, [], []), (5, .bipush 6, [], []), (7, .imul, [], []), (8, .iload_n 2, [], []), (9, .iadd, [], []), (10, .iaload, [], []), (11, .ireturn, [0], [])]
set_option maxRecDepth 100000 in
def wb_k_Standing_set : List wb_E := [(0, .aload_n 0, [], []), (1, .getfield 11, [7, 0, 2, 396, 1], []), (4, .iload_n 1, [], []), (5, .bipush 6, [], []), (7, .imul, [], []), (8, .iload_n 2, [], []), (9, .iadd, [], []), (10, .iload_n 3, [], []), (11, .iastore, [], []), (12, .return_, [0], [])]
set_option maxRecDepth 100000 in
def wb_k_Standing_clear : List wb_E := [(0, .aload_n 0, [], []), (1, .iconst 0, [], []), (2, .putfield 15, [7, 1, 0, 397, 0], []), (5, .aload_n 0, [], []), (6, .iconst 0, [], []), (7, .putfield 19, [7, 2, 0, 399, 0], []), (10, .aload_n 0, [], []), (11, .iconst 0, [], []), (12, .putfield 22, [7, 3, 0, 401, 0], []), (15, .aload_n 0, [], []), (16, .iconst 0, [], []), (17, .putfield 25, [7, 4, 0, 403, 0], []), (20, .aload_n 0, [], []), (21, .getfield 11, [7, 0, 2, 396, 1], []), (24, .iconst 0, [], []), (25, .invokestatic 28, [281, 2, 0, 200, 575, 577, 133, 576, 0, 0], []), (28, .iconst 0, [], []), (29, .istore_n 1, [], []), (30, .iload_n 1, [], []), (31, .bipush 6, [], []), (33, .if_icmp .ge 23, [56], []), (36, .aload_n 0, [], []), (37, .iconst 0, [], []), (38, .iload_n 1, [], []), (39, .iload_n 1, [], []), (40, .invokevirtual 34, [74, 4, 0, 7, 578, 581, 128, 579, 580, 0], []), (43, .aload_n 0, [], []), (44, .iconst 1, [], []), (45, .iload_n 1, [], []), (46, .iconst (-1), [], []), (47, .invokevirtual 34, [74, 4, 0, 7, 578, 581, 128, 579, 580, 0], []), (50, .iinc 1 1, [], []), (53, .goto (-23), [30], []), (56, .return_, [0], [0, 1])]
set_option maxRecDepth 100000 in
def wb_k_Standing_copy : List wb_E := [(0, .aload_n 1, [], []), (1, .getfield 11, [7, 0, 2, 396, 1], []), (4, .iconst 0, [], []), (5, .aload_n 0, [], []), (6, .getfield 11, [7, 0, 2, 396, 1], []), (9, .iconst 0, [], []), (10, .aload_n 0, [], []), (11, .getfield 11, [7, 0, 2, 396, 1], []), (14, .arraylength, [], []), (15, .invokestatic 38, [1, 918, 920, 919, 137], []), (18, .aload_n 0, [], []), (19, .aload_n 1, [], []), (20, .getfield 15, [7, 1, 0, 397, 0], []), (23, .putfield 15, [7, 1, 0, 397, 0], []), (26, .aload_n 0, [], []), (27, .aload_n 1, [], []), (28, .getfield 19, [7, 2, 0, 399, 0], []), (31, .putfield 19, [7, 2, 0, 399, 0], []), (34, .aload_n 0, [], []), (35, .aload_n 1, [], []), (36, .getfield 22, [7, 3, 0, 401, 0], []), (39, .putfield 22, [7, 3, 0, 401, 0], []), (42, .aload_n 0, [], []), (43, .aload_n 1, [], []), (44, .getfield 25, [7, 4, 0, 403, 0], []), (47, .putfield 25, [7, 4, 0, 403, 0], []), (50, .aload_n 0, [], []), (51, .aload_n 1, [], []), (52, .getfield 44, [7, 5, 0, 405, 0], []), (55, .putfield 44, [7, 5, 3, 405, 0], []), (58, .aload_n 0, [], []), (59, .aload_n 1, [], []), (60, .getfield 48, [7, 6, 0, 407, 0], []), (63, .putfield 48, [7, 6, 0, 407, 0], []), (66, .aload_n 0, [], []), (67, .aload_n 1, [], []), (68, .getfield 51, [7, 7, 0, 409, 0], []), (71, .putfield 51, [7, 7, 0, 409, 0], []), (74, .return_, [0], [])]
set_option maxRecDepth 100000 in
def wb_k_Standing_record : List wb_E := [(0, .iconst 0, [], []), (1, .istore_n 2, [], []), (2, .iload_n 2, [], []), (3, .aload_n 1, [], []), (4, .getfield 54, [1, 1, 0, 483, 0], []), (7, .if_icmp .ge 55, [62], []), (10, .aload_n 0, [], []), (11, .iconst 2, [], []), (12, .iload_n 2, [], []), (13, .aload_n 1, [], []), (14, .getfield 59, [1, 14, 2, 501, 1], []), (17, .iload_n 2, [], []), (18, .iaload, [], []), (19, .invokevirtual 34, [74, 4, 0, 7, 578, 581, 128, 579, 580, 0], []), (22, .aload_n 0, [], []), (23, .iconst 3, [], []), (24, .iload_n 2, [], []), (25, .aload_n 1, [], []), (26, .getfield 62, [1, 15, 2, 503, 1], []), (29, .iload_n 2, [], []), (30, .iaload, [], []), (31, .invokevirtual 34, [74, 4, 0, 7, 578, 581, 128, 579, 580, 0], []), (34, .aload_n 1, [], []), (35, .iload_n 2, [], []), (36, .invokevirtual 65, [29, 2, 1, 1, 1025, 1020, 131, 1018, 1019, 0], []), (39, .ifCond .eq 17, [56], []), (42, .aload_n 0, [], []), (43, .iconst 4, [], []), (44, .iload_n 2, [], []), (45, .aload_n 0, [], []), (46, .iconst 4, [], []), (47, .iload_n 2, [], []), (48, .invokevirtual 69, [73, 3, 1, 7, 1026, 885, 128, 883, 884, 0], []), (51, .iconst 1, [], []), (52, .iadd, [], []), (53, .invokevirtual 34, [74, 4, 0, 7, 578, 581, 128, 579, 580, 0], []), (56, .iinc 2 1, [], []), (59, .goto (-57), [2], []), (62, .aload_n 0, [], [2]), (63, .dup, [], []), (64, .getfield 15, [7, 1, 0, 397, 0], []), (67, .iconst 1, [], []), (68, .iadd, [], []), (69, .putfield 15, [7, 1, 0, 397, 0], []), (72, .aload_n 0, [], []), (73, .aload_n 1, [], []), (74, .getfield 73, [1, 13, 0, 498, 0], []), (77, .putfield 44, [7, 5, 3, 405, 0], []), (80, .aload_n 0, [], []), (81, .aload_n 1, [], []), (82, .getfield 76, [1, 16, 0, 504, 0], []), (85, .putfield 48, [7, 6, 0, 407, 0], []), (88, .aload_n 0, [], []), (89, .aload_n 1, [], []), (90, .getfield 79, [1, 17, 0, 507, 0], []), (93, .putfield 51, [7, 7, 0, 409, 0], []), (96, .aload_n 0, [], []), (97, .dup, [], []), (98, .getfield 25, [7, 4, 0, 403, 0], []), (101, .aload_n 0, [], []), (102, .getfield 48, [7, 6, 0, 407, 0], []), (105, .iadd, [], []), (106, .putfield 25, [7, 4, 0, 403, 0], []), (109, .aload_n 0, [], []), (110, .dup, [], []), (111, .getfield 22, [7, 3, 0, 401, 0], []), (114, .aload_n 0, [], []), (115, .getfield 51, [7, 7, 0, 409, 0], []), (118, .iadd, [], []), (119, .putfield 22, [7, 3, 0, 401, 0], []), (122, .return_, [0], [])]
set_option maxRecDepth 100000 in
def wb_k_Tape_init : List wb_E := [(0, .aload_n 0, [], []), (1, .invokespecial 3, [0, 152, 145, 146], []), (4, .aload_n 0, [], []), (5, .sipush 2000, [], []), (8, .newarray .byte, [55, 162], []), (10, .putfield 11, [8, 0, 2, 153, 1], []), (13, .return_, [0], [])]
set_option maxRecDepth 100000 in
def wb_k_Tape_hasRoomFor : List wb_E := [(0, .aload_n 0, [], []), (1, .getfield 15, [8, 1, 0, 154, 0], []), (4, .iload_n 1, [], []), (5, .iadd, [], []), (6, .sipush 2000, [], []), (9, .if_icmp .gt 7, [16], []), (12, .iconst 1, [], []), (13, .goto 4, [17], []), (16, .iconst 0, [], [0, 1]), (17, .ireturn, [1], [0, 1])]
set_option maxRecDepth 100000 in
def wb_k_Tape_add : List wb_E := [(0, .bipush 24, [], []), (2, .istore_n 2, [], []), (3, .iload_n 2, [], []), (4, .ifCond .lt 42, [46], []), (7, .aload_n 0, [], []), (8, .getfield 15, [8, 1, 0, 154, 0], []), (11, .sipush 2000, [], []), (14, .if_icmp .ge 26, [40], []), (17, .aload_n 0, [], []), (18, .getfield 11, [8, 0, 2, 153, 1], []), (21, .aload_n 0, [], []), (22, .getfield 15, [8, 1, 0, 154, 0], []), (25, .iload_n 1, [], []), (26, .iload_n 2, [], []), (27, .iushr, [], []), (28, .i2b, [], []), (29, .bastore, [], []), (30, .aload_n 0, [], []), (31, .dup, [], []), (32, .getfield 15, [8, 1, 0, 154, 0], []), (35, .iconst 1, [], []), (36, .iadd, [], []), (37, .putfield 15, [8, 1, 0, 154, 0], []), (40, .iinc 2 (-8), [], []), (43, .goto (-40), [3], []), (46, .return_, [0], [0, 1, 2])]
set_option maxRecDepth 100000 in
def wb_k_Tape_at : List wb_E := [(0, .iload_n 1, [], []), (1, .ifCond .lt 24, [25], []), (4, .iload_n 1, [], []), (5, .aload_n 0, [], []), (6, .getfield 15, [8, 1, 0, 154, 0], []), (9, .if_icmp .ge 16, [25], []), (12, .aload_n 0, [], []), (13, .getfield 11, [8, 0, 2, 153, 1], []), (16, .iload_n 1, [], []), (17, .baload, [], []), (18, .sipush 255, [], []), (21, .iand, [], []), (22, .goto 4, [26], []), (25, .iconst (-1), [], [0, 1]), (26, .ireturn, [0], [0, 1])]
set_option maxRecDepth 100000 in
def wb_k_Tokens_init : List wb_E := [(0, .aload_n 0, [], []), (1, .invokespecial 1, [0, 174, 145, 146], []), (4, .aload_n 0, [], []), (5, .bipush 22, [], []), (7, .newarray .long, [56, 249], []), (9, .putfield 9, [9, 0, 2, 229, 1], []), (12, .aload_n 0, [], []), (13, .sipush 402, [], []), (16, .newarray .int, [57, 250], []), (18, .putfield 13, [9, 1, 2, 230, 1], []), (21, .aload_n 0, [], []), (22, .sipush 402, [], []), (25, .newarray .int, [58, 250], []), (27, .putfield 17, [9, 2, 2, 232, 1], []), (30, .aload_n 0, [], []), (31, .sipush 402, [], []), (34, .newarray .long, [59, 249], []), (36, .putfield 20, [9, 3, 2, 234, 1], []), (39, .iconst 0, [], []), (40, .istore_n 1, [], []), (41, .lconst 0, [], []), (42, .lstore_n 2, [], []), (43, .iconst 0, [], []), (44, .istore 4, [], []), (46, .iload 4, [], [3]), (48, .ldc 23, [1, 5, 175], []), (50, .invokevirtual 25, [269, 1, 1, 100, 176, 179, 122, 177, 178, 0], []), (53, .if_icmp .ge 57, [110], []), (56, .ldc 23, [1, 5, 175], []), (58, .iload 4, [], []), (60, .invokevirtual 31, [270, 2, 1, 100, 186, 189, 122, 187, 188, 0], []), (63, .bipush 32, [], []), (65, .if_icmp .eq 18, [83], []), (68, .lload_n 2, [], []), (69, .ldc 23, [1, 5, 175], []), (71, .iload 4, [], []), (73, .invokevirtual 31, [270, 2, 1, 100, 186, 189, 122, 187, 188, 0], []), (76, .invokestatic 35, [90, 2, 2, 200, 224, 226, 121, 225, 0, 0], []), (79, .lstore_n 2, [], []), (80, .goto 24, [104], []), (83, .iload_n 1, [], [3]), (84, .aload_n 0, [], []), (85, .getfield 9, [9, 0, 2, 229, 1], []), (88, .arraylength, [], []), (89, .if_icmp .ge 15, [104], []), (92, .aload_n 0, [], []), (93, .getfield 9, [9, 0, 2, 229, 1], []), (96, .iload_n 1, [], []), (97, .lload_n 2, [], []), (98, .lastore, [], []), (99, .iinc 1 1, [], []), (102, .lconst 0, [], []), (103, .lstore_n 2, [], []), (104, .iinc 4 1, [], [3]), (107, .goto (-61), [46], []), (110, .return_, [0], [0, 1, 2, 3, 4])]
set_option maxRecDepth 100000 in
def wb_k_Tokens_cut : List wb_E := [(0, .aload_n 0, [], []), (1, .iconst 0, [], []), (2, .putfield 39, [9, 4, 0, 236, 0], []), (5, .iconst 0, [], []), (6, .istore_n 2, [], []), (7, .iconst 0, [], []), (8, .istore_n 3, [], []), (9, .iload_n 3, [], []), (10, .sipush 2000, [], []), (13, .if_icmp .ge 51, [64], []), (16, .iload_n 2, [], []), (17, .aload_n 1, [], []), (18, .getfield 45, [8, 1, 0, 155, 0], []), (21, .if_icmp .ge 43, [64], []), (24, .aload_n 0, [], []), (25, .getfield 39, [9, 4, 0, 236, 0], []), (28, .sipush 400, [], []), (31, .if_icmp .gt 33, [64], []), (34, .aload_n 1, [], []), (35, .iload_n 2, [], []), (36, .invokevirtual 47, [81, 2, 1, 8, 672, 675, 119, 673, 674, 0], []), (39, .invokestatic 51, [91, 1, 1, 200, 676, 678, 121, 677, 0, 0], []), (42, .ifCond .eq 9, [51], []), (45, .iinc 2 1, [], []), (48, .goto 10, [58], []), (51, .aload_n 0, [], []), (52, .aload_n 1, [], []), (53, .iload_n 2, [], []), (54, .invokevirtual 55, [84, 3, 1, 9, 679, 682, 121, 681, 2, 0], []), (57, .istore_n 2, [], []), (58, .iinc 3 1, [], []), (61, .goto (-52), [9], []), (64, .aload_n 0, [], [2, 3]), (65, .bipush 103, [], []), (67, .aload_n 1, [], []), (68, .getfield 45, [8, 1, 0, 155, 0], []), (71, .lconst 0, [], []), (72, .invokevirtual 59, [88, 4, 0, 9, 694, 697, 121, 696, 5, 0], []), (75, .return_, [0], [])]
set_option maxRecDepth 100000 in
def wb_k_Tokens_cutOne : List wb_E := [(0, .aload_n 1, [], []), (1, .iload_n 2, [], []), (2, .invokevirtual 47, [81, 2, 1, 8, 672, 675, 119, 673, 674, 0], []), (5, .istore_n 3, [], []), (6, .iload_n 3, [], []), (7, .invokestatic 63, [92, 1, 1, 200, 683, 685, 121, 684, 0, 0], []), (10, .ifCond .eq 10, [20], []), (13, .aload_n 0, [], []), (14, .aload_n 1, [], []), (15, .iload_n 2, [], []), (16, .invokevirtual 66, [85, 3, 1, 9, 686, 689, 121, 688, 3, 0], []), (19, .ireturn, [0], []), (20, .iload_n 3, [], []), (21, .invokestatic 69, [93, 1, 1, 200, 702, 704, 121, 703, 0, 0], []), (24, .ifCond .eq 10, [34], []), (27, .aload_n 0, [], []), (28, .aload_n 1, [], []), (29, .iload_n 2, [], []), (30, .invokevirtual 72, [86, 3, 1, 9, 705, 708, 121, 707, 7, 0], []), (33, .ireturn, [0], []), (34, .ldc 75, [1, 6, 711], []), (36, .iload_n 3, [], []), (37, .i2c, [], []), (38, .invokevirtual 77, [271, 2, 1, 100, 712, 715, 122, 713, 714, 0], []), (41, .ifCond .lt 14, [55], []), (44, .aload_n 0, [], []), (45, .iload_n 3, [], []), (46, .iload_n 2, [], []), (47, .lconst 0, [], []), (48, .invokevirtual 59, [88, 4, 0, 9, 694, 697, 121, 696, 5, 0], []), (51, .iload_n 2, [], []), (52, .iconst 1, [], []), (53, .iadd, [], []), (54, .ireturn, [0], []), (55, .aload_n 0, [], [3]), (56, .aload_n 1, [], []), (57, .iload_n 2, [], []), (58, .invokevirtual 80, [87, 3, 1, 9, 690, 693, 121, 692, 4, 0], []), (61, .ireturn, [0], [])]
set_option maxRecDepth 100000 in
def wb_k_Tokens_cutWord : List wb_E := [(0, .iload_n 2, [], []), (1, .istore_n 3, [], []), (2, .lconst 0, [], []), (3, .lstore 4, [], []), (5, .iload_n 3, [], [5]), (6, .aload_n 1, [], []), (7, .getfield 45, [8, 1, 0, 155, 0], []), (10, .if_icmp .ge 32, [42], []), (13, .aload_n 1, [], []), (14, .iload_n 3, [], []), (15, .invokevirtual 47, [81, 2, 1, 8, 672, 675, 119, 673, 674, 0], []), (18, .invokestatic 63, [92, 1, 1, 200, 683, 685, 121, 684, 0, 0], []), (21, .ifCond .eq 21, [42], []), (24, .lload 4, [], []), (26, .aload_n 1, [], []), (27, .iload_n 3, [], []), (28, .invokevirtual 47, [81, 2, 1, 8, 672, 675, 119, 673, 674, 0], []), (31, .invokestatic 35, [90, 2, 2, 200, 224, 226, 121, 225, 0, 0], []), (34, .lstore 4, [], []), (36, .iinc 3 1, [], []), (39, .goto (-34), [5], []), (42, .iload_n 3, [], [5]), (43, .iload_n 2, [], []), (44, .isub, [], []), (45, .bipush 8, [], []), (47, .if_icmp .le 10, [57], []), (50, .aload_n 0, [], []), (51, .aload_n 1, [], []), (52, .iload_n 2, [], []), (53, .invokevirtual 80, [87, 3, 1, 9, 690, 693, 121, 692, 4, 0], []), (56, .ireturn, [0], []), (57, .aload_n 0, [], [1, 5]), (58, .aload_n 0, [], []), (59, .lload 4, [], []), (61, .invokevirtual 83, [89, 2, 1, 9, 698, 701, 121, 700, 6, 0], []), (64, .iload_n 2, [], []), (65, .lload 4, [], []), (67, .invokevirtual 59, [88, 4, 0, 9, 694, 697, 121, 696, 5, 0], []), (70, .iload_n 3, [], []), (71, .ireturn, [0], [])]
set_option maxRecDepth 100000 in
def wb_k_Tokens_cutInt : List wb_E := [(0, .iload_n 2, [], []), (1, .istore_n 3, [], []), (2, .lconst 0, [], []), (3, .lstore 4, [], []), (5, .iload_n 3, [], [5]), (6, .aload_n 1, [], []), (7, .getfield 45, [8, 1, 0, 155, 0], []), (10, .if_icmp .ge 39, [49], []), (13, .aload_n 1, [], []), (14, .iload_n 3, [], []), (15, .invokevirtual 47, [81, 2, 1, 8, 672, 675, 119, 673, 674, 0], []), (18, .invokestatic 69, [93, 1, 1, 200, 702, 704, 121, 703, 0, 0], []), (21, .ifCond .eq 28, [49], []), (24, .ldc2_w 87, [10, 709], []), (27, .lload 4, [], []), (29, .lmul, [], []), (30, .aload_n 1, [], []), (31, .iload_n 3, [], []), (32, .invokevirtual 47, [81, 2, 1, 8, 672, 675, 119, 673, 674, 0], []), (35, .i2l, [], []), (36, .ladd, [], []), (37, .ldc2_w 89, [48, 710], []), (40, .lsub, [], []), (41, .lstore 4, [], []), (43, .iinc 3 1, [], []), (46, .goto (-41), [5], []), (49, .iload_n 3, [], [5]), (50, .iload_n 2, [], []), (51, .isub, [], []), (52, .iconst 4, [], []), (53, .if_icmp .le 10, [63], []), (56, .aload_n 0, [], []), (57, .aload_n 1, [], []), (58, .iload_n 2, [], []), (59, .invokevirtual 80, [87, 3, 1, 9, 690, 693, 121, 692, 4, 0], []), (62, .ireturn, [0], []), (63, .aload_n 0, [], [1, 5]), (64, .bipush 101, [], []), (66, .iload_n 2, [], []), (67, .lload 4, [], []), (69, .invokevirtual 59, [88, 4, 0, 9, 694, 697, 121, 696, 5, 0], []), (72, .iload_n 3, [], []), (73, .ireturn, [0], [])]
set_option maxRecDepth 100000 in
def wb_k_Tokens_cutNoToken : List wb_E := [(0, .aload_n 0, [], []), (1, .bipush 102, [], []), (3, .iload_n 2, [], []), (4, .lconst 0, [], []), (5, .invokevirtual 59, [88, 4, 0, 9, 694, 697, 121, 696, 5, 0], []), (8, .aload_n 1, [], []), (9, .getfield 45, [8, 1, 0, 155, 0], []), (12, .ireturn, [0], [])]
set_option maxRecDepth 100000 in
def wb_k_Tokens_add : List wb_E := [(0, .aload_n 0, [], []), (1, .getfield 39, [9, 4, 0, 236, 0], []), (4, .aload_n 0, [], []), (5, .getfield 13, [9, 1, 2, 230, 1], []), (8, .arraylength, [], []), (9, .if_icmp .ge 43, [52], []), (12, .aload_n 0, [], []), (13, .getfield 13, [9, 1, 2, 230, 1], []), (16, .aload_n 0, [], []), (17, .getfield 39, [9, 4, 0, 236, 0], []), (20, .iload_n 1, [], []), (21, .iastore, [], []), (22, .aload_n 0, [], []), (23, .getfield 17, [9, 2, 2, 232, 1], []), (26, .aload_n 0, [], []), (27, .getfield 39, [9, 4, 0, 236, 0], []), (30, .iload_n 2, [], []), (31, .iastore, [], []), (32, .aload_n 0, [], []), (33, .getfield 20, [9, 3, 2, 234, 1], []), (36, .aload_n 0, [], []), (37, .getfield 39, [9, 4, 0, 236, 0], []), (40, .lload_n 3, [], []), (41, .lastore, [], []), (42, .aload_n 0, [], []), (43, .dup, [], []), (44, .getfield 39, [9, 4, 0, 236, 0], []), (47, .iconst 1, [], []), (48, .iadd, [], []), (49, .putfield 39, [9, 4, 0, 236, 0], []), (52, .return_, [0], [0, 1, 2, 3, 4])]
set_option maxRecDepth 100000 in
def wb_k_Tokens_kindOf : List wb_E := [(0, .iconst 0, [], []), (1, .istore_n 3, [], []), (2, .iload_n 3, [], [2]), (3, .aload_n 0, [], []), (4, .getfield 9, [9, 0, 2, 229, 1], []), (7, .arraylength, [], []), (8, .if_icmp .ge 22, [30], []), (11, .aload_n 0, [], []), (12, .getfield 9, [9, 0, 2, 229, 1], []), (15, .iload_n 3, [], []), (16, .laload, [], []), (17, .lload_n 1, [], []), (18, .lcmp, [], []), (19, .ifCond .ne 5, [24], []), (22, .iload_n 3, [], []), (23, .ireturn, [0], []), (24, .iinc 3 1, [], [2]), (27, .goto (-25), [2], []), (30, .bipush 100, [], [0, 1, 2, 3]), (32, .ireturn, [0], [])]
set_option maxRecDepth 100000 in
def wb_k_Tokens_withLetter : List wb_E := [(0, .lload_n 0, [], []), (1, .ldc2_w 91, [27, 227], []), (4, .lmul, [], []), (5, .iload_n 2, [], []), (6, .i2l, [], []), (7, .ladd, [], []), (8, .ldc2_w 93, [97, 228], []), (11, .lsub, [], []), (12, .lconst 1, [], []), (13, .ladd, [], []), (14, .lreturn, [0], [])]
set_option maxRecDepth 100000 in
def wb_k_Tokens_isBlank : List wb_E := [(0, .iload_n 0, [], []), (1, .bipush 9, [], []), (3, .if_icmp .eq 21, [24], []), (6, .iload_n 0, [], []), (7, .bipush 10, [], []), (9, .if_icmp .eq 15, [24], []), (12, .iload_n 0, [], []), (13, .bipush 13, [], []), (15, .if_icmp .eq 9, [24], []), (18, .iload_n 0, [], []), (19, .bipush 32, [], []), (21, .if_icmp .ne 7, [28], []), (24, .iconst 1, [], [0]), (25, .goto 4, [29], []), (28, .iconst 0, [], [0]), (29, .ireturn, [1], [0])]
set_option maxRecDepth 100000 in
def wb_k_Tokens_isLetter : List wb_E := [(0, .iload_n 0, [], []), (1, .bipush 97, [], []), (3, .if_icmp .lt 13, [16], []), (6, .iload_n 0, [], []), (7, .bipush 122, [], []), (9, .if_icmp .gt 7, [16], []), (12, .iconst 1, [], []), (13, .goto 4, [17], []), (16, .iconst 0, [], [0]), (17, .ireturn, [1], [0])]
set_option maxRecDepth 100000 in
def wb_k_Tokens_isDigit : List wb_E := [(0, .iload_n 0, [], []), (1, .bipush 48, [], []), (3, .if_icmp .lt 13, [16], []), (6, .iload_n 0, [], []), (7, .bipush 57, [], []), (9, .if_icmp .gt 7, [16], []), (12, .iconst 1, [], []), (13, .goto 4, [17], []), (16, .iconst 0, [], [0]), (17, .ireturn, [1], [0])]
set_option maxRecDepth 100000 in
def wb_k_X_init : List wb_E := [(0, .aload_n 0, [], []), (1, .invokespecial 1, [0, 144, 145, 146], []), (4, .aload_n 0, [], []), (5, .new 7, [18, 147, 148, 119], []), (8, .dup, [], []), (9, .invokespecial 9, [78, 1, 0, 201, 149, 151, 119, 150, 0, 1], []), (12, .putfield 10, [10, 0, 2, 595, 1], []), (15, .aload_n 0, [], []), (16, .new 16, [16, 163, 164, 120], []), (19, .dup, [], []), (20, .invokespecial 18, [56, 1, 0, 201, 165, 167, 120, 166, 0, 1], []), (23, .putfield 19, [10, 1, 2, 596, 1], []), (26, .aload_n 0, [], []), (27, .new 23, [15, 284, 285, 126], []), (30, .dup, [], []), (31, .invokespecial 25, [50, 1, 0, 201, 286, 288, 126, 287, 0, 0], []), (34, .putfield 26, [10, 2, 2, 597, 0], []), (37, .aload_n 0, [], []), (38, .new 23, [15, 284, 285, 126], []), (41, .dup, [], []), (42, .invokespecial 25, [50, 1, 0, 201, 286, 288, 126, 287, 0, 0], []), (45, .putfield 30, [10, 3, 2, 598, 0], []), (48, .aload_n 0, [], []), (49, .new 33, [17, 390, 391, 128], []), (52, .dup, [], []), (53, .invokespecial 35, [72, 1, 0, 201, 392, 394, 128, 393, 0, 1], []), (56, .putfield 36, [10, 4, 2, 599, 1], []), (59, .aload_n 0, [], []), (60, .new 40, [14, 428, 429, 129], []), (63, .dup, [], []), (64, .invokespecial 42, [46, 1, 0, 201, 430, 432, 129, 431, 0, 0], []), (67, .putfield 43, [10, 5, 2, 600, 1], []), (70, .aload_n 0, [], []), (71, .iconst 3, [], []), (72, .anewarray 33, [60, 390, 435], []), (75, .putfield 47, [10, 6, 2, 601, 1], []), (78, .aload_n 0, [], []), (79, .iconst 3, [], []), (80, .newarray .boolean, [61, 474], []), (82, .putfield 51, [10, 7, 2, 602, 1], []), (85, .aload_n 0, [], []), (86, .new 55, [10, 448, 449, 130], []), (89, .dup, [], []), (90, .invokespecial 57, [2, 1, 0, 201, 450, 452, 130, 451, 0, 1], []), (93, .putfield 58, [10, 8, 2, 603, 1], []), (96, .aload_n 0, [], []), (97, .new 62, [11, 475, 476, 131], []), (100, .dup, [], []), (101, .invokespecial 64, [8, 1, 0, 201, 477, 479, 131, 478, 0, 1], []), (104, .putfield 65, [10, 9, 2, 604, 1], []), (107, .aload_n 0, [], []), (108, .new 69, [12, 546, 547, 132], []), (111, .dup, [], []), (112, .invokespecial 71, [32, 1, 0, 201, 548, 550, 132, 549, 0, 1], []), (115, .putfield 72, [10, 10, 2, 605, 1], []), (118, .aload_n 0, [], []), (119, .bipush 64, [], []), (121, .newarray .int, [62, 250], []), (123, .putfield 76, [10, 11, 2, 606, 1], []), (126, .aload_n 0, [], []), (127, .sipush 384, [], []), (130, .newarray .int, [63, 250], []), (132, .putfield 80, [10, 12, 2, 607, 1], []), (135, .aload_n 0, [], []), (136, .bipush 64, [], []), (138, .newarray .int, [64, 250], []), (140, .putfield 83, [10, 13, 2, 608, 1], []), (143, .aload_n 0, [], []), (144, .iconst (-1), [], []), (145, .putfield 86, [10, 14, 0, 609, 0], []), (148, .iconst 0, [], []), (149, .istore_n 1, [], []), (150, .iload_n 1, [], []), (151, .iconst 3, [], []), (152, .if_icmp .ge 22, [174], []), (155, .aload_n 0, [], []), (156, .getfield 47, [10, 6, 2, 601, 1], []), (159, .iload_n 1, [], []), (160, .new 33, [17, 390, 391, 128], []), (163, .dup, [], []), (164, .invokespecial 35, [72, 1, 0, 201, 392, 394, 128, 393, 0, 1], []), (167, .aastore, [], []), (168, .iinc 1 1, [], []), (171, .goto (-21), [150], []), (174, .aload_n 0, [], [1]), (175, .invokevirtual 90, [99, 1, 0, 10, 567, 570, 118, 569, 0, 0], []), (178, .return_, [0], [])]
set_option maxRecDepth 100000 in
def wb_k_X_feed : List wb_E := [(0, .aload_n 0, [], []), (1, .getfield 10, [10, 0, 2, 595, 1], []), (4, .bipush 20, [], []), (6, .invokevirtual 93, [79, 2, 1, 8, 648, 651, 119, 649, 650, 0], []), (9, .ifCond .ne 5, [14], []), (12, .iconst (-1), [], []), (13, .ireturn, [0], []), (14, .aload_n 0, [], []), (15, .getfield 10, [10, 0, 2, 595, 1], []), (18, .iload_n 1, [], []), (19, .invokevirtual 97, [80, 2, 0, 8, 652, 655, 119, 653, 654, 0], []), (22, .aload_n 0, [], []), (23, .getfield 10, [10, 0, 2, 595, 1], []), (26, .iload_n 2, [], []), (27, .invokevirtual 97, [80, 2, 0, 8, 652, 655, 119, 653, 654, 0], []), (30, .aload_n 0, [], []), (31, .getfield 10, [10, 0, 2, 595, 1], []), (34, .iload_n 3, [], []), (35, .invokevirtual 97, [80, 2, 0, 8, 652, 655, 119, 653, 654, 0], []), (38, .aload_n 0, [], []), (39, .getfield 10, [10, 0, 2, 595, 1], []), (42, .iload 4, [], []), (44, .invokevirtual 97, [80, 2, 0, 8, 652, 655, 119, 653, 654, 0], []), (47, .aload_n 0, [], []), (48, .getfield 10, [10, 0, 2, 595, 1], []), (51, .iload 5, [], []), (53, .invokevirtual 97, [80, 2, 0, 8, 652, 655, 119, 653, 654, 0], []), (56, .aload_n 0, [], []), (57, .getfield 10, [10, 0, 2, 595, 1], []), (60, .getfield 101, [8, 1, 0, 156, 0], []), (63, .ireturn, [0], [])]
set_option maxRecDepth 100000 in
def wb_k_X_back : List wb_E := [(0, .iload_n 1, [], []), (1, .ifCond .lt 14, [15], []), (4, .iload_n 1, [], []), (5, .aload_n 0, [], []), (6, .getfield 10, [10, 0, 2, 595, 1], []), (9, .getfield 101, [8, 1, 0, 156, 0], []), (12, .if_icmp .le 5, [17], []), (15, .iconst (-1), [], [0, 1]), (16, .ireturn, [0], []), (17, .aload_n 0, [], []), (18, .getfield 10, [10, 0, 2, 595, 1], []), (21, .dup, [], []), (22, .getfield 101, [8, 1, 0, 156, 0], []), (25, .iload_n 1, [], []), (26, .isub, [], []), (27, .putfield 101, [8, 1, 0, 156, 0], []), (30, .aload_n 0, [], []), (31, .getfield 10, [10, 0, 2, 595, 1], []), (34, .getfield 101, [8, 1, 0, 156, 0], []), (37, .ireturn, [0], [])]
set_option maxRecDepth 100000 in
def wb_k_X_read : List wb_E := [(0, .aload_n 0, [], []), (1, .getfield 19, [10, 1, 2, 596, 1], []), (4, .aload_n 0, [], []), (5, .getfield 10, [10, 0, 2, 595, 1], []), (8, .aload_n 0, [], []), (9, .getfield 30, [10, 3, 2, 598, 0], []), (12, .invokevirtual 104, [57, 3, 0, 6, 664, 667, 120, 665, 666, 0], []), (15, .aload_n 0, [], []), (16, .getfield 10, [10, 0, 2, 595, 1], []), (19, .iconst 0, [], []), (20, .putfield 101, [8, 1, 0, 156, 0], []), (23, .aload_n 0, [], []), (24, .getfield 19, [10, 1, 2, 596, 1], []), (27, .getfield 108, [6, 8, 0, 260, 0], []), (30, .ifCond .ne 32, [62], []), (33, .aload_n 0, [], []), (34, .getfield 30, [10, 3, 2, 598, 0], []), (37, .invokevirtual 111, [53, 1, 0, 5, 843, 846, 126, 844, 845, 0], []), (40, .aload_n 0, [], []), (41, .getfield 26, [10, 2, 2, 597, 0], []), (44, .astore_n 1, [], []), (45, .aload_n 0, [], []), (46, .aload_n 0, [], []), (47, .getfield 30, [10, 3, 2, 598, 0], []), (50, .putfield 26, [10, 2, 2, 597, 0], []), (53, .aload_n 0, [], []), (54, .aload_n 1, [], []), (55, .putfield 30, [10, 3, 2, 598, 0], []), (58, .aload_n 0, [], []), (59, .invokevirtual 90, [99, 1, 0, 10, 567, 570, 118, 569, 0, 0], []), (62, .aload_n 0, [], [1]), (63, .getfield 19, [10, 1, 2, 596, 1], []), (66, .getfield 108, [6, 8, 0, 260, 0], []), (69, .ireturn, [0], [])]
set_option maxRecDepth 100000 in
def wb_k_X_place : List wb_E := [(0, .aload_n 0, [], []), (1, .getfield 19, [10, 1, 2, 596, 1], []), (4, .getfield 114, [6, 9, 0, 262, 0], []), (7, .ireturn, [0], [])]
set_option maxRecDepth 100000 in
def wb_k_X_startAnew : List wb_E := [(0, .aload_n 0, [], []), (1, .getfield 36, [10, 4, 2, 599, 1], []), (4, .invokevirtual 117, [75, 1, 0, 7, 571, 574, 128, 572, 573, 0], []), (7, .aload_n 0, [], []), (8, .getfield 43, [10, 5, 2, 600, 1], []), (11, .invokevirtual 120, [47, 1, 0, 4, 582, 585, 129, 583, 584, 0], []), (14, .aload_n 0, [], []), (15, .getfield 58, [10, 8, 2, 603, 1], []), (18, .invokevirtual 121, [3, 1, 0, 0, 586, 589, 130, 587, 588, 0], []), (21, .iconst 0, [], []), (22, .istore_n 1, [], []), (23, .iload_n 1, [], []), (24, .iconst 3, [], []), (25, .if_icmp .ge 16, [41], []), (28, .aload_n 0, [], []), (29, .getfield 51, [10, 7, 2, 602, 1], []), (32, .iload_n 1, [], []), (33, .iconst 0, [], []), (34, .bastore, [], []), (35, .iinc 1 1, [], []), (38, .goto (-15), [23], []), (41, .aload_n 0, [], [1]), (42, .invokevirtual 122, [100, 1, 0, 10, 590, 593, 118, 592, 1, 0], []), (45, .return_, [0], [])]
set_option maxRecDepth 100000 in
def wb_k_X_forgetAnswers : List wb_E := [(0, .aload_n 0, [], []), (1, .iconst 0, [], []), (2, .putfield 125, [10, 15, 3, 610, 0], []), (5, .aload_n 0, [], []), (6, .iconst (-1), [], []), (7, .putfield 86, [10, 14, 0, 609, 0], []), (10, .aload_n 0, [], []), (11, .getfield 76, [10, 11, 2, 606, 1], []), (14, .iconst (-1), [], []), (15, .invokestatic 129, [281, 2, 0, 200, 594, 577, 133, 576, 0, 0], []), (18, .return_, [0], [])]
set_option maxRecDepth 100000 in
def wb_k_X_house : List wb_E := [(0, .aload_n 0, [], []), (1, .iload_n 1, [], []), (2, .invokevirtual 135, [105, 2, 1, 10, 875, 878, 118, 877, 23, 0], []), (5, .ifCond .eq 13, [18], []), (8, .iload_n 2, [], []), (9, .ifCond .lt 9, [18], []), (12, .iload_n 2, [], []), (13, .bipush 6, [], []), (15, .if_icmp .le 5, [20], []), (18, .iconst (-1), [], [0, 1, 2, 3]), (19, .ireturn, [0], []), (20, .aload_n 0, [], [3]), (21, .getfield 36, [10, 4, 2, 599, 1], []), (24, .getfield 138, [7, 2, 0, 400, 0], []), (27, .iload_n 1, [], []), (28, .invokestatic 141, [107, 2, 1, 200, 879, 881, 118, 880, 0, 0], []), (31, .istore_n 3, [], []), (32, .iload_n 2, [], []), (33, .tableswitch 138 0 5 #[39, 49, 59, 78, 88, 113], [39, 171, 72, 82, 92, 111, 121, 146], []), (72, .aload_n 0, [], [2, 3]), (73, .getfield 36, [10, 4, 2, 599, 1], []), (76, .iconst 0, [], []), (77, .iload_n 1, [], []), (78, .invokevirtual 145, [73, 3, 1, 7, 882, 885, 128, 883, 884, 0], []), (81, .ireturn, [0], []), (82, .aload_n 0, [], [2]), (83, .getfield 26, [10, 2, 2, 597, 0], []), (86, .iload_n 1, [], []), (87, .iload_n 3, [], []), (88, .invokevirtual 149, [54, 3, 1, 5, 886, 889, 126, 887, 888, 0], []), (91, .ireturn, [0], []), (92, .aload_n 0, [], [2]), (93, .getfield 26, [10, 2, 2, 597, 0], []), (96, .iload_n 1, [], []), (97, .iload_n 3, [], []), (98, .aload_n 0, [], []), (99, .getfield 36, [10, 4, 2, 599, 1], []), (102, .iconst 1, [], []), (103, .iload_n 1, [], []), (104, .invokevirtual 145, [73, 3, 1, 7, 882, 885, 128, 883, 884, 0], []), (107, .invokevirtual 153, [55, 4, 1, 5, 890, 893, 126, 891, 892, 0], []), (110, .ireturn, [0], []), (111, .iload_n 3, [], [0, 1, 2]), (112, .ifCond .eq 7, [119], []), (115, .iconst 1, [], []), (116, .goto 4, [120], []), (119, .iconst 0, [], [0, 1, 2, 3]), (120, .ireturn, [0], [0, 1, 2, 3]), (121, .aload_n 0, [], [2, 3]), (122, .getfield 36, [10, 4, 2, 599, 1], []), (125, .getfield 157, [7, 1, 0, 398, 0], []), (128, .ifCond .ne 8, [136], []), (131, .bipush (-2), [], []), (133, .goto 12, [145], []), (136, .aload_n 0, [], [2, 3]), (137, .getfield 36, [10, 4, 2, 599, 1], []), (140, .iconst 2, [], []), (141, .iload_n 1, [], []), (142, .invokevirtual 145, [73, 3, 1, 7, 882, 885, 128, 883, 884, 0], []), (145, .ireturn, [0], [0, 1, 2, 3]), (146, .aload_n 0, [], [2, 3]), (147, .getfield 36, [10, 4, 2, 599, 1], []), (150, .getfield 157, [7, 1, 0, 398, 0], []), (153, .ifCond .ne 8, [161], []), (156, .bipush (-2), [], []), (158, .goto 12, [170], []), (161, .aload_n 0, [], [2, 3]), (162, .getfield 36, [10, 4, 2, 599, 1], []), (165, .iconst 3, [], []), (166, .iload_n 1, [], []), (167, .invokevirtual 145, [73, 3, 1, 7, 882, 885, 128, 883, 884, 0], []), (170, .ireturn, [0], [0, 1, 2, 3]), (171, .aload_n 0, [], [2, 3]), (172, .getfield 36, [10, 4, 2, 599, 1], []), (175, .iconst 4, [], []), (176, .iload_n 1, [], []), (177, .invokevirtual 145, [73, 3, 1, 7, 882, 885, 128, 883, 884, 0], []), (180, .ireturn, [0], [])]
set_option maxRecDepth 100000 in
def wb_k_X_night : List wb_E := [(0, .iload_n 1, [], []), (1, .ifCond .lt 8, [9], []), (4, .iload_n 1, [], []), (5, .iconst 2, [], []), (6, .if_icmp .le 5, [11], []), (9, .iconst (-1), [], [0, 1]), (10, .ireturn, [0], []), (11, .aload_n 0, [], []), (12, .getfield 36, [10, 4, 2, 599, 1], []), (15, .getfield 157, [7, 1, 0, 398, 0], []), (18, .ifCond .ne 6, [24], []), (21, .bipush (-2), [], []), (23, .ireturn, [0], []), (24, .iload_n 1, [], []), (25, .lookupswitch 51 #[(0, 27), (1, 43)], [27, 76, 52, 68], []), (52, .aload_n 0, [], [1]), (53, .getfield 36, [10, 4, 2, 599, 1], []), (56, .getfield 160, [7, 5, 0, 406, 0], []), (59, .ifCond .eq 7, [66], []), (62, .iconst 1, [], []), (63, .goto 4, [67], []), (66, .iconst 0, [], [0, 1]), (67, .ireturn, [0], [0, 1]), (68, .aload_n 0, [], [1]), (69, .getfield 36, [10, 4, 2, 599, 1], []), (72, .getfield 163, [7, 6, 0, 408, 0], []), (75, .ireturn, [0], []), (76, .aload_n 0, [], [1]), (77, .getfield 36, [10, 4, 2, 599, 1], []), (80, .getfield 166, [7, 7, 0, 410, 0], []), (83, .ireturn, [0], [])]
set_option maxRecDepth 100000 in
def wb_k_X_count : List wb_E := [(0, .iload_n 1, [], []), (1, .tableswitch 168 0 12 #[67, 75, 83, 91, 99, 107, 115, 123, 131, 139, 147, 155, 160], [67, 169, 68, 76, 84, 92, 100, 108, 116, 124, 132, 140, 148, 156, 161], []), (68, .aload_n 0, [], [1]), (69, .getfield 26, [10, 2, 2, 597, 0], []), (72, .getfield 169, [5, 0, 0, 329, 0], []), (75, .ireturn, [0], []), (76, .aload_n 0, [], [1]), (77, .getfield 36, [10, 4, 2, 599, 1], []), (80, .getfield 157, [7, 1, 0, 398, 0], []), (83, .ireturn, [0], []), (84, .aload_n 0, [], [1]), (85, .getfield 36, [10, 4, 2, 599, 1], []), (88, .getfield 172, [7, 3, 0, 402, 0], []), (91, .ireturn, [0], []), (92, .aload_n 0, [], [1]), (93, .getfield 36, [10, 4, 2, 599, 1], []), (96, .getfield 138, [7, 2, 0, 400, 0], []), (99, .ireturn, [0], []), (100, .aload_n 0, [], [1]), (101, .getfield 36, [10, 4, 2, 599, 1], []), (104, .getfield 175, [7, 4, 0, 404, 0], []), (107, .ireturn, [0], []), (108, .aload_n 0, [], [1]), (109, .getfield 26, [10, 2, 2, 597, 0], []), (112, .getfield 178, [5, 7, 0, 350, 0], []), (115, .ireturn, [0], []), (116, .aload_n 0, [], [1]), (117, .getfield 26, [10, 2, 2, 597, 0], []), (120, .getfield 181, [5, 8, 0, 353, 0], []), (123, .ireturn, [0], []), (124, .aload_n 0, [], [1]), (125, .getfield 26, [10, 2, 2, 597, 0], []), (128, .getfield 184, [5, 9, 0, 357, 0], []), (131, .ireturn, [0], []), (132, .aload_n 0, [], [1]), (133, .getfield 10, [10, 0, 2, 595, 1], []), (136, .getfield 101, [8, 1, 0, 156, 0], []), (139, .ireturn, [0], []), (140, .aload_n 0, [], [1]), (141, .getfield 43, [10, 5, 2, 600, 1], []), (144, .getfield 187, [4, 2, 0, 440, 0], []), (147, .ireturn, [0], []), (148, .aload_n 0, [], [1]), (149, .getfield 58, [10, 8, 2, 603, 1], []), (152, .getfield 190, [0, 5, 0, 460, 0], []), (155, .ireturn, [0], []), (156, .aload_n 0, [], [1]), (157, .invokevirtual 191, [104, 1, 1, 10, 902, 905, 118, 904, 24, 0], []), (160, .ireturn, [0], []), (161, .aload_n 0, [], [1]), (162, .getfield 26, [10, 2, 2, 597, 0], []), (165, .getfield 195, [5, 10, 0, 361, 0], []), (168, .ireturn, [0], []), (169, .iconst (-1), [], [0, 1]), (170, .ireturn, [0], [])]
set_option maxRecDepth 100000 in
def wb_k_X_heldSlots : List wb_E := [(0, .iconst 0, [], []), (1, .istore_n 1, [], []), (2, .iconst 0, [], []), (3, .istore_n 2, [], []), (4, .iload_n 2, [], []), (5, .iconst 3, [], []), (6, .if_icmp .ge 21, [27], []), (9, .aload_n 0, [], []), (10, .getfield 51, [10, 7, 2, 602, 1], []), (13, .iload_n 2, [], []), (14, .baload, [], []), (15, .ifCond .eq 6, [21], []), (18, .iinc 1 1, [], []), (21, .iinc 2 1, [], []), (24, .goto (-20), [4], []), (27, .iload_n 1, [], [0, 2]), (28, .ireturn, [0], [])]
set_option maxRecDepth 100000 in
def wb_k_X_isHouse : List wb_E := [(0, .iload_n 1, [], []), (1, .ifCond .lt 18, [19], []), (4, .iload_n 1, [], []), (5, .aload_n 0, [], []), (6, .getfield 26, [10, 2, 2, 597, 0], []), (9, .getfield 169, [5, 0, 0, 329, 0], []), (12, .if_icmp .ge 7, [19], []), (15, .iconst 1, [], []), (16, .goto 4, [20], []), (19, .iconst 0, [], [0, 1]), (20, .ireturn, [1], [0, 1])]
set_option maxRecDepth 100000 in
def wb_k_X_isRow : List wb_E := [(0, .iload_n 0, [], []), (1, .ifCond .lt 17, [18], []), (4, .iload_n 0, [], []), (5, .getstatic 198, [0, 2, 1070, 0], []), (8, .bipush 6, [], []), (10, .iaload, [], []), (11, .if_icmp .ge 7, [18], []), (14, .iconst 1, [], []), (15, .goto 4, [19], []), (18, .iconst 0, [], [0]), (19, .ireturn, [1], [0])]
set_option maxRecDepth 100000 in
def wb_k_X_hasBit : List wb_E := [(0, .iload_n 0, [], []), (1, .iload_n 1, [], []), (2, .ishr, [], []), (3, .iconst 1, [], []), (4, .iand, [], []), (5, .ifCond .eq 7, [12], []), (8, .iconst 1, [], []), (9, .goto 4, [13], []), (12, .iconst 0, [], [0, 1]), (13, .ireturn, [1], [0, 1])]
set_option maxRecDepth 100000 in
def wb_k_X_allHouses : List wb_E := [(0, .iconst 1, [], []), (1, .aload_n 0, [], []), (2, .getfield 26, [10, 2, 2, 597, 0], []), (5, .getfield 169, [5, 0, 0, 329, 0], []), (8, .ishl, [], []), (9, .iconst 1, [], []), (10, .isub, [], []), (11, .ireturn, [0], [])]
set_option maxRecDepth 100000 in
def wb_k_X_nights : List wb_E := [(0, .iload_n 1, [], []), (1, .ifCond .lt 9, [10], []), (4, .iload_n 1, [], []), (5, .bipush 50, [], []), (7, .if_icmp .le 5, [12], []), (10, .iconst (-1), [], [0, 1, 2, 3]), (11, .ireturn, [0], []), (12, .iload_n 1, [], [2, 3]), (13, .ifCond .le 58, [71], []), (16, .aload_n 0, [], []), (17, .getfield 43, [10, 5, 2, 600, 1], []), (20, .aload_n 0, [], []), (21, .getfield 36, [10, 4, 2, 599, 1], []), (24, .invokevirtual 201, [48, 2, 0, 4, 910, 913, 129, 911, 912, 0], []), (27, .aload_n 0, [], []), (28, .invokevirtual 205, [142, 1, 14, 10, 922, 925, 118, 924, 25, 0], []), (31, .astore_n 2, [], []), (32, .iconst 0, [], []), (33, .istore_n 3, [], []), (34, .iload_n 3, [], []), (35, .iload_n 1, [], []), (36, .if_icmp .ge 35, [71], []), (39, .aload_n 2, [], []), (40, .aload_n 0, [], []), (41, .getfield 26, [10, 2, 2, 597, 0], []), (44, .getfield 209, [5, 11, 0, 364, 0], []), (47, .aload_n 0, [], []), (48, .getfield 36, [10, 4, 2, 599, 1], []), (51, .getfield 157, [7, 1, 0, 398, 0], []), (54, .invokevirtual 212, [28, 3, 0, 1, 1006, 1009, 131, 1007, 1008, 0], []), (57, .aload_n 0, [], []), (58, .getfield 36, [10, 4, 2, 599, 1], []), (61, .aload_n 2, [], []), (62, .invokevirtual 216, [77, 2, 0, 7, 1021, 1024, 128, 1022, 1023, 0], []), (65, .iinc 3 1, [], []), (68, .goto (-34), [34], []), (71, .aload_n 0, [], [1, 2, 3]), (72, .getfield 36, [10, 4, 2, 599, 1], []), (75, .getfield 157, [7, 1, 0, 398, 0], []), (78, .ireturn, [0], [])]
set_option maxRecDepth 100000 in
def wb_k_X_leaflet : List wb_E := [(0, .aload_n 0, [], []), (1, .iload_n 1, [], []), (2, .invokevirtual 135, [105, 2, 1, 10, 875, 878, 118, 877, 23, 0], []), (5, .ifCond .eq 18, [23], []), (8, .aload_n 0, [], []), (9, .getfield 36, [10, 4, 2, 599, 1], []), (12, .getfield 138, [7, 2, 0, 400, 0], []), (15, .iload_n 1, [], []), (16, .invokestatic 141, [107, 2, 1, 200, 879, 881, 118, 880, 0, 0], []), (19, .iload_n 2, [], []), (20, .if_icmp .ne 5, [25], []), (23, .iconst 0, [], [0, 1, 2]), (24, .ireturn, [1], []), (25, .aload_n 0, [], []), (26, .getfield 43, [10, 5, 2, 600, 1], []), (29, .aload_n 0, [], []), (30, .getfield 36, [10, 4, 2, 599, 1], []), (33, .invokevirtual 201, [48, 2, 0, 4, 910, 913, 129, 911, 912, 0], []), (36, .aload_n 0, [], []), (37, .getfield 36, [10, 4, 2, 599, 1], []), (40, .dup, [], []), (41, .getfield 138, [7, 2, 0, 400, 0], []), (44, .iconst 1, [], []), (45, .iload_n 1, [], []), (46, .ishl, [], []), (47, .ixor, [], []), (48, .putfield 138, [7, 2, 0, 400, 0], []), (51, .iload_n 2, [], []), (52, .ifCond .eq 22, [74], []), (55, .aload_n 0, [], []), (56, .getfield 36, [10, 4, 2, 599, 1], []), (59, .dup, [], []), (60, .getfield 172, [7, 3, 0, 402, 0], []), (63, .aload_n 0, [], []), (64, .getfield 26, [10, 2, 2, 597, 0], []), (67, .getfield 195, [5, 10, 0, 361, 0], []), (70, .iadd, [], []), (71, .putfield 172, [7, 3, 0, 402, 0], []), (74, .aload_n 0, [], [1, 2]), (75, .invokevirtual 122, [100, 1, 0, 10, 590, 593, 118, 592, 1, 0], []), (78, .iconst 1, [], []), (79, .ireturn, [1], [])]
set_option maxRecDepth 100000 in
def wb_k_X_swap : List wb_E := [(0, .aload_n 0, [], []), (1, .iload_n 1, [], []), (2, .invokevirtual 135, [105, 2, 1, 10, 875, 878, 118, 877, 23, 0], []), (5, .ifCond .eq 16, [21], []), (8, .aload_n 0, [], []), (9, .iload_n 2, [], []), (10, .invokevirtual 135, [105, 2, 1, 10, 875, 878, 118, 877, 23, 0], []), (13, .ifCond .eq 8, [21], []), (16, .iload_n 1, [], []), (17, .iload_n 2, [], []), (18, .if_icmp .ne 5, [23], []), (21, .iconst 0, [], [0, 1, 2, 3]), (22, .ireturn, [1], []), (23, .aload_n 0, [], [3]), (24, .getfield 43, [10, 5, 2, 600, 1], []), (27, .aload_n 0, [], []), (28, .getfield 36, [10, 4, 2, 599, 1], []), (31, .invokevirtual 201, [48, 2, 0, 4, 910, 913, 129, 911, 912, 0], []), (34, .aload_n 0, [], []), (35, .getfield 36, [10, 4, 2, 599, 1], []), (38, .iconst 0, [], []), (39, .iload_n 1, [], []), (40, .invokevirtual 145, [73, 3, 1, 7, 882, 885, 128, 883, 884, 0], []), (43, .istore_n 3, [], []), (44, .aload_n 0, [], []), (45, .getfield 36, [10, 4, 2, 599, 1], []), (48, .iconst 0, [], []), (49, .iload_n 1, [], []), (50, .aload_n 0, [], []), (51, .getfield 36, [10, 4, 2, 599, 1], []), (54, .iconst 0, [], []), (55, .iload_n 2, [], []), (56, .invokevirtual 145, [73, 3, 1, 7, 882, 885, 128, 883, 884, 0], []), (59, .invokevirtual 220, [74, 4, 0, 7, 1035, 581, 128, 579, 580, 0], []), (62, .aload_n 0, [], []), (63, .getfield 36, [10, 4, 2, 599, 1], []), (66, .iconst 0, [], []), (67, .iload_n 2, [], []), (68, .iload_n 3, [], []), (69, .invokevirtual 220, [74, 4, 0, 7, 1035, 581, 128, 579, 580, 0], []), (72, .aload_n 0, [], []), (73, .invokevirtual 122, [100, 1, 0, 10, 590, 593, 118, 592, 1, 0], []), (76, .iconst 1, [], []), (77, .ireturn, [1], [])]
set_option maxRecDepth 100000 in
def wb_k_X_habit : List wb_E := [(0, .aload_n 0, [], []), (1, .iload_n 1, [], []), (2, .invokevirtual 135, [105, 2, 1, 10, 875, 878, 118, 877, 23, 0], []), (5, .ifCond .eq 23, [28], []), (8, .iload_n 2, [], []), (9, .invokestatic 224, [113, 1, 1, 200, 1040, 1042, 118, 1041, 0, 0], []), (12, .ifCond .eq 16, [28], []), (15, .aload_n 0, [], []), (16, .getfield 36, [10, 4, 2, 599, 1], []), (19, .iconst 1, [], []), (20, .iload_n 1, [], []), (21, .invokevirtual 145, [73, 3, 1, 7, 882, 885, 128, 883, 884, 0], []), (24, .iload_n 2, [], []), (25, .if_icmp .ne 5, [30], []), (28, .iconst 0, [], [0, 1, 2]), (29, .ireturn, [1], []), (30, .aload_n 0, [], []), (31, .getfield 43, [10, 5, 2, 600, 1], []), (34, .aload_n 0, [], []), (35, .getfield 36, [10, 4, 2, 599, 1], []), (38, .invokevirtual 201, [48, 2, 0, 4, 910, 913, 129, 911, 912, 0], []), (41, .aload_n 0, [], []), (42, .getfield 36, [10, 4, 2, 599, 1], []), (45, .iconst 1, [], []), (46, .iload_n 1, [], []), (47, .iload_n 2, [], []), (48, .invokevirtual 220, [74, 4, 0, 7, 1035, 581, 128, 579, 580, 0], []), (51, .aload_n 0, [], []), (52, .invokevirtual 122, [100, 1, 0, 10, 590, 593, 118, 592, 1, 0], []), (55, .iconst 1, [], []), (56, .ireturn, [1], [])]
set_option maxRecDepth 100000 in
def wb_k_X_canBeSet : List wb_E := [(0, .iload_n 0, [], []), (1, .iconst (-1), [], []), (2, .if_icmp .lt 18, [20], []), (5, .iload_n 0, [], []), (6, .bipush 6, [], []), (8, .if_icmp .ge 12, [20], []), (11, .iload_n 0, [], []), (12, .iconst 3, [], []), (13, .if_icmp .eq 7, [20], []), (16, .iconst 1, [], []), (17, .goto 4, [21], []), (20, .iconst 0, [], [0]), (21, .ireturn, [1], [0])]
set_option maxRecDepth 100000 in
def wb_k_X_undo : List wb_E := [(0, .aload_n 0, [], []), (1, .getfield 43, [10, 5, 2, 600, 1], []), (4, .aload_n 0, [], []), (5, .getfield 36, [10, 4, 2, 599, 1], []), (8, .invokevirtual 227, [49, 2, 1, 4, 1047, 1050, 129, 1048, 1049, 0], []), (11, .ifCond .ne 5, [16], []), (14, .iconst 0, [], []), (15, .ireturn, [1], []), (16, .aload_n 0, [], []), (17, .invokevirtual 122, [100, 1, 0, 10, 590, 593, 118, 592, 1, 0], []), (20, .iconst 1, [], []), (21, .ireturn, [1], [])]
set_option maxRecDepth 100000 in
def wb_k_X_hold : List wb_E := [(0, .iload_n 1, [], []), (1, .invokestatic 231, [117, 1, 1, 200, 1055, 1057, 118, 1056, 0, 0], []), (4, .ifCond .ne 5, [9], []), (7, .iconst 0, [], []), (8, .ireturn, [1], []), (9, .aload_n 0, [], []), (10, .getfield 47, [10, 6, 2, 601, 1], []), (13, .iload_n 1, [], []), (14, .aaload, [], []), (15, .aload_n 0, [], []), (16, .getfield 36, [10, 4, 2, 599, 1], []), (19, .invokevirtual 234, [76, 2, 0, 7, 1058, 917, 128, 915, 916, 0], []), (22, .aload_n 0, [], []), (23, .getfield 51, [10, 7, 2, 602, 1], []), (26, .iload_n 1, [], []), (27, .iconst 1, [], []), (28, .bastore, [], []), (29, .iconst 1, [], []), (30, .ireturn, [1], [])]
set_option maxRecDepth 100000 in
def wb_k_X_restore : List wb_E := [(0, .iload_n 1, [], []), (1, .invokestatic 231, [117, 1, 1, 200, 1055, 1057, 118, 1056, 0, 0], []), (4, .ifCond .eq 12, [16], []), (7, .aload_n 0, [], []), (8, .getfield 51, [10, 7, 2, 602, 1], []), (11, .iload_n 1, [], []), (12, .baload, [], []), (13, .ifCond .ne 5, [18], []), (16, .iconst 0, [], [0, 1]), (17, .ireturn, [1], []), (18, .aload_n 0, [], []), (19, .getfield 36, [10, 4, 2, 599, 1], []), (22, .aload_n 0, [], []), (23, .getfield 47, [10, 6, 2, 601, 1], []), (26, .iload_n 1, [], []), (27, .aaload, [], []), (28, .invokevirtual 234, [76, 2, 0, 7, 1058, 917, 128, 915, 916, 0], []), (31, .aload_n 0, [], []), (32, .getfield 43, [10, 5, 2, 600, 1], []), (35, .invokevirtual 120, [47, 1, 0, 4, 582, 585, 129, 583, 584, 0], []), (38, .aload_n 0, [], []), (39, .invokevirtual 122, [100, 1, 0, 10, 590, 593, 118, 592, 1, 0], []), (42, .iconst 1, [], []), (43, .ireturn, [1], [])]
set_option maxRecDepth 100000 in
def wb_k_X_isSlot : List wb_E := [(0, .iload_n 0, [], []), (1, .ifCond .lt 12, [13], []), (4, .iload_n 0, [], []), (5, .iconst 3, [], []), (6, .if_icmp .ge 7, [13], []), (9, .iconst 1, [], []), (10, .goto 4, [14], []), (13, .iconst 0, [], [0]), (14, .ireturn, [1], [0])]
set_option maxRecDepth 100000 in
def wb_k_X_puts : List wb_E := [(0, .aload_n 0, [], []), (1, .iload_n 1, [], []), (2, .invokevirtual 135, [105, 2, 1, 10, 875, 878, 118, 877, 23, 0], []), (5, .ifCond .eq 10, [15], []), (8, .iload_n 3, [], []), (9, .invokestatic 237, [106, 1, 1, 200, 1067, 1069, 118, 1068, 0, 0], []), (12, .ifCond .ne 5, [17], []), (15, .iconst (-1), [], [0, 1, 2, 3]), (16, .ireturn, [0], []), (17, .aload_n 0, [], []), (18, .invokevirtual 205, [142, 1, 14, 10, 922, 925, 118, 924, 25, 0], []), (21, .aload_n 0, [], []), (22, .getfield 36, [10, 4, 2, 599, 1], []), (25, .iconst 0, [], []), (26, .iload_n 1, [], []), (27, .invokevirtual 145, [73, 3, 1, 7, 882, 885, 128, 883, 884, 0], []), (30, .iload_n 2, [], []), (31, .iload_n 3, [], []), (32, .invokevirtual 240, [22, 4, 1, 1, 1071, 969, 131, 967, 968, 0], []), (35, .ireturn, [0], [])]
set_option maxRecDepth 100000 in
def wb_k_X_chance : List wb_E := [(0, .aload_n 0, [], []), (1, .iload_n 1, [], []), (2, .invokevirtual 135, [105, 2, 1, 10, 875, 878, 118, 877, 23, 0], []), (5, .ifCond .eq 21, [26], []), (8, .aload_n 0, [], []), (9, .aload_n 0, [], []), (10, .invokevirtual 205, [142, 1, 14, 10, 922, 925, 118, 924, 25, 0], []), (13, .getfield 243, [1, 11, 2, 495, 1], []), (16, .iload_n 1, [], []), (17, .iaload, [], []), (18, .i2l, [], []), (19, .iload_n 2, [], []), (20, .invokevirtual 246, [144, 3, 1, 10, 1076, 1079, 118, 1078, 36, 0], []), (23, .goto 4, [27], []), (26, .iconst (-1), [], [0, 1, 2]), (27, .ireturn, [0], [0, 1, 2])]
set_option maxRecDepth 100000 in
def wb_k_X_street : List wb_E := [(0, .iload_n 1, [], []), (1, .ifCond .lt 9, [10], []), (4, .iload_n 1, [], []), (5, .bipush 6, [], []), (7, .if_icmp .le 5, [12], []), (10, .iconst (-1), [], [0, 1, 2]), (11, .ireturn, [0], []), (12, .aload_n 0, [], []), (13, .aload_n 0, [], []), (14, .invokevirtual 205, [142, 1, 14, 10, 922, 925, 118, 924, 25, 0], []), (17, .iload_n 1, [], []), (18, .invokevirtual 250, [20, 2, 1, 1, 1095, 1098, 131, 1096, 1097, 0], []), (21, .i2l, [], []), (22, .iload_n 2, [], []), (23, .invokevirtual 246, [144, 3, 1, 10, 1076, 1079, 118, 1078, 36, 0], []), (26, .ireturn, [0], [])]
set_option maxRecDepth 100000 in
def wb_k_X_mean : List wb_E := [(0, .aload_n 0, [], []), (1, .aload_n 0, [], []), (2, .aload_n 0, [], []), (3, .getfield 36, [10, 4, 2, 599, 1], []), (6, .getfield 138, [7, 2, 0, 400, 0], []), (9, .invokevirtual 254, [129, 2, 1, 10, 1103, 1106, 118, 1105, 38, 0], []), (12, .i2l, [], []), (13, .iload_n 1, [], []), (14, .invokevirtual 246, [144, 3, 1, 10, 1076, 1079, 118, 1078, 36, 0], []), (17, .ireturn, [0], [])]
set_option maxRecDepth 100000 in
def wb_k_X_pays : List wb_E := [(0, .aload_n 0, [], []), (1, .invokevirtual 205, [142, 1, 14, 10, 922, 925, 118, 924, 25, 0], []), (4, .astore_n 2, [], []), (5, .aload_n 2, [], []), (6, .invokevirtual 257, [18, 1, 1, 1, 1107, 1110, 131, 1108, 1109, 0], []), (9, .i2l, [], []), (10, .aload_n 0, [], []), (11, .getfield 26, [10, 2, 2, 597, 0], []), (14, .getfield 181, [5, 8, 0, 353, 0], []), (17, .i2l, [], []), (18, .lmul, [], []), (19, .aload_n 2, [], []), (20, .getfield 260, [1, 12, 0, 497, 0], []), (23, .i2l, [], []), (24, .aload_n 0, [], []), (25, .getfield 26, [10, 2, 2, 597, 0], []), (28, .getfield 184, [5, 9, 0, 357, 0], []), (31, .i2l, [], []), (32, .lmul, [], []), (33, .ladd, [], []), (34, .lstore_n 3, [], []), (35, .aload_n 0, [], []), (36, .lload_n 3, [], []), (37, .iload_n 1, [], []), (38, .invokevirtual 246, [144, 3, 1, 10, 1076, 1079, 118, 1078, 36, 0], []), (41, .ireturn, [0], [])]
set_option maxRecDepth 100000 in
def wb_k_X_tells : List wb_E := [(0, .iload_n 1, [], []), (1, .invokestatic 237, [106, 1, 1, 200, 1067, 1069, 118, 1068, 0, 0], []), (4, .ifCond .ne 5, [9], []), (7, .iconst (-1), [], []), (8, .ireturn, [0], []), (9, .aload_n 0, [], [3, 4, 5]), (10, .invokevirtual 205, [142, 1, 14, 10, 922, 925, 118, 924, 25, 0], []), (13, .astore_n 3, [], []), (14, .aload_n 3, [], []), (15, .iload_n 1, [], []), (16, .iconst 1, [], []), (17, .invokevirtual 263, [19, 3, 1, 1, 1119, 1122, 131, 1120, 1121, 0], []), (20, .istore 4, [], []), (22, .iload 4, [], []), (24, .aload_n 3, [], []), (25, .iload_n 1, [], []), (26, .iconst 0, [], []), (27, .invokevirtual 263, [19, 3, 1, 1, 1119, 1122, 131, 1120, 1121, 0], []), (30, .iadd, [], []), (31, .istore 5, [], []), (33, .iload 5, [], []), (35, .ifCond .ne 8, [43], []), (38, .bipush (-2), [], []), (40, .goto 13, [53], []), (43, .iload 4, [], [0, 1, 3]), (45, .i2l, [], []), (46, .iload 5, [], []), (48, .i2l, [], []), (49, .iload_n 2, [], []), (50, .invokestatic 266, [145, 3, 1, 200, 1085, 1087, 118, 1086, 0, 0], []), (53, .ireturn, [0], [0, 1, 2, 3, 4, 5])]
set_option maxRecDepth 100000 in
def wb_k_X_herd : List wb_E := [(0, .iload_n 1, [], []), (1, .invokestatic 237, [106, 1, 1, 200, 1067, 1069, 118, 1068, 0, 0], []), (4, .ifCond .ne 5, [9], []), (7, .iconst (-1), [], []), (8, .ireturn, [0], []), (9, .aload_n 0, [], [2, 3]), (10, .invokevirtual 205, [142, 1, 14, 10, 922, 925, 118, 924, 25, 0], []), (13, .astore_n 2, [], []), (14, .aload_n 0, [], []), (15, .getfield 26, [10, 2, 2, 597, 0], []), (18, .getfield 169, [5, 0, 0, 329, 0], []), (21, .istore_n 3, [], []), (22, .iload_n 3, [], []), (23, .ifCond .le 30, [53], []), (26, .aload_n 2, [], []), (27, .iload_n 3, [], []), (28, .iconst 1, [], []), (29, .isub, [], []), (30, .iconst 1, [], []), (31, .iload_n 1, [], []), (32, .invokevirtual 240, [22, 4, 1, 1, 1071, 969, 131, 967, 968, 0], []), (35, .aload_n 2, [], []), (36, .iload_n 3, [], []), (37, .iconst 1, [], []), (38, .isub, [], []), (39, .iconst 0, [], []), (40, .iload_n 1, [], []), (41, .invokevirtual 240, [22, 4, 1, 1, 1071, 969, 131, 967, 968, 0], []), (44, .if_icmp .ne 9, [53], []), (47, .iinc 3 (-1), [], []), (50, .goto (-28), [22], []), (53, .iload_n 3, [], [1, 2]), (54, .aload_n 0, [], []), (55, .getfield 26, [10, 2, 2, 597, 0], []), (58, .getfield 169, [5, 0, 0, 329, 0], []), (61, .if_icmp .ne 8, [69], []), (64, .bipush (-2), [], []), (66, .goto 4, [70], []), (69, .iload_n 3, [], [0, 1, 2]), (70, .ireturn, [0], [0, 1, 2, 3])]
set_option maxRecDepth 100000 in
def wb_k_X_whom : List wb_E := [(0, .iload_n 1, [], []), (1, .ifCond .lt 9, [10], []), (4, .iload_n 1, [], []), (5, .bipush 6, [], []), (7, .if_icmp .le 5, [12], []), (10, .iconst (-1), [], [0, 1]), (11, .ireturn, [0], []), (12, .aload_n 0, [], []), (13, .invokevirtual 270, [108, 1, 1, 10, 1131, 1134, 118, 1133, 39, 0], []), (16, .aload_n 0, [], []), (17, .getfield 36, [10, 4, 2, 599, 1], []), (20, .getfield 138, [7, 2, 0, 400, 0], []), (23, .iconst (-1), [], []), (24, .ixor, [], []), (25, .iand, [], []), (26, .invokestatic 273, [265, 1, 1, 200, 1135, 1137, 138, 1136, 0, 0], []), (29, .iload_n 1, [], []), (30, .if_icmp .ge 8, [38], []), (33, .bipush (-2), [], []), (35, .goto 8, [43], []), (38, .aload_n 0, [], []), (39, .iload_n 1, [], []), (40, .invokevirtual 278, [128, 2, 1, 10, 1141, 1144, 118, 1143, 40, 0], []), (43, .ireturn, [0], [0, 1])]
set_option maxRecDepth 100000 in
def wb_k_X_worth : List wb_E := [(0, .aload_n 0, [], []), (1, .iload_n 1, [], []), (2, .invokevirtual 135, [105, 2, 1, 10, 875, 878, 118, 877, 23, 0], []), (5, .ifCond .ne 5, [10], []), (8, .iconst (-1), [], []), (9, .ireturn, [0], []), (10, .aload_n 0, [], []), (11, .aload_n 0, [], []), (12, .aload_n 0, [], []), (13, .getfield 36, [10, 4, 2, 599, 1], []), (16, .getfield 138, [7, 2, 0, 400, 0], []), (19, .invokevirtual 254, [129, 2, 1, 10, 1103, 1106, 118, 1105, 38, 0], []), (22, .aload_n 0, [], []), (23, .aload_n 0, [], []), (24, .getfield 36, [10, 4, 2, 599, 1], []), (27, .getfield 138, [7, 2, 0, 400, 0], []), (30, .iconst 1, [], []), (31, .iload_n 1, [], []), (32, .ishl, [], []), (33, .ior, [], []), (34, .invokevirtual 254, [129, 2, 1, 10, 1103, 1106, 118, 1105, 38, 0], []), (37, .isub, [], []), (38, .i2l, [], []), (39, .iload_n 2, [], []), (40, .invokevirtual 246, [144, 3, 1, 10, 1076, 1079, 118, 1078, 36, 0], []), (43, .ireturn, [0], [])]
set_option maxRecDepth 100000 in
def wb_k_X_fewest : List wb_E := [(0, .iload_n 1, [], []), (1, .ifCond .lt 9, [10], []), (4, .iload_n 1, [], []), (5, .bipush 60, [], []), (7, .if_icmp .le 5, [12], []), (10, .iconst (-1), [], [0, 1, 2, 3]), (11, .ireturn, [0], []), (12, .aload_n 0, [], [2, 3]), (13, .invokevirtual 270, [108, 1, 1, 10, 1131, 1134, 118, 1133, 39, 0], []), (16, .aload_n 0, [], []), (17, .getfield 36, [10, 4, 2, 599, 1], []), (20, .getfield 138, [7, 2, 0, 400, 0], []), (23, .iconst (-1), [], []), (24, .ixor, [], []), (25, .iand, [], []), (26, .invokestatic 273, [265, 1, 1, 200, 1135, 1137, 138, 1136, 0, 0], []), (29, .istore_n 2, [], []), (30, .iconst 0, [], []), (31, .istore_n 3, [], []), (32, .iload_n 3, [], []), (33, .iload_n 2, [], []), (34, .if_icmp .ge 45, [79], []), (37, .ldc2_w 281, [10, 1153], []), (40, .aload_n 0, [], []), (41, .aload_n 0, [], []), (42, .getfield 36, [10, 4, 2, 599, 1], []), (45, .getfield 138, [7, 2, 0, 400, 0], []), (48, .aload_n 0, [], []), (49, .iload_n 3, [], []), (50, .invokevirtual 278, [128, 2, 1, 10, 1141, 1144, 118, 1143, 40, 0], []), (53, .ior, [], []), (54, .invokevirtual 254, [129, 2, 1, 10, 1103, 1106, 118, 1105, 38, 0], []), (57, .i2l, [], []), (58, .lmul, [], []), (59, .iload_n 1, [], []), (60, .i2l, [], []), (61, .aload_n 0, [], []), (62, .invokevirtual 283, [143, 1, 1, 10, 1080, 1083, 118, 1082, 37, 0], []), (65, .i2l, [], []), (66, .lmul, [], []), (67, .lcmp, [], []), (68, .ifCond .gt 5, [73], []), (71, .iload_n 3, [], []), (72, .ireturn, [0], []), (73, .iinc 3 1, [], []), (76, .goto (-44), [32], []), (79, .iload_n 2, [], [0, 1, 3]), (80, .ireturn, [0], [])]
set_option maxRecDepth 100000 in
def wb_k_X_bestLeaflets : List wb_E := [(0, .aload_n 0, [], []), (1, .invokevirtual 270, [108, 1, 1, 10, 1131, 1134, 118, 1133, 39, 0], []), (4, .aload_n 0, [], []), (5, .getfield 36, [10, 4, 2, 599, 1], []), (8, .getfield 138, [7, 2, 0, 400, 0], []), (11, .iconst (-1), [], []), (12, .ixor, [], []), (13, .iand, [], []), (14, .istore_n 2, [], []), (15, .iconst (-1), [], []), (16, .istore_n 3, [], []), (17, .iconst 0, [], []), (18, .istore 4, [], []), (20, .iload 4, [], []), (22, .iload_n 2, [], []), (23, .if_icmp .gt 65, [88], []), (26, .iload 4, [], []), (28, .iload_n 2, [], []), (29, .iconst (-1), [], []), (30, .ixor, [], []), (31, .iand, [], []), (32, .ifCond .ne 50, [82], []), (35, .iload 4, [], []), (37, .invokestatic 273, [265, 1, 1, 200, 1135, 1137, 138, 1136, 0, 0], []), (40, .iload_n 1, [], []), (41, .if_icmp .ne 41, [82], []), (44, .iload_n 3, [], []), (45, .iconst (-1), [], []), (46, .if_icmp .eq 33, [79], []), (49, .aload_n 0, [], []), (50, .aload_n 0, [], []), (51, .getfield 36, [10, 4, 2, 599, 1], []), (54, .getfield 138, [7, 2, 0, 400, 0], []), (57, .iload 4, [], []), (59, .ior, [], []), (60, .invokevirtual 254, [129, 2, 1, 10, 1103, 1106, 118, 1105, 38, 0], []), (63, .aload_n 0, [], []), (64, .aload_n 0, [], []), (65, .getfield 36, [10, 4, 2, 599, 1], []), (68, .getfield 138, [7, 2, 0, 400, 0], []), (71, .iload_n 3, [], []), (72, .ior, [], []), (73, .invokevirtual 254, [129, 2, 1, 10, 1103, 1106, 118, 1105, 38, 0], []), (76, .if_icmp .ge 6, [82], []), (79, .iload 4, [], [3]), (81, .istore_n 3, [], []), (82, .iinc 4 1, [], []), (85, .goto (-65), [20], []), (88, .iload_n 3, [], [0, 1, 2, 4]), (89, .ireturn, [0], [])]
set_option maxRecDepth 100000 in
def wb_k_X_meanWith : List wb_E := [(0, .aload_n 0, [], []), (1, .getfield 76, [10, 11, 2, 606, 1], []), (4, .iload_n 1, [], []), (5, .iaload, [], []), (6, .iconst (-1), [], []), (7, .if_icmp .ne 61, [68], []), (10, .aload_n 0, [], []), (11, .getfield 65, [10, 9, 2, 604, 1], []), (14, .aload_n 0, [], []), (15, .getfield 26, [10, 2, 2, 597, 0], []), (18, .aload_n 0, [], []), (19, .getfield 36, [10, 4, 2, 599, 1], []), (22, .iload_n 1, [], []), (23, .iconst 0, [], []), (24, .invokevirtual 286, [9, 5, 0, 1, 926, 929, 131, 927, 928, 0], []), (27, .aload_n 0, [], []), (28, .getfield 65, [10, 9, 2, 604, 1], []), (31, .iconst 0, [], []), (32, .invokevirtual 290, [12, 2, 0, 1, 939, 942, 131, 940, 941, 0], []), (35, .aload_n 0, [], []), (36, .iload_n 1, [], []), (37, .aload_n 0, [], []), (38, .getfield 36, [10, 4, 2, 599, 1], []), (41, .getfield 138, [7, 2, 0, 400, 0], []), (44, .if_icmp .ne 7, [51], []), (47, .iconst 1, [], []), (48, .goto 4, [52], []), (51, .iconst 0, [], []), (52, .putfield 125, [10, 15, 3, 610, 0], []), (55, .aload_n 0, [], []), (56, .getfield 76, [10, 11, 2, 606, 1], []), (59, .iload_n 1, [], []), (60, .aload_n 0, [], []), (61, .getfield 65, [10, 9, 2, 604, 1], []), (64, .invokevirtual 257, [18, 1, 1, 1, 1107, 1110, 131, 1108, 1109, 0], []), (67, .iastore, [], []), (68, .aload_n 0, [], []), (69, .getfield 76, [10, 11, 2, 606, 1], []), (72, .iload_n 1, [], []), (73, .iaload, [], []), (74, .ireturn, [0], [])]
set_option maxRecDepth 100000 in
def wb_k_X_bestSwap : List wb_E := [(0, .bipush (-2), [], []), (2, .istore_n 1, [], []), (3, .aload_n 0, [], []), (4, .aload_n 0, [], []), (5, .getfield 36, [10, 4, 2, 599, 1], []), (8, .getfield 138, [7, 2, 0, 400, 0], []), (11, .invokevirtual 254, [129, 2, 1, 10, 1103, 1106, 118, 1105, 38, 0], []), (14, .istore_n 2, [], []), (15, .iconst 0, [], []), (16, .istore_n 3, [], []), (17, .iload_n 3, [], [4, 5]), (18, .aload_n 0, [], []), (19, .getfield 26, [10, 2, 2, 597, 0], []), (22, .getfield 169, [5, 0, 0, 329, 0], []), (25, .if_icmp .ge 58, [83], []), (28, .iload_n 3, [], []), (29, .iconst 1, [], []), (30, .iadd, [], []), (31, .istore 4, [], []), (33, .iload 4, [], [5]), (35, .aload_n 0, [], []), (36, .getfield 26, [10, 2, 2, 597, 0], []), (39, .getfield 169, [5, 0, 0, 329, 0], []), (42, .if_icmp .ge 35, [77], []), (45, .aload_n 0, [], []), (46, .iload_n 3, [], []), (47, .iload 4, [], []), (49, .invokevirtual 293, [131, 3, 1, 10, 1158, 1161, 118, 1160, 41, 0], []), (52, .istore 5, [], []), (54, .iload 5, [], []), (56, .iload_n 2, [], []), (57, .if_icmp .ge 14, [71], []), (60, .iload 5, [], []), (62, .istore_n 2, [], []), (63, .bipush 10, [], []), (65, .iload_n 3, [], []), (66, .imul, [], []), (67, .iload 4, [], []), (69, .iadd, [], []), (70, .istore_n 1, [], []), (71, .iinc 4 1, [], [5]), (74, .goto (-41), [33], []), (77, .iinc 3 1, [], [4, 5]), (80, .goto (-63), [17], []), (83, .iload_n 1, [], [0, 2, 3, 4, 5]), (84, .ireturn, [0], [])]
set_option maxRecDepth 100000 in
def wb_k_X_meanIfChanged : List wb_E := [(0, .aload_n 0, [], []), (1, .iconst 0, [], []), (2, .putfield 125, [10, 15, 3, 610, 0], []), (5, .aload_n 0, [], []), (6, .getfield 65, [10, 9, 2, 604, 1], []), (9, .aload_n 0, [], []), (10, .getfield 26, [10, 2, 2, 597, 0], []), (13, .aload_n 0, [], []), (14, .getfield 36, [10, 4, 2, 599, 1], []), (17, .aload_n 0, [], []), (18, .getfield 36, [10, 4, 2, 599, 1], []), (21, .getfield 138, [7, 2, 0, 400, 0], []), (24, .iconst 0, [], []), (25, .invokevirtual 286, [9, 5, 0, 1, 926, 929, 131, 927, 928, 0], []), (28, .aload_n 0, [], []), (29, .getfield 65, [10, 9, 2, 604, 1], []), (32, .iload_n 1, [], []), (33, .iload_n 2, [], []), (34, .invokevirtual 296, [10, 3, 0, 1, 1162, 1165, 131, 1163, 1164, 0], []), (37, .aload_n 0, [], []), (38, .getfield 65, [10, 9, 2, 604, 1], []), (41, .iconst 0, [], []), (42, .invokevirtual 290, [12, 2, 0, 1, 939, 942, 131, 940, 941, 0], []), (45, .aload_n 0, [], []), (46, .getfield 65, [10, 9, 2, 604, 1], []), (49, .invokevirtual 257, [18, 1, 1, 1, 1107, 1110, 131, 1108, 1109, 0], []), (52, .ireturn, [0], [])]
set_option maxRecDepth 100000 in
def wb_k_X_hour : List wb_E := [(0, .iload_n 1, [], []), (1, .ifCond .lt 14, [15], []), (4, .iload_n 1, [], []), (5, .aload_n 0, [], []), (6, .getfield 26, [10, 2, 2, 597, 0], []), (9, .getfield 169, [5, 0, 0, 329, 0], []), (12, .if_icmp .le 5, [17], []), (15, .iconst (-1), [], [0, 1, 2]), (16, .ireturn, [0], []), (17, .aload_n 0, [], []), (18, .aload_n 0, [], []), (19, .iload_n 1, [], []), (20, .invokevirtual 299, [134, 2, 1, 10, 1170, 1173, 118, 1172, 42, 0], []), (23, .i2l, [], []), (24, .iload_n 2, [], []), (25, .invokevirtual 246, [144, 3, 1, 10, 1076, 1079, 118, 1078, 36, 0], []), (28, .ireturn, [0], [])]
set_option maxRecDepth 100000 in
def wb_k_X_bestHour : List wb_E := [(0, .iconst 0, [], []), (1, .istore_n 1, [], []), (2, .aload_n 0, [], []), (3, .iconst 0, [], []), (4, .invokevirtual 299, [134, 2, 1, 10, 1170, 1173, 118, 1172, 42, 0], []), (7, .istore_n 2, [], []), (8, .iconst 1, [], []), (9, .istore_n 3, [], []), (10, .iload_n 3, [], [4]), (11, .aload_n 0, [], []), (12, .getfield 26, [10, 2, 2, 597, 0], []), (15, .getfield 169, [5, 0, 0, 329, 0], []), (18, .if_icmp .gt 27, [45], []), (21, .aload_n 0, [], []), (22, .iload_n 3, [], []), (23, .invokevirtual 299, [134, 2, 1, 10, 1170, 1173, 118, 1172, 42, 0], []), (26, .istore 4, [], []), (28, .iload 4, [], []), (30, .iload_n 2, [], []), (31, .if_icmp .ge 8, [39], []), (34, .iload 4, [], []), (36, .istore_n 2, [], []), (37, .iload_n 3, [], []), (38, .istore_n 1, [], []), (39, .iinc 3 1, [], [4]), (42, .goto (-32), [10], []), (45, .iload_n 1, [], [0, 2, 3, 4]), (46, .ireturn, [0], [])]
set_option maxRecDepth 100000 in
def wb_k_X_meanIfPutRight : List wb_E := [(0, .aload_n 0, [], []), (1, .iconst 0, [], []), (2, .putfield 125, [10, 15, 3, 610, 0], []), (5, .aload_n 0, [], []), (6, .getfield 65, [10, 9, 2, 604, 1], []), (9, .aload_n 0, [], []), (10, .getfield 26, [10, 2, 2, 597, 0], []), (13, .aload_n 0, [], []), (14, .getfield 36, [10, 4, 2, 599, 1], []), (17, .aload_n 0, [], []), (18, .getfield 36, [10, 4, 2, 599, 1], []), (21, .getfield 138, [7, 2, 0, 400, 0], []), (24, .iconst 0, [], []), (25, .invokevirtual 286, [9, 5, 0, 1, 926, 929, 131, 927, 928, 0], []), (28, .aload_n 0, [], []), (29, .getfield 65, [10, 9, 2, 604, 1], []), (32, .iload_n 1, [], []), (33, .invokevirtual 290, [12, 2, 0, 1, 939, 942, 131, 940, 941, 0], []), (36, .aload_n 0, [], []), (37, .getfield 65, [10, 9, 2, 604, 1], []), (40, .invokevirtual 257, [18, 1, 1, 1, 1107, 1110, 131, 1108, 1109, 0], []), (43, .ireturn, [0], [])]
set_option maxRecDepth 100000 in
def wb_k_X_two : List wb_E := [(0, .aload_n 0, [], []), (1, .invokevirtual 205, [142, 1, 14, 10, 922, 925, 118, 924, 25, 0], []), (4, .astore_n 1, [], []), (5, .iconst 0, [], []), (6, .istore_n 2, [], []), (7, .iconst 0, [], []), (8, .istore_n 3, [], []), (9, .iload_n 3, [], []), (10, .aload_n 0, [], []), (11, .getfield 26, [10, 2, 2, 597, 0], []), (14, .getfield 169, [5, 0, 0, 329, 0], []), (17, .if_icmp .ge 49, [66], []), (20, .aload_n 1, [], []), (21, .getfield 243, [1, 11, 2, 495, 1], []), (24, .iload_n 3, [], []), (25, .iaload, [], []), (26, .i2l, [], []), (27, .aload_n 0, [], []), (28, .getfield 26, [10, 2, 2, 597, 0], []), (31, .getfield 181, [5, 8, 0, 353, 0], []), (34, .i2l, [], []), (35, .lmul, [], []), (36, .aload_n 0, [], []), (37, .getfield 26, [10, 2, 2, 597, 0], []), (40, .getfield 184, [5, 9, 0, 357, 0], []), (43, .i2l, [], []), (44, .aload_n 0, [], []), (45, .invokevirtual 283, [143, 1, 1, 10, 1080, 1083, 118, 1082, 37, 0], []), (48, .i2l, [], []), (49, .lmul, [], []), (50, .lcmp, [], []), (51, .ifCond .le 9, [60], []), (54, .iload_n 2, [], []), (55, .iconst 1, [], []), (56, .iload_n 3, [], []), (57, .ishl, [], []), (58, .ior, [], []), (59, .istore_n 2, [], []), (60, .iinc 3 1, [], []), (63, .goto (-54), [9], []), (66, .iload_n 2, [], [0, 1, 3]), (67, .ireturn, [0], [])]
set_option maxRecDepth 100000 in
def wb_k_X_better : List wb_E := [(0, .aload_n 0, [], []), (1, .invokevirtual 205, [142, 1, 14, 10, 922, 925, 118, 924, 25, 0], []), (4, .astore_n 1, [], []), (5, .iconst 0, [], []), (6, .istore_n 2, [], []), (7, .iconst 0, [], []), (8, .istore_n 3, [], []), (9, .iload_n 3, [], [4]), (10, .aload_n 0, [], []), (11, .getfield 26, [10, 2, 2, 597, 0], []), (14, .getfield 169, [5, 0, 0, 329, 0], []), (17, .if_icmp .ge 49, [66], []), (20, .bipush 10, [], []), (22, .aload_n 1, [], []), (23, .getfield 302, [1, 4, 2, 487, 1], []), (26, .iload_n 3, [], []), (27, .iaload, [], []), (28, .isub, [], []), (29, .getstatic 305, [0, 3, 1084, 0], []), (32, .aload_n 0, [], []), (33, .getfield 26, [10, 2, 2, 597, 0], []), (36, .getfield 169, [5, 0, 0, 329, 0], []), (39, .iaload, [], []), (40, .imul, [], []), (41, .istore 4, [], []), (43, .iload 4, [], []), (45, .aload_n 1, [], []), (46, .getfield 243, [1, 11, 2, 495, 1], []), (49, .iload_n 3, [], []), (50, .iaload, [], []), (51, .if_icmp .ge 9, [60], []), (54, .iload_n 2, [], []), (55, .iconst 1, [], []), (56, .iload_n 3, [], []), (57, .ishl, [], []), (58, .ior, [], []), (59, .istore_n 2, [], []), (60, .iinc 3 1, [], [4]), (63, .goto (-54), [9], []), (66, .iload_n 2, [], [0, 1, 3, 4]), (67, .ireturn, [0], [])]
set_option maxRecDepth 100000 in
def wb_k_X_rests : List wb_E := [(0, .iload_n 1, [], []), (1, .iconst (-1), [], []), (2, .if_icmp .ge 5, [7], []), (5, .iconst (-1), [], []), (6, .ireturn, [0], []), (7, .aload_n 0, [], []), (8, .getfield 86, [10, 14, 0, 609, 0], []), (11, .iconst (-1), [], []), (12, .if_icmp .ne 7, [19], []), (15, .aload_n 0, [], []), (16, .invokevirtual 308, [138, 1, 0, 10, 1190, 1193, 118, 1192, 43, 0], []), (19, .iload_n 1, [], []), (20, .iconst (-1), [], []), (21, .if_icmp .ne 8, [29], []), (24, .aload_n 0, [], []), (25, .getfield 86, [10, 14, 0, 609, 0], []), (28, .ireturn, [0], []), (29, .iload_n 1, [], []), (30, .aload_n 0, [], []), (31, .getfield 86, [10, 14, 0, 609, 0], []), (34, .if_icmp .ge 12, [46], []), (37, .aload_n 0, [], []), (38, .getfield 83, [10, 13, 2, 608, 1], []), (41, .iload_n 1, [], []), (42, .iaload, [], []), (43, .goto 4, [47], []), (46, .iconst (-1), [], [0, 1]), (47, .ireturn, [0], [0, 1])]
set_option maxRecDepth 100000 in
def wb_k_X_findRests : List wb_E := [(0, .aload_n 0, [], []), (1, .iconst 0, [], []), (2, .putfield 125, [10, 15, 3, 610, 0], []), (5, .iconst 0, [], []), (6, .istore_n 1, [], []), (7, .iload_n 1, [], []), (8, .aload_n 0, [], []), (9, .invokevirtual 270, [108, 1, 1, 10, 1131, 1134, 118, 1133, 39, 0], []), (12, .if_icmp .gt 73, [85], []), (15, .iload_n 1, [], []), (16, .aload_n 0, [], []), (17, .getfield 36, [10, 4, 2, 599, 1], []), (20, .getfield 138, [7, 2, 0, 400, 0], []), (23, .iand, [], []), (24, .ifCond .ne 55, [79], []), (27, .aload_n 0, [], []), (28, .getfield 65, [10, 9, 2, 604, 1], []), (31, .aload_n 0, [], []), (32, .getfield 26, [10, 2, 2, 597, 0], []), (35, .aload_n 0, [], []), (36, .getfield 36, [10, 4, 2, 599, 1], []), (39, .aload_n 0, [], []), (40, .getfield 36, [10, 4, 2, 599, 1], []), (43, .getfield 138, [7, 2, 0, 400, 0], []), (46, .iload_n 1, [], []), (47, .invokevirtual 286, [9, 5, 0, 1, 926, 929, 131, 927, 928, 0], []), (50, .aload_n 0, [], []), (51, .getfield 65, [10, 9, 2, 604, 1], []), (54, .iconst 0, [], []), (55, .invokevirtual 290, [12, 2, 0, 1, 939, 942, 131, 940, 941, 0], []), (58, .aload_n 0, [], []), (59, .getfield 65, [10, 9, 2, 604, 1], []), (62, .getfield 243, [1, 11, 2, 495, 1], []), (65, .iconst 0, [], []), (66, .aload_n 0, [], []), (67, .getfield 80, [10, 12, 2, 607, 1], []), (70, .iload_n 1, [], []), (71, .bipush 6, [], []), (73, .imul, [], []), (74, .bipush 6, [], []), (76, .invokestatic 311, [1, 1194, 920, 919, 137], []), (79, .iinc 1 1, [], []), (82, .goto (-75), [7], []), (85, .aload_n 0, [], [1]), (86, .iconst 0, [], []), (87, .putfield 86, [10, 14, 0, 609, 0], []), (90, .iconst 0, [], []), (91, .istore_n 1, [], []), (92, .iload_n 1, [], []), (93, .aload_n 0, [], []), (94, .invokevirtual 270, [108, 1, 1, 10, 1131, 1134, 118, 1133, 39, 0], []), (97, .if_icmp .gt 49, [146], []), (100, .iload_n 1, [], []), (101, .aload_n 0, [], []), (102, .getfield 36, [10, 4, 2, 599, 1], []), (105, .getfield 138, [7, 2, 0, 400, 0], []), (108, .iand, [], []), (109, .ifCond .ne 31, [140], []), (112, .aload_n 0, [], []), (113, .iload_n 1, [], []), (114, .invokevirtual 317, [139, 2, 1, 10, 1195, 1198, 118, 1197, 44, 0], []), (117, .ifCond .eq 23, [140], []), (120, .aload_n 0, [], []), (121, .getfield 83, [10, 13, 2, 608, 1], []), (124, .aload_n 0, [], []), (125, .getfield 86, [10, 14, 0, 609, 0], []), (128, .iload_n 1, [], []), (129, .iastore, [], []), (130, .aload_n 0, [], []), (131, .dup, [], []), (132, .getfield 86, [10, 14, 0, 609, 0], []), (135, .iconst 1, [], []), (136, .iadd, [], []), (137, .putfield 86, [10, 14, 0, 609, 0], []), (140, .iinc 1 1, [], []), (143, .goto (-51), [92], []), (146, .return_, [0], [0, 1])]
set_option maxRecDepth 100000 in
def wb_k_X_isResting : List wb_E := [(0, .iconst 0, [], []), (1, .istore_n 2, [], []), (2, .iload_n 2, [], [3]), (3, .aload_n 0, [], []), (4, .getfield 26, [10, 2, 2, 597, 0], []), (7, .getfield 169, [5, 0, 0, 329, 0], []), (10, .if_icmp .ge 56, [66], []), (13, .aload_n 0, [], []), (14, .getfield 36, [10, 4, 2, 599, 1], []), (17, .getfield 138, [7, 2, 0, 400, 0], []), (20, .iload_n 2, [], []), (21, .invokestatic 141, [107, 2, 1, 200, 879, 881, 118, 880, 0, 0], []), (24, .ifCond .ne 36, [60], []), (27, .iload_n 1, [], []), (28, .iconst 1, [], []), (29, .iload_n 2, [], []), (30, .ishl, [], []), (31, .ixor, [], []), (32, .istore_n 3, [], []), (33, .aload_n 0, [], []), (34, .getfield 80, [10, 12, 2, 607, 1], []), (37, .iload_n 3, [], []), (38, .bipush 6, [], []), (40, .imul, [], []), (41, .iload_n 2, [], []), (42, .iadd, [], []), (43, .iaload, [], []), (44, .aload_n 0, [], []), (45, .getfield 80, [10, 12, 2, 607, 1], []), (48, .iload_n 1, [], []), (49, .bipush 6, [], []), (51, .imul, [], []), (52, .iload_n 2, [], []), (53, .iadd, [], []), (54, .iaload, [], []), (55, .if_icmp .ge 5, [60], []), (58, .iconst 0, [], []), (59, .ireturn, [1], []), (60, .iinc 2 1, [], [3]), (63, .goto (-61), [2], []), (66, .iconst 1, [], [0, 1, 2, 3]), (67, .ireturn, [1], [])]
set_option maxRecDepth 100000 in
def wb_k_X_fence : List wb_E := [(0, .iload_n 1, [], []), (1, .ifCond .lt 8, [9], []), (4, .iload_n 1, [], []), (5, .iconst 1, [], []), (6, .if_icmp .le 5, [11], []), (9, .iconst (-1), [], [0, 1]), (10, .ireturn, [0], []), (11, .aload_n 0, [], []), (12, .getfield 36, [10, 4, 2, 599, 1], []), (15, .getfield 157, [7, 1, 0, 398, 0], []), (18, .ifCond .ne 6, [24], []), (21, .bipush (-2), [], []), (23, .ireturn, [0], []), (24, .aload_n 0, [], []), (25, .getfield 72, [10, 10, 2, 605, 1], []), (28, .aload_n 0, [], []), (29, .getfield 36, [10, 4, 2, 599, 1], []), (32, .aload_n 0, [], []), (33, .getfield 26, [10, 2, 2, 597, 0], []), (36, .getfield 169, [5, 0, 0, 329, 0], []), (39, .invokevirtual 320, [33, 3, 0, 2, 1203, 1206, 132, 1204, 1205, 0], []), (42, .iload_n 1, [], []), (43, .ifCond .ne 13, [56], []), (46, .aload_n 0, [], []), (47, .getfield 72, [10, 10, 2, 605, 1], []), (50, .getfield 324, [2, 2, 0, 555, 0], []), (53, .goto 10, [63], []), (56, .aload_n 0, [], [1]), (57, .getfield 72, [10, 10, 2, 605, 1], []), (60, .getfield 327, [2, 3, 0, 557, 0], []), (63, .ireturn, [0], [0, 1])]
set_option maxRecDepth 100000 in
def wb_k_X_year : List wb_E := [(0, .iload_n 1, [], []), (1, .iconst 1, [], []), (2, .if_icmp .lt 20, [22], []), (5, .iload_n 1, [], []), (6, .bipush 50, [], []), (8, .if_icmp .gt 14, [22], []), (11, .iload_n 2, [], []), (12, .iconst 1, [], []), (13, .if_icmp .lt 9, [22], []), (16, .iload_n 2, [], []), (17, .bipush 10, [], []), (19, .if_icmp .le 5, [24], []), (22, .iconst (-1), [], [0, 1, 2, 3, 4, 5, 6]), (23, .ireturn, [0], []), (24, .aload_n 0, [], [3, 4, 5, 6]), (25, .invokevirtual 205, [142, 1, 14, 10, 922, 925, 118, 924, 25, 0], []), (28, .astore_n 3, [], []), (29, .iconst 0, [], []), (30, .istore 4, [], []), (32, .aload_n 0, [], []), (33, .getfield 26, [10, 2, 2, 597, 0], []), (36, .getfield 209, [5, 11, 0, 364, 0], []), (39, .istore 5, [], []), (41, .iload 5, [], [6]), (43, .aload_n 0, [], []), (44, .getfield 26, [10, 2, 2, 597, 0], []), (47, .getfield 209, [5, 11, 0, 364, 0], []), (50, .iload_n 2, [], []), (51, .iadd, [], []), (52, .if_icmp .ge 55, [107], []), (55, .aload_n 0, [], []), (56, .getfield 36, [10, 4, 2, 599, 1], []), (59, .getfield 157, [7, 1, 0, 398, 0], []), (62, .istore 6, [], []), (64, .iload 6, [], []), (66, .aload_n 0, [], []), (67, .getfield 36, [10, 4, 2, 599, 1], []), (70, .getfield 157, [7, 1, 0, 398, 0], []), (73, .iload_n 1, [], []), (74, .iadd, [], []), (75, .if_icmp .ge 26, [101], []), (78, .aload_n 3, [], []), (79, .iload 5, [], []), (81, .iload 6, [], []), (83, .invokevirtual 212, [28, 3, 0, 1, 1006, 1009, 131, 1007, 1008, 0], []), (86, .iload 4, [], []), (88, .aload_n 3, [], []), (89, .getfield 330, [1, 16, 0, 506, 0], []), (92, .iadd, [], []), (93, .istore 4, [], []), (95, .iinc 6 1, [], []), (98, .goto (-34), [64], []), (101, .iinc 5 1, [], [6]), (104, .goto (-63), [41], []), (107, .iload 4, [], [0, 1, 2, 3, 5, 6]), (109, .ireturn, [0], [])]
set_option maxRecDepth 100000 in
def wb_k_X_tonight : List wb_E := [(0, .aload_n 0, [], []), (1, .getfield 125, [10, 15, 0, 610, 0], []), (4, .ifCond .ne 39, [43], []), (7, .aload_n 0, [], []), (8, .getfield 65, [10, 9, 2, 604, 1], []), (11, .aload_n 0, [], []), (12, .getfield 26, [10, 2, 2, 597, 0], []), (15, .aload_n 0, [], []), (16, .getfield 36, [10, 4, 2, 599, 1], []), (19, .aload_n 0, [], []), (20, .getfield 36, [10, 4, 2, 599, 1], []), (23, .getfield 138, [7, 2, 0, 400, 0], []), (26, .iconst 0, [], []), (27, .invokevirtual 286, [9, 5, 0, 1, 926, 929, 131, 927, 928, 0], []), (30, .aload_n 0, [], []), (31, .getfield 65, [10, 9, 2, 604, 1], []), (34, .iconst 0, [], []), (35, .invokevirtual 290, [12, 2, 0, 1, 939, 942, 131, 940, 941, 0], []), (38, .aload_n 0, [], []), (39, .iconst 1, [], []), (40, .putfield 125, [10, 15, 3, 610, 0], []), (43, .aload_n 0, [], []), (44, .getfield 65, [10, 9, 2, 604, 1], []), (47, .areturn, [0], [])]
set_option maxRecDepth 100000 in
def wb_k_X_allWeight : List wb_E := [(0, .getstatic 305, [0, 3, 1084, 0], []), (3, .aload_n 0, [], []), (4, .getfield 26, [10, 2, 2, 597, 0], []), (7, .getfield 169, [5, 0, 0, 329, 0], []), (10, .iconst 1, [], []), (11, .iadd, [], []), (12, .iaload, [], []), (13, .ireturn, [0], [])]
set_option maxRecDepth 100000 in
def wb_k_X_partOfAll : List wb_E := [(0, .lload_n 1, [], []), (1, .aload_n 0, [], []), (2, .invokevirtual 283, [143, 1, 1, 10, 1080, 1083, 118, 1082, 37, 0], []), (5, .i2l, [], []), (6, .iload_n 3, [], []), (7, .invokestatic 266, [145, 3, 1, 200, 1085, 1087, 118, 1086, 0, 0], []), (10, .ireturn, [0], [])]
set_option maxRecDepth 100000 in
def wb_k_X_fraction : List wb_E := [(0, .lload_n 2, [], []), (1, .lstore 5, [], []), (3, .lload_n 0, [], []), (4, .invokestatic 333, [266, 1, 2, 200, 1088, 1090, 135, 1089, 0, 0], []), (7, .lstore 7, [], []), (9, .iconst 0, [], []), (10, .istore 9, [], []), (12, .iload 9, [], [1, 3, 6, 8, 10, 11]), (14, .sipush 1000, [], []), (17, .if_icmp .ge 31, [48], []), (20, .lload 7, [], []), (22, .lconst 0, [], []), (23, .lcmp, [], []), (24, .ifCond .eq 24, [48], []), (27, .lload 5, [], []), (29, .lload 7, [], []), (31, .lrem, [], []), (32, .lstore 10, [], []), (34, .lload 7, [], []), (36, .lstore 5, [], []), (38, .lload 10, [], []), (40, .lstore 7, [], []), (42, .iinc 9 1, [], []), (45, .goto (-33), [12], []), (48, .iload 4, [], [1, 3, 6, 7, 8, 9, 10, 11]), (50, .ifCond .eq 7, [57], []), (53, .lload_n 2, [], []), (54, .goto 4, [58], []), (57, .lload_n 0, [], [1, 2, 3, 4, 6, 7, 8, 9, 10, 11]), (58, .lload 5, [], [0, 1, 2, 3, 4, 6, 7, 8, 9, 10, 11]), (60, .ldiv, [], []), (61, .l2i, [], []), (62, .ireturn, [0], [])]
set_option maxRecDepth 100000 in
def wb_k_X_tell : List wb_E := [(0, .aload_n 0, [], []), (1, .iload_n 1, [], []), (2, .invokevirtual 135, [105, 2, 1, 10, 875, 878, 118, 877, 23, 0], []), (5, .ifCond .eq 18, [23], []), (8, .iload_n 3, [], []), (9, .invokestatic 339, [147, 1, 1, 200, 1222, 1224, 118, 1223, 0, 0], []), (12, .ifCond .eq 11, [23], []), (15, .iload 4, [], []), (17, .invokestatic 339, [147, 1, 1, 200, 1222, 1224, 118, 1223, 0, 0], []), (20, .ifCond .ne 5, [25], []), (23, .iconst (-1), [], [0, 1, 2, 3, 4, 5, 6]), (24, .ireturn, [0], []), (25, .aload_n 0, [], []), (26, .getfield 58, [10, 8, 2, 603, 1], []), (29, .iload_n 1, [], []), (30, .iload_n 3, [], []), (31, .iload 4, [], []), (33, .iload_n 2, [], []), (34, .iload 5, [], []), (36, .iload 6, [], []), (38, .invokevirtual 342, [4, 7, 1, 0, 1225, 1228, 130, 1226, 1227, 0], []), (41, .ireturn, [0], [])]
set_option maxRecDepth 100000 in
def wb_k_X_isSeen : List wb_E := [(0, .iload_n 0, [], []), (1, .ifCond .lt 13, [14], []), (4, .iload_n 0, [], []), (5, .bipush 6, [], []), (7, .if_icmp .gt 7, [14], []), (10, .iconst 1, [], []), (11, .goto 4, [15], []), (14, .iconst 0, [], [0]), (15, .ireturn, [1], [0])]
set_option maxRecDepth 100000 in
def wb_k_X_forget : List wb_E := [(0, .aload_n 0, [], []), (1, .getfield 58, [10, 8, 2, 603, 1], []), (4, .getfield 190, [0, 5, 0, 460, 0], []), (7, .istore_n 1, [], []), (8, .aload_n 0, [], []), (9, .getfield 58, [10, 8, 2, 603, 1], []), (12, .invokevirtual 121, [3, 1, 0, 0, 586, 589, 130, 587, 588, 0], []), (15, .iload_n 1, [], []), (16, .ireturn, [0], [])]
set_option maxRecDepth 100000 in
def wb_k_X_fits : List wb_E := [(0, .aload_n 0, [], []), (1, .iload_n 1, [], []), (2, .invokevirtual 135, [105, 2, 1, 10, 875, 878, 118, 877, 23, 0], []), (5, .ifCond .eq 18, [23], []), (8, .iload_n 2, [], []), (9, .ifCond .lt 14, [23], []), (12, .iload_n 2, [], []), (13, .aload_n 0, [], []), (14, .getfield 58, [10, 8, 2, 603, 1], []), (17, .getfield 190, [0, 5, 0, 460, 0], []), (20, .if_icmp .le 5, [25], []), (23, .iconst (-1), [], [0, 1, 2]), (24, .ireturn, [0], []), (25, .aload_n 0, [], []), (26, .getfield 58, [10, 8, 2, 603, 1], []), (29, .iload_n 1, [], []), (30, .iload_n 2, [], []), (31, .invokevirtual 345, [5, 3, 1, 0, 1237, 1240, 130, 1238, 1239, 0], []), (34, .ireturn, [0], [])]
set_option maxRecDepth 100000 in
def wb_k_M_init : List wb_E := [(0, .aload_n 0, [], []), (1, .invokespecial 7, [0, 1254, 145, 146], []), (4, .aload_n 0, [], []), (5, .sipush 2000, [], []), (8, .newarray .byte, [65, 162], []), (10, .putfield 13, [11, 1, 2, 1278, 1], []), (13, .aload_n 0, [], []), (14, .sipush 2000, [], []), (17, .newarray .byte, [66, 162], []), (19, .putfield 17, [11, 3, 2, 1280, 1], []), (22, .aload_n 0, [], []), (23, .sipush 403, [], []), (26, .newarray .int, [67, 250], []), (28, .putfield 20, [11, 5, 2, 1282, 1], []), (31, .aload_n 0, [], []), (32, .sipush 403, [], []), (35, .newarray .int, [68, 250], []), (37, .putfield 24, [11, 6, 2, 1283, 1], []), (40, .aload_n 0, [], []), (41, .sipush 403, [], []), (44, .newarray .int, [69, 250], []), (46, .putfield 27, [11, 7, 2, 1284, 1], []), (49, .aload_n 0, [], []), (50, .sipush 403, [], []), (53, .newarray .long, [70, 249], []), (55, .putfield 30, [11, 8, 2, 1285, 1], []), (58, .aload_n 0, [], []), (59, .bipush 22, [], []), (61, .newarray .long, [71, 249], []), (63, .putfield 34, [11, 9, 2, 1286, 1], []), (66, .aload_n 0, [], []), (67, .iconst (-1), [], []), (68, .putfield 37, [11, 17, 0, 1294, 0], []), (71, .aload_n 0, [], []), (72, .bipush 6, [], []), (74, .newarray .long, [72, 249], []), (76, .putfield 40, [11, 20, 2, 1297, 1], []), (79, .aload_n 0, [], []), (80, .iconst 2, [], []), (81, .newarray .int, [73, 250], []), (83, .putfield 43, [11, 21, 2, 1298, 1], []), (86, .aload_n 0, [], []), (87, .bipush 12, [], []), (89, .newarray .int, [74, 250], []), (91, .putfield 46, [11, 22, 2, 1299, 1], []), (94, .aload_n 0, [], []), (95, .bipush 12, [], []), (97, .newarray .int, [75, 250], []), (99, .putfield 49, [11, 23, 2, 1300, 1], []), (102, .aload_n 0, [], []), (103, .bipush 12, [], []), (105, .newarray .int, [76, 250], []), (107, .putfield 52, [11, 24, 2, 1301, 1], []), (110, .aload_n 0, [], []), (111, .bipush 12, [], []), (113, .newarray .int, [77, 250], []), (115, .putfield 55, [11, 25, 2, 1302, 1], []), (118, .aload_n 0, [], []), (119, .bipush 12, [], []), (121, .newarray .int, [78, 250], []), (123, .putfield 58, [11, 26, 2, 1303, 1], []), (126, .aload_n 0, [], []), (127, .bipush 12, [], []), (129, .newarray .int, [79, 250], []), (131, .putfield 61, [11, 27, 2, 1304, 1], []), (134, .aload_n 0, [], []), (135, .iconst 2, [], []), (136, .newarray .int, [80, 250], []), (138, .putfield 64, [11, 28, 2, 1305, 1], []), (141, .aload_n 0, [], []), (142, .iconst 2, [], []), (143, .newarray .int, [81, 250], []), (145, .putfield 67, [11, 29, 2, 1306, 1], []), (148, .aload_n 0, [], []), (149, .iconst 2, [], []), (150, .newarray .int, [82, 250], []), (152, .putfield 70, [11, 30, 2, 1307, 1], []), (155, .aload_n 0, [], []), (156, .iconst 2, [], []), (157, .newarray .int, [83, 250], []), (159, .putfield 73, [11, 31, 2, 1308, 1], []), (162, .aload_n 0, [], []), (163, .iconst 2, [], []), (164, .newarray .int, [84, 250], []), (166, .putfield 76, [11, 32, 2, 1309, 1], []), (169, .aload_n 0, [], []), (170, .sipush 260, [], []), (173, .newarray .boolean, [85, 474], []), (175, .putfield 79, [11, 34, 2, 1311, 1], []), (178, .aload_n 0, [], []), (179, .sipush 260, [], []), (182, .newarray .int, [86, 250], []), (184, .putfield 83, [11, 35, 2, 1312, 1], []), (187, .aload_n 0, [], []), (188, .sipush 260, [], []), (191, .newarray .int, [87, 250], []), (193, .putfield 86, [11, 36, 2, 1313, 1], []), (196, .aload_n 0, [], []), (197, .sipush 260, [], []), (200, .newarray .int, [88, 250], []), (202, .putfield 89, [11, 37, 2, 1314, 1], []), (205, .aload_n 0, [], []), (206, .sipush 260, [], []), (209, .newarray .int, [89, 250], []), (211, .putfield 92, [11, 38, 2, 1315, 1], []), (214, .aload_n 0, [], []), (215, .sipush 840, [], []), (218, .newarray .int, [90, 250], []), (220, .putfield 95, [11, 40, 2, 1317, 1], []), (223, .aload_n 0, [], []), (224, .sipush 840, [], []), (227, .newarray .int, [91, 250], []), (229, .putfield 98, [11, 41, 2, 1318, 1], []), (232, .aload_n 0, [], []), (233, .bipush 64, [], []), (235, .newarray .int, [92, 250], []), (237, .putfield 101, [11, 42, 2, 1319, 1], []), (240, .aload_n 0, [], []), (241, .bipush 7, [], []), (243, .newarray .int, [93, 250], []), (245, .putfield 104, [11, 44, 2, 1321, 1], []), (248, .aload_n 0, [], []), (249, .sipush 400, [], []), (252, .newarray .int, [94, 250], []), (254, .putfield 107, [11, 45, 2, 1322, 1], []), (257, .aload_n 0, [], []), (258, .bipush 48, [], []), (260, .newarray .int, [95, 250], []), (262, .putfield 110, [11, 47, 2, 1324, 1], []), (265, .aload_n 0, [], []), (266, .bipush 48, [], []), (268, .newarray .int, [96, 250], []), (270, .putfield 113, [11, 48, 2, 1325, 1], []), (273, .aload_n 0, [], []), (274, .sipush 768, [], []), (277, .newarray .int, [97, 250], []), (279, .putfield 116, [11, 51, 2, 1328, 1], []), (282, .aload_n 0, [], []), (283, .sipush 128, [], []), (286, .newarray .int, [98, 250], []), (288, .putfield 119, [11, 52, 2, 1329, 1], []), (291, .aload_n 0, [], []), (292, .bipush 6, [], []), (294, .newarray .int, [99, 250], []), (296, .putfield 122, [11, 53, 2, 1330, 1], []), (299, .aload_n 0, [], []), (300, .sipush 1920, [], []), (303, .newarray .int, [100, 250], []), (305, .putfield 125, [11, 55, 2, 1332, 1], []), (308, .aload_n 0, [], []), (309, .sipush 384, [], []), (312, .newarray .int, [101, 250], []), (314, .putfield 128, [11, 56, 2, 1333, 1], []), (317, .aload_n 0, [], []), (318, .bipush 6, [], []), (320, .newarray .int, [102, 250], []), (322, .putfield 131, [11, 57, 2, 1334, 1], []), (325, .aload_n 0, [], []), (326, .bipush 6, [], []), (328, .newarray .int, [103, 250], []), (330, .putfield 134, [11, 58, 2, 1335, 1], []), (333, .aload_n 0, [], []), (334, .bipush 20, [], []), (336, .newarray .int, [104, 250], []), (338, .putfield 137, [11, 60, 2, 1337, 1], []), (341, .aload_n 0, [], []), (342, .bipush 20, [], []), (344, .newarray .int, [105, 250], []), (346, .putfield 140, [11, 61, 2, 1338, 1], []), (349, .aload_n 0, [], []), (350, .bipush 20, [], []), (352, .newarray .int, [106, 250], []), (354, .putfield 143, [11, 62, 2, 1339, 1], []), (357, .aload_n 0, [], []), (358, .bipush 20, [], []), (360, .newarray .int, [107, 250], []), (362, .putfield 146, [11, 63, 2, 1340, 1], []), (365, .aload_n 0, [], []), (366, .iconst 3, [], []), (367, .newarray .boolean, [108, 474], []), (369, .putfield 149, [11, 64, 2, 1341, 1], []), (372, .aload_n 0, [], []), (373, .sipush 144, [], []), (376, .newarray .int, [109, 250], []), (378, .putfield 152, [11, 65, 2, 1342, 1], []), (381, .aload_n 0, [], []), (382, .iconst 0, [], []), (383, .invokevirtual 155, [167, 2, 0, 11, 1255, 1258, 134, 1257, 48, 0], []), (386, .aload_n 0, [], []), (387, .getfield 34, [11, 9, 2, 1286, 1], []), (390, .iconst 0, [], []), (391, .bipush 104, [], []), (393, .bipush 111, [], []), (395, .bipush 117, [], []), (397, .bipush 115, [], []), (399, .bipush 101, [], []), (401, .iconst 0, [], []), (402, .iconst 0, [], []), (403, .invokestatic 159, [158, 7, 2, 200, 1259, 1261, 134, 1260, 0, 0], []), (406, .lastore, [], []), (407, .aload_n 0, [], []), (408, .getfield 34, [11, 9, 2, 1286, 1], []), (411, .iconst 1, [], []), (412, .bipush 111, [], []), (414, .bipush 119, [], []), (416, .bipush 110, [], []), (418, .iconst 0, [], []), (419, .iconst 0, [], []), (420, .iconst 0, [], []), (421, .iconst 0, [], []), (422, .invokestatic 159, [158, 7, 2, 200, 1259, 1261, 134, 1260, 0, 0], []), (425, .lastore, [], []), (426, .aload_n 0, [], []), (427, .getfield 34, [11, 9, 2, 1286, 1], []), (430, .iconst 2, [], []), (431, .bipush 109, [], []), (433, .bipush 111, [], []), (435, .bipush 115, [], []), (437, .bipush 116, [], []), (439, .iconst 0, [], []), (440, .iconst 0, [], []), (441, .iconst 0, [], []), (442, .invokestatic 159, [158, 7, 2, 200, 1259, 1261, 134, 1260, 0, 0], []), (445, .lastore, [], []), (446, .aload_n 0, [], []), (447, .getfield 34, [11, 9, 2, 1286, 1], []), (450, .iconst 3, [], []), (451, .bipush 102, [], []), (453, .bipush 105, [], []), (455, .bipush 114, [], []), (457, .bipush 115, [], []), (459, .bipush 116, [], []), (461, .iconst 0, [], []), (462, .iconst 0, [], []), (463, .invokestatic 159, [158, 7, 2, 200, 1259, 1261, 134, 1260, 0, 0], []), (466, .lastore, [], []), (467, .aload_n 0, [], []), (468, .getfield 34, [11, 9, 2, 1286, 1], []), (471, .iconst 4, [], []), (472, .bipush 97, [], []), (474, .bipush 115, [], []), (476, .iconst 0, [], []), (477, .iconst 0, [], []), (478, .iconst 0, [], []), (479, .iconst 0, [], []), (480, .iconst 0, [], []), (481, .invokestatic 159, [158, 7, 2, 200, 1259, 1261, 134, 1260, 0, 0], []), (484, .lastore, [], []), (485, .aload_n 0, [], []), (486, .getfield 34, [11, 9, 2, 1286, 1], []), (489, .iconst 5, [], []), (490, .bipush 119, [], []), (492, .bipush 105, [], []), (494, .bipush 115, [], []), (496, .bipush 101, [], []), (498, .iconst 0, [], []), (499, .iconst 0, [], []), (500, .iconst 0, [], []), (501, .invokestatic 159, [158, 7, 2, 200, 1259, 1261, 134, 1260, 0, 0], []), (504, .lastore, [], []), (505, .aload_n 0, [], []), (506, .getfield 34, [11, 9, 2, 1286, 1], []), (509, .bipush 6, [], []), (511, .bipush 116, [], []), (513, .bipush 119, [], []), (515, .bipush 111, [], []), (517, .iconst 0, [], []), (518, .iconst 0, [], []), (519, .iconst 0, [], []), (520, .iconst 0, [], []), (521, .invokestatic 159, [158, 7, 2, 200, 1259, 1261, 134, 1260, 0, 0], []), (524, .lastore, [], []), (525, .aload_n 0, [], []), (526, .getfield 34, [11, 9, 2, 1286, 1], []), (529, .bipush 7, [], []), (531, .bipush 98, [], []), (533, .bipush 114, [], []), (535, .bipush 111, [], []), (537, .bipush 119, [], []), (539, .bipush 110, [], []), (541, .iconst 0, [], []), (542, .iconst 0, [], []), (543, .invokestatic 159, [158, 7, 2, 200, 1259, 1261, 134, 1260, 0, 0], []), (546, .lastore, [], []), (547, .aload_n 0, [], []), (548, .getfield 34, [11, 9, 2, 1286, 1], []), (551, .bipush 8, [], []), (553, .bipush 102, [], []), (555, .bipush 105, [], []), (557, .bipush 110, [], []), (559, .bipush 101, [], []), (561, .iconst 0, [], []), (562, .iconst 0, [], []), (563, .iconst 0, [], []), (564, .invokestatic 159, [158, 7, 2, 200, 1259, 1261, 134, 1260, 0, 0], []), (567, .lastore, [], []), (568, .aload_n 0, [], []), (569, .getfield 34, [11, 9, 2, 1286, 1], []), (572, .bipush 9, [], []), (574, .bipush 98, [], []), (576, .bipush 111, [], []), (578, .bipush 116, [], []), (580, .bipush 104, [], []), (582, .iconst 0, [], []), (583, .iconst 0, [], []), (584, .iconst 0, [], []), (585, .invokestatic 159, [158, 7, 2, 200, 1259, 1261, 134, 1260, 0, 0], []), (588, .lastore, [], []), (589, .aload_n 0, [], []), (590, .getfield 34, [11, 9, 2, 1286, 1], []), (593, .bipush 10, [], []), (595, .bipush 108, [], []), (597, .bipush 101, [], []), (599, .bipush 97, [], []), (601, .bipush 102, [], []), (603, .bipush 108, [], []), (605, .bipush 101, [], []), (607, .bipush 116, [], []), (609, .invokestatic 159, [158, 7, 2, 200, 1259, 1261, 134, 1260, 0, 0], []), (612, .lastore, [], []), (613, .aload_n 0, [], []), (614, .getfield 34, [11, 9, 2, 1286, 1], []), (617, .bipush 11, [], []), (619, .bipush 115, [], []), (621, .bipush 101, [], []), (623, .bipush 101, [], []), (625, .bipush 100, [], []), (627, .iconst 0, [], []), (628, .iconst 0, [], []), (629, .iconst 0, [], []), (630, .invokestatic 159, [158, 7, 2, 200, 1259, 1261, 134, 1260, 0, 0], []), (633, .lastore, [], []), (634, .aload_n 0, [], []), (635, .getfield 34, [11, 9, 2, 1286, 1], []), (638, .bipush 12, [], []), (640, .bipush 105, [], []), (642, .bipush 102, [], []), (644, .iconst 0, [], []), (645, .iconst 0, [], []), (646, .iconst 0, [], []), (647, .iconst 0, [], []), (648, .iconst 0, [], []), (649, .invokestatic 159, [158, 7, 2, 200, 1259, 1261, 134, 1260, 0, 0], []), (652, .lastore, [], []), (653, .aload_n 0, [], []), (654, .getfield 34, [11, 9, 2, 1286, 1], []), (657, .bipush 13, [], []), (659, .bipush 116, [], []), (661, .bipush 104, [], []), (663, .bipush 101, [], []), (665, .bipush 110, [], []), (667, .iconst 0, [], []), (668, .iconst 0, [], []), (669, .iconst 0, [], []), (670, .invokestatic 159, [158, 7, 2, 200, 1259, 1261, 134, 1260, 0, 0], []), (673, .lastore, [], []), (674, .aload_n 0, [], []), (675, .getfield 34, [11, 9, 2, 1286, 1], []), (678, .bipush 14, [], []), (680, .bipush 101, [], []), (682, .bipush 108, [], []), (684, .bipush 115, [], []), (686, .bipush 101, [], []), (688, .iconst 0, [], []), (689, .iconst 0, [], []), (690, .iconst 0, [], []), (691, .invokestatic 159, [158, 7, 2, 200, 1259, 1261, 134, 1260, 0, 0], []), (694, .lastore, [], []), (695, .aload_n 0, [], []), (696, .getfield 34, [11, 9, 2, 1286, 1], []), (699, .bipush 15, [], []), (701, .bipush 115, [], []), (703, .bipush 105, [], []), (705, .bipush 103, [], []), (707, .bipush 110, [], []), (709, .iconst 0, [], []), (710, .iconst 0, [], []), (711, .iconst 0, [], []), (712, .invokestatic 159, [158, 7, 2, 200, 1259, 1261, 134, 1260, 0, 0], []), (715, .lastore, [], []), (716, .aload_n 0, [], []), (717, .getfield 34, [11, 9, 2, 1286, 1], []), (720, .bipush 16, [], []), (722, .bipush 98, [], []), (724, .bipush 114, [], []), (726, .bipush 111, [], []), (728, .bipush 119, [], []), (730, .bipush 110, [], []), (732, .bipush 115, [], []), (734, .iconst 0, [], []), (735, .invokestatic 159, [158, 7, 2, 200, 1259, 1261, 134, 1260, 0, 0], []), (738, .lastore, [], []), (739, .aload_n 0, [], []), (740, .getfield 34, [11, 9, 2, 1286, 1], []), (743, .bipush 17, [], []), (745, .bipush 98, [], []), (747, .bipush 108, [], []), (749, .bipush 117, [], []), (751, .bipush 101, [], []), (753, .bipush 115, [], []), (755, .iconst 0, [], []), (756, .iconst 0, [], []), (757, .invokestatic 159, [158, 7, 2, 200, 1259, 1261, 134, 1260, 0, 0], []), (760, .lastore, [], []), (761, .aload_n 0, [], []), (762, .getfield 34, [11, 9, 2, 1286, 1], []), (765, .bipush 18, [], []), (767, .bipush 115, [], []), (769, .bipush 101, [], []), (771, .bipush 101, [], []), (773, .bipush 115, [], []), (775, .iconst 0, [], []), (776, .iconst 0, [], []), (777, .iconst 0, [], []), (778, .invokestatic 159, [158, 7, 2, 200, 1259, 1261, 134, 1260, 0, 0], []), (781, .lastore, [], []), (782, .aload_n 0, [], []), (783, .getfield 34, [11, 9, 2, 1286, 1], []), (786, .bipush 19, [], []), (788, .bipush 115, [], []), (790, .bipush 117, [], []), (792, .bipush 114, [], []), (794, .bipush 101, [], []), (796, .iconst 0, [], []), (797, .iconst 0, [], []), (798, .iconst 0, [], []), (799, .invokestatic 159, [158, 7, 2, 200, 1259, 1261, 134, 1260, 0, 0], []), (802, .lastore, [], []), (803, .aload_n 0, [], []), (804, .getfield 34, [11, 9, 2, 1286, 1], []), (807, .bipush 20, [], []), (809, .bipush 110, [], []), (811, .bipush 117, [], []), (813, .bipush 109, [], []), (815, .bipush 98, [], []), (817, .bipush 101, [], []), (819, .bipush 114, [], []), (821, .iconst 0, [], []), (822, .invokestatic 159, [158, 7, 2, 200, 1259, 1261, 134, 1260, 0, 0], []), (825, .lastore, [], []), (826, .aload_n 0, [], []), (827, .getfield 34, [11, 9, 2, 1286, 1], []), (830, .bipush 21, [], []), (832, .bipush 108, [], []), (834, .bipush 101, [], []), (836, .bipush 97, [], []), (838, .bipush 100, [], []), (840, .iconst 0, [], []), (841, .iconst 0, [], []), (842, .iconst 0, [], []), (843, .invokestatic 159, [158, 7, 2, 200, 1259, 1261, 134, 1260, 0, 0], []), (846, .lastore, [], []), (847, .aload_n 0, [], []), (848, .invokevirtual 163, [186, 1, 0, 11, 1266, 1269, 134, 1268, 49, 0], []), (851, .aload_n 0, [], []), (852, .invokevirtual 166, [188, 1, 0, 11, 1274, 1277, 134, 1276, 51, 0], []), (855, .return_, [0], [])]
set_option maxRecDepth 100000 in
def wb_k_M_feed : List wb_E := [(0, .aload_n 0, [], []), (1, .getfield 169, [11, 2, 0, 1279, 0], []), (4, .bipush 20, [], []), (6, .iadd, [], []), (7, .sipush 2000, [], []), (10, .if_icmp .le 5, [15], []), (13, .iconst (-1), [], []), (14, .ireturn, [0], []), (15, .aload_n 0, [], []), (16, .iload_n 1, [], []), (17, .invokevirtual 172, [152, 2, 0, 11, 1480, 1483, 134, 1482, 52, 0], []), (20, .aload_n 0, [], []), (21, .iload_n 2, [], []), (22, .invokevirtual 172, [152, 2, 0, 11, 1480, 1483, 134, 1482, 52, 0], []), (25, .aload_n 0, [], []), (26, .iload_n 3, [], []), (27, .invokevirtual 172, [152, 2, 0, 11, 1480, 1483, 134, 1482, 52, 0], []), (30, .aload_n 0, [], []), (31, .iload 4, [], []), (33, .invokevirtual 172, [152, 2, 0, 11, 1480, 1483, 134, 1482, 52, 0], []), (36, .aload_n 0, [], []), (37, .iload 5, [], []), (39, .invokevirtual 172, [152, 2, 0, 11, 1480, 1483, 134, 1482, 52, 0], []), (42, .aload_n 0, [], []), (43, .getfield 169, [11, 2, 0, 1279, 0], []), (46, .ireturn, [0], [])]
set_option maxRecDepth 100000 in
def wb_k_M_put : List wb_E := [(0, .bipush 24, [], []), (2, .istore_n 2, [], []), (3, .iload_n 2, [], []), (4, .ifCond .lt 32, [36], []), (7, .aload_n 0, [], []), (8, .getfield 13, [11, 1, 2, 1278, 1], []), (11, .aload_n 0, [], []), (12, .getfield 169, [11, 2, 0, 1279, 0], []), (15, .iload_n 1, [], []), (16, .iload_n 2, [], []), (17, .ishr, [], []), (18, .i2b, [], []), (19, .bastore, [], []), (20, .aload_n 0, [], []), (21, .dup, [], []), (22, .getfield 169, [11, 2, 0, 1279, 0], []), (25, .iconst 1, [], []), (26, .iadd, [], []), (27, .putfield 169, [11, 2, 0, 1279, 0], []), (30, .iinc 2 (-8), [], []), (33, .goto (-30), [3], []), (36, .return_, [0], [0, 1, 2])]
set_option maxRecDepth 100000 in
def wb_k_M_back : List wb_E := [(0, .iload_n 1, [], []), (1, .ifCond .lt 11, [12], []), (4, .iload_n 1, [], []), (5, .aload_n 0, [], []), (6, .getfield 169, [11, 2, 0, 1279, 0], []), (9, .if_icmp .le 5, [14], []), (12, .iconst (-1), [], [0, 1]), (13, .ireturn, [0], []), (14, .aload_n 0, [], []), (15, .dup, [], []), (16, .getfield 169, [11, 2, 0, 1279, 0], []), (19, .iload_n 1, [], []), (20, .isub, [], []), (21, .putfield 169, [11, 2, 0, 1279, 0], []), (24, .aload_n 0, [], []), (25, .getfield 169, [11, 2, 0, 1279, 0], []), (28, .ireturn, [0], [])]
set_option maxRecDepth 100000 in
def wb_k_M_byteAt : List wb_E := [(0, .iload_n 1, [], []), (1, .aload_n 0, [], []), (2, .getfield 175, [11, 4, 0, 1281, 0], []), (5, .if_icmp .ge 16, [21], []), (8, .aload_n 0, [], []), (9, .getfield 17, [11, 3, 2, 1280, 1], []), (12, .iload_n 1, [], []), (13, .baload, [], []), (14, .sipush 255, [], []), (17, .iand, [], []), (18, .goto 4, [22], []), (21, .iconst 0, [], [0, 1]), (22, .ireturn, [0], [0, 1])]
set_option maxRecDepth 100000 in
def wb_k_M_isDigit : List wb_E := [(0, .iload_n 0, [], []), (1, .bipush 48, [], []), (3, .if_icmp .lt 13, [16], []), (6, .iload_n 0, [], []), (7, .bipush 57, [], []), (9, .if_icmp .gt 7, [16], []), (12, .iconst 1, [], []), (13, .goto 4, [17], []), (16, .iconst 0, [], [0]), (17, .ireturn, [1], [0])]
set_option maxRecDepth 100000 in
def wb_k_M_isLetter : List wb_E := [(0, .iload_n 0, [], []), (1, .bipush 97, [], []), (3, .if_icmp .lt 13, [16], []), (6, .iload_n 0, [], []), (7, .bipush 122, [], []), (9, .if_icmp .gt 7, [16], []), (12, .iconst 1, [], []), (13, .goto 4, [17], []), (16, .iconst 0, [], [0]), (17, .ireturn, [1], [0])]
set_option maxRecDepth 100000 in
def wb_k_M_appends : List wb_E := [(0, .iload_n 2, [], []), (1, .ifCond .ne 7, [8], []), (4, .lload_n 0, [], []), (5, .goto 16, [21], []), (8, .ldc2_w 178, [27, 1265], [1]), (11, .lload_n 0, [], []), (12, .lmul, [], []), (13, .iload_n 2, [], []), (14, .bipush 97, [], []), (16, .isub, [], []), (17, .iconst 1, [], []), (18, .iadd, [], []), (19, .i2l, [], []), (20, .ladd, [], []), (21, .lreturn, [0], [0, 1, 2])]
set_option maxRecDepth 100000 in
def wb_k_M_word : List wb_E := [(0, .lconst 0, [], []), (1, .iload_n 0, [], []), (2, .invokestatic 180, [157, 2, 2, 200, 1262, 1264, 134, 1263, 0, 0], []), (5, .iload_n 1, [], []), (6, .invokestatic 180, [157, 2, 2, 200, 1262, 1264, 134, 1263, 0, 0], []), (9, .iload_n 2, [], []), (10, .invokestatic 180, [157, 2, 2, 200, 1262, 1264, 134, 1263, 0, 0], []), (13, .iload_n 3, [], []), (14, .invokestatic 180, [157, 2, 2, 200, 1262, 1264, 134, 1263, 0, 0], []), (17, .iload 4, [], []), (19, .invokestatic 180, [157, 2, 2, 200, 1262, 1264, 134, 1263, 0, 0], []), (22, .iload 5, [], []), (24, .invokestatic 180, [157, 2, 2, 200, 1262, 1264, 134, 1263, 0, 0], []), (27, .iload 6, [], []), (29, .invokestatic 180, [157, 2, 2, 200, 1262, 1264, 134, 1263, 0, 0], []), (32, .lreturn, [0], [])]
set_option maxRecDepth 100000 in
def wb_k_M_token : List wb_E := [(0, .aload_n 0, [], []), (1, .getfield 20, [11, 5, 2, 1282, 1], []), (4, .aload_n 0, [], []), (5, .getfield 184, [11, 10, 0, 1287, 0], []), (8, .iload_n 1, [], []), (9, .iastore, [], []), (10, .aload_n 0, [], []), (11, .getfield 24, [11, 6, 2, 1283, 1], []), (14, .aload_n 0, [], []), (15, .getfield 184, [11, 10, 0, 1287, 0], []), (18, .iload_n 2, [], []), (19, .iastore, [], []), (20, .aload_n 0, [], []), (21, .getfield 27, [11, 7, 2, 1284, 1], []), (24, .aload_n 0, [], []), (25, .getfield 184, [11, 10, 0, 1287, 0], []), (28, .iload_n 3, [], []), (29, .iastore, [], []), (30, .aload_n 0, [], []), (31, .getfield 30, [11, 8, 2, 1285, 1], []), (34, .aload_n 0, [], []), (35, .getfield 184, [11, 10, 0, 1287, 0], []), (38, .lload 4, [], []), (40, .lastore, [], []), (41, .aload_n 0, [], []), (42, .dup, [], []), (43, .getfield 184, [11, 10, 0, 1287, 0], []), (46, .iconst 1, [], []), (47, .iadd, [], []), (48, .putfield 184, [11, 10, 0, 1287, 0], []), (51, .return_, [0], [])]
set_option maxRecDepth 100000 in
def wb_k_M_cut : List wb_E := [(0, .aload_n 0, [], []), (1, .iconst 0, [], []), (2, .putfield 184, [11, 10, 0, 1287, 0], []), (5, .iconst 0, [], []), (6, .istore_n 1, [], []), (7, .aload_n 0, [], [2, 3, 4, 5, 6, 7]), (8, .getfield 184, [11, 10, 0, 1287, 0], []), (11, .sipush 400, [], []), (14, .if_icmp .gt 280, [294], []), (17, .aload_n 0, [], []), (18, .iload_n 1, [], []), (19, .invokevirtual 187, [154, 2, 1, 11, 1496, 1499, 134, 1498, 54, 0], []), (22, .istore_n 2, [], []), (23, .iload_n 1, [], []), (24, .aload_n 0, [], []), (25, .getfield 175, [11, 4, 0, 1281, 0], []), (28, .if_icmp .lt 15, [43], []), (31, .aload_n 0, [], []), (32, .iconst 0, [], []), (33, .aload_n 0, [], []), (34, .getfield 175, [11, 4, 0, 1281, 0], []), (37, .iconst 0, [], []), (38, .lconst 0, [], []), (39, .invokevirtual 191, [159, 5, 0, 11, 1500, 1503, 134, 1502, 55, 0], []), (42, .return_, [0], []), (43, .iload_n 2, [], [3, 4, 5, 6, 7]), (44, .bipush 9, [], []), (46, .if_icmp .eq 21, [67], []), (49, .iload_n 2, [], []), (50, .bipush 10, [], []), (52, .if_icmp .eq 15, [67], []), (55, .iload_n 2, [], []), (56, .bipush 13, [], []), (58, .if_icmp .eq 9, [67], []), (61, .iload_n 2, [], []), (62, .bipush 32, [], []), (64, .if_icmp .ne 9, [73], []), (67, .iinc 1 1, [], [2, 3, 4, 5, 6, 7]), (70, .goto 221, [291], []), (73, .iload_n 2, [], [3, 4, 5, 6, 7]), (74, .invokestatic 195, [156, 1, 1, 200, 1504, 1506, 134, 1505, 0, 0], []), (77, .ifCond .eq 119, [196], []), (80, .iconst 0, [], []), (81, .istore_n 3, [], []), (82, .lconst 0, [], []), (83, .lstore 4, [], []), (85, .aload_n 0, [], [2, 5, 6, 7]), (86, .iload_n 1, [], []), (87, .iload_n 3, [], []), (88, .iadd, [], []), (89, .invokevirtual 187, [154, 2, 1, 11, 1496, 1499, 134, 1498, 54, 0], []), (92, .invokestatic 195, [156, 1, 1, 200, 1504, 1506, 134, 1505, 0, 0], []), (95, .ifCond .eq 29, [124], []), (98, .iload_n 3, [], []), (99, .bipush 8, [], []), (101, .if_icmp .ge 17, [118], []), (104, .lload 4, [], []), (106, .aload_n 0, [], []), (107, .iload_n 1, [], []), (108, .iload_n 3, [], []), (109, .iadd, [], []), (110, .invokevirtual 187, [154, 2, 1, 11, 1496, 1499, 134, 1498, 54, 0], []), (113, .invokestatic 180, [157, 2, 2, 200, 1262, 1264, 134, 1263, 0, 0], []), (116, .lstore 4, [], []), (118, .iinc 3 1, [], [2, 5, 6, 7]), (121, .goto (-36), [85], []), (124, .iload_n 3, [], [2, 5, 6, 7]), (125, .bipush 8, [], []), (127, .if_icmp .le 7, [134], []), (130, .iconst 3, [], []), (131, .goto 4, [135], []), (134, .iconst 1, [], [2, 5, 6, 7]), (135, .istore 6, [], [2, 5, 6, 7]), (137, .iload_n 3, [], []), (138, .bipush 7, [], []), (140, .if_icmp .gt 39, [179], []), (143, .iconst 0, [], []), (144, .istore 7, [], []), (146, .iload 7, [], [2, 5]), (148, .bipush 22, [], []), (150, .if_icmp .ge 29, [179], []), (153, .aload_n 0, [], []), (154, .getfield 34, [11, 9, 2, 1286, 1], []), (157, .iload 7, [], []), (159, .laload, [], []), (160, .lload 4, [], []), (162, .lcmp, [], []), (163, .ifCond .ne 10, [173], []), (166, .bipush 20, [], []), (168, .iload 7, [], []), (170, .iadd, [], []), (171, .istore 6, [], []), (173, .iinc 7 1, [], [2, 5]), (176, .goto (-30), [146], []), (179, .aload_n 0, [], [2, 5, 7]), (180, .iload 6, [], []), (182, .iload_n 1, [], []), (183, .iconst 0, [], []), (184, .lload 4, [], []), (186, .invokevirtual 191, [159, 5, 0, 11, 1500, 1503, 134, 1502, 55, 0], []), (189, .iload_n 1, [], []), (190, .iload_n 3, [], []), (191, .iadd, [], []), (192, .istore_n 1, [], []), (193, .goto 98, [291], []), (196, .iload_n 2, [], [3, 4, 5, 6, 7]), (197, .invokestatic 199, [155, 1, 1, 200, 1507, 1509, 134, 1508, 0, 0], []), (200, .ifCond .eq 75, [275], []), (203, .iconst 0, [], []), (204, .istore_n 3, [], []), (205, .iconst 0, [], []), (206, .istore 4, [], []), (208, .aload_n 0, [], [2, 5, 6, 7]), (209, .iload_n 1, [], []), (210, .iload_n 3, [], []), (211, .iadd, [], []), (212, .invokevirtual 187, [154, 2, 1, 11, 1496, 1499, 134, 1498, 54, 0], []), (215, .invokestatic 199, [155, 1, 1, 200, 1507, 1509, 134, 1508, 0, 0], []), (218, .ifCond .eq 32, [250], []), (221, .iload_n 3, [], []), (222, .iconst 4, [], []), (223, .if_icmp .ge 21, [244], []), (226, .bipush 10, [], []), (228, .iload 4, [], []), (230, .imul, [], []), (231, .aload_n 0, [], []), (232, .iload_n 1, [], []), (233, .iload_n 3, [], []), (234, .iadd, [], []), (235, .invokevirtual 187, [154, 2, 1, 11, 1496, 1499, 134, 1498, 54, 0], []), (238, .iadd, [], []), (239, .bipush 48, [], []), (241, .isub, [], []), (242, .istore 4, [], []), (244, .iinc 3 1, [], [2, 5, 6, 7]), (247, .goto (-39), [208], []), (250, .aload_n 0, [], [2, 5, 6, 7]), (251, .iload_n 3, [], []), (252, .iconst 4, [], []), (253, .if_icmp .le 7, [260], []), (256, .iconst 3, [], []), (257, .goto 4, [261], []), (260, .iconst 2, [], [2, 5, 6, 7]), (261, .iload_n 1, [], [2, 5, 6, 7]), (262, .iload 4, [], []), (264, .lconst 0, [], []), (265, .invokevirtual 191, [159, 5, 0, 11, 1500, 1503, 134, 1502, 55, 0], []), (268, .iload_n 1, [], []), (269, .iload_n 3, [], []), (270, .iadd, [], []), (271, .istore_n 1, [], []), (272, .goto 19, [291], []), (275, .iload_n 1, [], [3, 4, 5, 6, 7]), (276, .aload_n 0, [], []), (277, .iload_n 1, [], []), (278, .iload_n 2, [], []), (279, .aload_n 0, [], []), (280, .iload_n 1, [], []), (281, .iconst 1, [], []), (282, .iadd, [], []), (283, .invokevirtual 187, [154, 2, 1, 11, 1496, 1499, 134, 1498, 54, 0], []), (286, .invokevirtual 202, [161, 4, 1, 11, 1510, 1513, 134, 1512, 56, 0], []), (289, .iadd, [], []), (290, .istore_n 1, [], []), (291, .goto (-284), [7], [2, 3, 4, 5, 6, 7]), (294, .return_, [0], [0, 1, 2, 3, 4, 5, 6, 7])]
set_option maxRecDepth 100000 in
def wb_k_M_sign : List wb_E := [(0, .iload_n 2, [], []), (1, .bipush 59, [], []), (3, .if_icmp .ne 7, [10], []), (6, .iconst 4, [], []), (7, .goto 36, [43], []), (10, .iload_n 2, [], [3, 4]), (11, .bipush 61, [], []), (13, .if_icmp .ne 7, [20], []), (16, .iconst 5, [], []), (17, .goto 26, [43], []), (20, .iload_n 2, [], [3, 4]), (21, .bipush 40, [], []), (23, .if_icmp .ne 8, [31], []), (26, .bipush 6, [], []), (28, .goto 15, [43], []), (31, .iload_n 2, [], [3, 4]), (32, .bipush 41, [], []), (34, .if_icmp .ne 8, [42], []), (37, .bipush 7, [], []), (39, .goto 4, [43], []), (42, .iconst 3, [], [3, 4]), (43, .istore 4, [], [3, 4]), (45, .iload_n 2, [], []), (46, .bipush 43, [], []), (48, .if_icmp .ne 7, [55], []), (51, .bipush 8, [], []), (53, .istore 4, [], []), (55, .iload_n 2, [], [3]), (56, .bipush 45, [], []), (58, .if_icmp .ne 7, [65], []), (61, .bipush 9, [], []), (63, .istore 4, [], []), (65, .iload_n 2, [], [3]), (66, .bipush 42, [], []), (68, .if_icmp .ne 7, [75], []), (71, .bipush 10, [], []), (73, .istore 4, [], []), (75, .iload_n 2, [], [3]), (76, .bipush 47, [], []), (78, .if_icmp .ne 7, [85], []), (81, .bipush 15, [], []), (83, .istore 4, [], []), (85, .iload_n 2, [], [3]), (86, .bipush 60, [], []), (88, .if_icmp .ne 7, [95], []), (91, .bipush 13, [], []), (93, .istore 4, [], []), (95, .aload_n 0, [], [2, 3]), (96, .iload 4, [], []), (98, .iload_n 1, [], []), (99, .iconst 0, [], []), (100, .lconst 0, [], []), (101, .invokevirtual 191, [159, 5, 0, 11, 1500, 1503, 134, 1502, 55, 0], []), (104, .iconst 1, [], []), (105, .ireturn, [0], [])]
set_option maxRecDepth 100000 in
def wb_k_M_is : List wb_E := [(0, .aload_n 0, [], []), (1, .getfield 206, [11, 13, 0, 1290, 0], []), (4, .ifCond .ne 20, [24], []), (7, .aload_n 0, [], []), (8, .getfield 20, [11, 5, 2, 1282, 1], []), (11, .aload_n 0, [], []), (12, .getfield 209, [11, 11, 0, 1288, 0], []), (15, .iaload, [], []), (16, .iload_n 1, [], []), (17, .if_icmp .ne 7, [24], []), (20, .iconst 1, [], []), (21, .goto 4, [25], []), (24, .iconst 0, [], [0, 1]), (25, .ireturn, [1], [0, 1])]
set_option maxRecDepth 100000 in
def wb_k_M_fail : List wb_E := [(0, .aload_n 0, [], []), (1, .getfield 206, [11, 13, 0, 1290, 0], []), (4, .ifCond .le 4, [8], []), (7, .return_, [0], []), (8, .aload_n 0, [], []), (9, .iload_n 1, [], []), (10, .putfield 206, [11, 13, 0, 1290, 0], []), (13, .aload_n 0, [], []), (14, .aload_n 0, [], []), (15, .getfield 24, [11, 6, 2, 1283, 1], []), (18, .aload_n 0, [], []), (19, .getfield 209, [11, 11, 0, 1288, 0], []), (22, .iaload, [], []), (23, .putfield 212, [11, 14, 0, 1291, 0], []), (26, .return_, [0], [])]
set_option maxRecDepth 100000 in
def wb_k_M_wrong : List wb_E := [(0, .aload_n 0, [], []), (1, .getfield 24, [11, 6, 2, 1283, 1], []), (4, .iload_n 2, [], []), (5, .iaload, [], []), (6, .istore_n 3, [], []), (7, .aload_n 0, [], []), (8, .getfield 206, [11, 13, 0, 1290, 0], []), (11, .ifCond .gt 34, [45], []), (14, .aload_n 0, [], []), (15, .getfield 215, [11, 15, 0, 1292, 0], []), (18, .ifCond .eq 28, [46], []), (21, .iload_n 3, [], []), (22, .aload_n 0, [], []), (23, .getfield 218, [11, 16, 0, 1293, 0], []), (26, .if_icmp .gt 19, [45], []), (29, .iload_n 3, [], []), (30, .aload_n 0, [], []), (31, .getfield 218, [11, 16, 0, 1293, 0], []), (34, .if_icmp .ne 12, [46], []), (37, .iload_n 1, [], []), (38, .aload_n 0, [], []), (39, .getfield 215, [11, 15, 0, 1292, 0], []), (42, .if_icmp .lt 4, [46], []), (45, .return_, [0], [0, 1, 2, 3]), (46, .aload_n 0, [], [2]), (47, .iload_n 1, [], []), (48, .putfield 215, [11, 15, 0, 1292, 0], []), (51, .aload_n 0, [], []), (52, .iload_n 3, [], []), (53, .putfield 218, [11, 16, 0, 1293, 0], []), (56, .return_, [0], [])]
set_option maxRecDepth 100000 in
def wb_k_M_goesOn : List wb_E := [(0, .aload_n 0, [], []), (1, .getfield 209, [11, 11, 0, 1288, 0], []), (4, .sipush 400, [], []), (7, .if_icmp .ne 11, [18], []), (10, .aload_n 0, [], []), (11, .iconst 2, [], []), (12, .invokevirtual 221, [163, 2, 0, 11, 1522, 1525, 134, 1524, 59, 0], []), (15, .goto 13, [28], []), (18, .aload_n 0, [], []), (19, .dup, [], []), (20, .getfield 209, [11, 11, 0, 1288, 0], []), (23, .iconst 1, [], []), (24, .iadd, [], []), (25, .putfield 209, [11, 11, 0, 1288, 0], []), (28, .return_, [0], [0])]
set_option maxRecDepth 100000 in
def wb_k_M_must : List wb_E := [(0, .aload_n 0, [], []), (1, .iload_n 1, [], []), (2, .invokevirtual 224, [162, 2, 1, 11, 1514, 1517, 134, 1516, 57, 0], []), (5, .ifCond .eq 10, [15], []), (8, .aload_n 0, [], []), (9, .invokevirtual 227, [165, 1, 0, 11, 1530, 1533, 134, 1532, 61, 0], []), (12, .goto 8, [20], []), (15, .aload_n 0, [], [1]), (16, .iconst 1, [], []), (17, .invokevirtual 221, [163, 2, 0, 11, 1522, 1525, 134, 1524, 59, 0], []), (20, .return_, [0], [0, 1])]
set_option maxRecDepth 100000 in
def wb_k_M_plain : List wb_E := [(0, .aload_n 0, [], []), (1, .getfield 43, [11, 21, 2, 1298, 1], []), (4, .iload_n 1, [], []), (5, .iconst 0, [], []), (6, .iastore, [], []), (7, .aload_n 0, [], []), (8, .getfield 64, [11, 28, 2, 1305, 1], []), (11, .iload_n 1, [], []), (12, .iconst 5, [], []), (13, .iastore, [], []), (14, .aload_n 0, [], []), (15, .getfield 67, [11, 29, 2, 1306, 1], []), (18, .iload_n 1, [], []), (19, .bipush 10, [], []), (21, .iastore, [], []), (22, .aload_n 0, [], []), (23, .getfield 70, [11, 30, 2, 1307, 1], []), (26, .iload_n 1, [], []), (27, .iconst 5, [], []), (28, .iastore, [], []), (29, .aload_n 0, [], []), (30, .getfield 73, [11, 31, 2, 1308, 1], []), (33, .iload_n 1, [], []), (34, .iconst 3, [], []), (35, .iastore, [], []), (36, .aload_n 0, [], []), (37, .getfield 76, [11, 32, 2, 1309, 1], []), (40, .iload_n 1, [], []), (41, .iconst 0, [], []), (42, .iastore, [], []), (43, .return_, [0], [])]
set_option maxRecDepth 100000 in
def wb_k_M_read : List wb_E := [(0, .aload_n 0, [], []), (1, .aload_n 0, [], []), (2, .getfield 169, [11, 2, 0, 1279, 0], []), (5, .putfield 175, [11, 4, 0, 1281, 0], []), (8, .iconst 0, [], []), (9, .istore_n 1, [], []), (10, .iload_n 1, [], []), (11, .aload_n 0, [], []), (12, .getfield 175, [11, 4, 0, 1281, 0], []), (15, .if_icmp .ge 21, [36], []), (18, .aload_n 0, [], []), (19, .getfield 17, [11, 3, 2, 1280, 1], []), (22, .iload_n 1, [], []), (23, .aload_n 0, [], []), (24, .getfield 13, [11, 1, 2, 1278, 1], []), (27, .iload_n 1, [], []), (28, .baload, [], []), (29, .bastore, [], []), (30, .iinc 1 1, [], []), (33, .goto (-23), [10], []), (36, .aload_n 0, [], [1]), (37, .iconst 0, [], []), (38, .putfield 169, [11, 2, 0, 1279, 0], []), (41, .aload_n 0, [], []), (42, .invokevirtual 230, [160, 1, 0, 11, 1492, 1495, 134, 1494, 53, 0], []), (45, .aload_n 0, [], []), (46, .iconst 0, [], []), (47, .putfield 209, [11, 11, 0, 1288, 0], []), (50, .aload_n 0, [], []), (51, .iconst 0, [], []), (52, .putfield 233, [11, 12, 0, 1289, 0], []), (55, .aload_n 0, [], []), (56, .iconst 0, [], []), (57, .putfield 206, [11, 13, 0, 1290, 0], []), (60, .aload_n 0, [], []), (61, .iconst 0, [], []), (62, .putfield 215, [11, 15, 0, 1292, 0], []), (65, .aload_n 0, [], []), (66, .iconst 1, [], []), (67, .aload_n 0, [], []), (68, .getfield 236, [11, 18, 0, 1295, 0], []), (71, .isub, [], []), (72, .putfield 239, [11, 19, 0, 1296, 0], []), (75, .aload_n 0, [], []), (76, .aload_n 0, [], []), (77, .getfield 239, [11, 19, 0, 1296, 0], []), (80, .invokevirtual 155, [167, 2, 0, 11, 1255, 1258, 134, 1257, 48, 0], []), (83, .aload_n 0, [], []), (84, .sipush 130, [], []), (87, .aload_n 0, [], []), (88, .getfield 239, [11, 19, 0, 1296, 0], []), (91, .imul, [], []), (92, .putfield 242, [11, 33, 0, 1310, 0], []), (95, .aload_n 0, [], []), (96, .sipush 420, [], []), (99, .aload_n 0, [], []), (100, .getfield 239, [11, 19, 0, 1296, 0], []), (103, .imul, [], []), (104, .putfield 245, [11, 39, 0, 1316, 0], []), (107, .aload_n 0, [], [1]), (108, .getfield 206, [11, 13, 0, 1290, 0], []), (111, .ifCond .ne 18, [129], []), (114, .aload_n 0, [], []), (115, .iconst 0, [], []), (116, .invokevirtual 224, [162, 2, 1, 11, 1514, 1517, 134, 1516, 57, 0], []), (119, .ifCond .ne 10, [129], []), (122, .aload_n 0, [], []), (123, .invokevirtual 248, [170, 1, 0, 11, 1518, 1521, 134, 1520, 58, 0], []), (126, .goto (-19), [107], []), (129, .aload_n 0, [], [1]), (130, .aload_n 0, [], []), (131, .getfield 206, [11, 13, 0, 1290, 0], []), (134, .ifCond .le 10, [144], []), (137, .aload_n 0, [], []), (138, .getfield 212, [11, 14, 0, 1291, 0], []), (141, .goto 18, [159], []), (144, .aload_n 0, [], [1]), (145, .getfield 215, [11, 15, 0, 1292, 0], []), (148, .ifCond .le 10, [158], []), (151, .aload_n 0, [], []), (152, .getfield 218, [11, 16, 0, 1293, 0], []), (155, .goto 4, [159], []), (158, .iconst (-1), [], [1]), (159, .putfield 37, [11, 17, 0, 1294, 0], [1]), (162, .aload_n 0, [], []), (163, .getfield 206, [11, 13, 0, 1290, 0], []), (166, .ifCond .le 8, [174], []), (169, .aload_n 0, [], []), (170, .getfield 206, [11, 13, 0, 1290, 0], []), (173, .ireturn, [0], []), (174, .aload_n 0, [], [1]), (175, .getfield 215, [11, 15, 0, 1292, 0], []), (178, .ifCond .le 8, [186], []), (181, .aload_n 0, [], []), (182, .getfield 215, [11, 15, 0, 1292, 0], []), (185, .ireturn, [0], []), (186, .aload_n 0, [], [1]), (187, .aload_n 0, [], []), (188, .getfield 239, [11, 19, 0, 1296, 0], []), (191, .putfield 236, [11, 18, 0, 1295, 0], []), (194, .aload_n 0, [], []), (195, .invokevirtual 163, [186, 1, 0, 11, 1266, 1269, 134, 1268, 49, 0], []), (198, .aload_n 0, [], []), (199, .invokevirtual 166, [188, 1, 0, 11, 1274, 1277, 134, 1276, 51, 0], []), (202, .aload_n 0, [], []), (203, .iconst 0, [], []), (204, .putfield 251, [11, 54, 0, 1331, 0], []), (207, .aload_n 0, [], []), (208, .iconst 0, [], []), (209, .putfield 254, [11, 59, 0, 1336, 0], []), (212, .iconst 0, [], []), (213, .istore_n 1, [], []), (214, .iload_n 1, [], []), (215, .iconst 3, [], []), (216, .if_icmp .ge 16, [232], []), (219, .aload_n 0, [], []), (220, .getfield 149, [11, 64, 2, 1341, 1], []), (223, .iload_n 1, [], []), (224, .iconst 0, [], []), (225, .bastore, [], []), (226, .iinc 1 1, [], []), (229, .goto (-15), [214], []), (232, .iconst 0, [], [0, 1]), (233, .ireturn, [0], [])]
set_option maxRecDepth 100000 in
def wb_k_M_place : List wb_E := [(0, .aload_n 0, [], []), (1, .getfield 37, [11, 17, 0, 1294, 0], []), (4, .ireturn, [0], [])]
set_option maxRecDepth 100000 in
def wb_k_M_tellOne : List wb_E := [(0, .aload_n 0, [], []), (1, .getfield 20, [11, 5, 2, 1282, 1], []), (4, .aload_n 0, [], []), (5, .getfield 209, [11, 11, 0, 1288, 0], []), (8, .iaload, [], []), (9, .tableswitch 188 20 31 #[63, 188, 188, 188, 188, 188, 188, 96, 114, 132, 150, 169], [63, 197, 72, 197, 197, 197, 197, 197, 197, 105, 123, 141, 159, 178], []), (72, .aload_n 0, [], []), (73, .getfield 43, [11, 21, 2, 1298, 1], []), (76, .aload_n 0, [], []), (77, .getfield 239, [11, 19, 0, 1296, 0], []), (80, .iaload, [], []), (81, .bipush 6, [], []), (83, .if_icmp .ne 8, [91], []), (86, .aload_n 0, [], []), (87, .iconst 2, [], []), (88, .invokevirtual 221, [163, 2, 0, 11, 1522, 1525, 134, 1524, 59, 0], []), (91, .aload_n 0, [], []), (92, .getfield 206, [11, 13, 0, 1290, 0], []), (95, .ifCond .ne 107, [202], []), (98, .aload_n 0, [], []), (99, .invokevirtual 257, [174, 1, 0, 11, 1526, 1529, 134, 1528, 60, 0], []), (102, .goto 100, [202], []), (105, .aload_n 0, [], []), (106, .getfield 64, [11, 28, 2, 1305, 1], []), (109, .aload_n 0, [], []), (110, .getfield 239, [11, 19, 0, 1296, 0], []), (113, .aload_n 0, [], []), (114, .bipush 10, [], []), (116, .invokevirtual 260, [171, 2, 1, 11, 1578, 1581, 134, 1580, 73, 0], []), (119, .iastore, [], []), (120, .goto 82, [202], []), (123, .aload_n 0, [], []), (124, .getfield 67, [11, 29, 2, 1306, 1], []), (127, .aload_n 0, [], []), (128, .getfield 239, [11, 19, 0, 1296, 0], []), (131, .aload_n 0, [], []), (132, .bipush 30, [], []), (134, .invokevirtual 260, [171, 2, 1, 11, 1578, 1581, 134, 1580, 73, 0], []), (137, .iastore, [], []), (138, .goto 64, [202], []), (141, .aload_n 0, [], []), (142, .getfield 70, [11, 30, 2, 1307, 1], []), (145, .aload_n 0, [], []), (146, .getfield 239, [11, 19, 0, 1296, 0], []), (149, .aload_n 0, [], []), (150, .bipush 30, [], []), (152, .invokevirtual 260, [171, 2, 1, 11, 1578, 1581, 134, 1580, 73, 0], []), (155, .iastore, [], []), (156, .goto 46, [202], []), (159, .aload_n 0, [], []), (160, .getfield 73, [11, 31, 2, 1308, 1], []), (163, .aload_n 0, [], []), (164, .getfield 239, [11, 19, 0, 1296, 0], []), (167, .aload_n 0, [], []), (168, .sipush 999, [], []), (171, .invokevirtual 260, [171, 2, 1, 11, 1578, 1581, 134, 1580, 73, 0], []), (174, .iastore, [], []), (175, .goto 27, [202], []), (178, .aload_n 0, [], []), (179, .getfield 76, [11, 32, 2, 1309, 1], []), (182, .aload_n 0, [], []), (183, .getfield 239, [11, 19, 0, 1296, 0], []), (186, .aload_n 0, [], []), (187, .sipush 9999, [], []), (190, .invokevirtual 260, [171, 2, 1, 11, 1578, 1581, 134, 1580, 73, 0], []), (193, .iastore, [], []), (194, .goto 8, [202], []), (197, .aload_n 0, [], []), (198, .iconst 1, [], []), (199, .invokevirtual 221, [163, 2, 0, 11, 1522, 1525, 134, 1524, 59, 0], []), (202, .return_, [0], [0])]
set_option maxRecDepth 100000 in
def wb_k_M_setting : List wb_E := [(0, .aload_n 0, [], []), (1, .invokevirtual 227, [165, 1, 0, 11, 1530, 1533, 134, 1532, 61, 0], []), (4, .aload_n 0, [], []), (5, .iconst 0, [], []), (6, .iload_n 1, [], []), (7, .invokevirtual 263, [172, 3, 1, 11, 1546, 1549, 134, 1548, 65, 0], []), (10, .istore_n 2, [], []), (11, .aload_n 0, [], []), (12, .iconst 4, [], []), (13, .invokevirtual 267, [166, 2, 0, 11, 1534, 1537, 134, 1536, 62, 0], []), (16, .iload_n 2, [], []), (17, .ireturn, [0], [])]
set_option maxRecDepth 100000 in
def wb_k_M_bounded : List wb_E := [(0, .aload_n 0, [], []), (1, .getfield 206, [11, 13, 0, 1290, 0], []), (4, .ifCond .gt 11, [15], []), (7, .aload_n 0, [], []), (8, .iconst 2, [], []), (9, .invokevirtual 224, [162, 2, 1, 11, 1514, 1517, 134, 1516, 57, 0], []), (12, .ifCond .ne 10, [22], []), (15, .aload_n 0, [], [2, 3]), (16, .iconst 1, [], []), (17, .invokevirtual 221, [163, 2, 0, 11, 1522, 1525, 134, 1524, 59, 0], []), (20, .iload_n 1, [], []), (21, .ireturn, [0], []), (22, .aload_n 0, [], [3]), (23, .getfield 27, [11, 7, 2, 1284, 1], []), (26, .aload_n 0, [], []), (27, .getfield 209, [11, 11, 0, 1288, 0], []), (30, .iaload, [], []), (31, .istore_n 3, [], []), (32, .iload_n 3, [], []), (33, .iload_n 1, [], []), (34, .if_icmp .lt 8, [42], []), (37, .iload_n 3, [], []), (38, .iload_n 2, [], []), (39, .if_icmp .le 12, [51], []), (42, .aload_n 0, [], [1, 2]), (43, .iconst 5, [], []), (44, .aload_n 0, [], []), (45, .getfield 209, [11, 11, 0, 1288, 0], []), (48, .invokevirtual 270, [164, 3, 0, 11, 1542, 1545, 134, 1544, 64, 0], []), (51, .aload_n 0, [], [1, 2]), (52, .invokevirtual 227, [165, 1, 0, 11, 1530, 1533, 134, 1532, 61, 0], []), (55, .iload_n 3, [], []), (56, .ireturn, [0], [])]
set_option maxRecDepth 100000 in
def wb_k_M_named : List wb_E := [(0, .iconst 0, [], []), (1, .istore_n 2, [], []), (2, .iload_n 2, [], []), (3, .aload_n 0, [], []), (4, .getfield 43, [11, 21, 2, 1298, 1], []), (7, .aload_n 0, [], []), (8, .getfield 239, [11, 19, 0, 1296, 0], []), (11, .iaload, [], []), (12, .if_icmp .ge 27, [39], []), (15, .aload_n 0, [], []), (16, .getfield 40, [11, 20, 2, 1297, 1], []), (19, .iload_n 2, [], []), (20, .laload, [], []), (21, .aload_n 0, [], []), (22, .getfield 30, [11, 8, 2, 1285, 1], []), (25, .iload_n 1, [], []), (26, .laload, [], []), (27, .lcmp, [], []), (28, .ifCond .ne 5, [33], []), (31, .iload_n 2, [], []), (32, .ireturn, [0], []), (33, .iinc 2 1, [], []), (36, .goto (-34), [2], []), (39, .iconst (-1), [], [0, 1, 2]), (40, .ireturn, [0], [])]
set_option maxRecDepth 100000 in
def wb_k_M_tellHouse : List wb_E := [(0, .aload_n 0, [], []), (1, .invokevirtual 227, [165, 1, 0, 11, 1530, 1533, 134, 1532, 61, 0], []), (4, .bipush 6, [], []), (6, .aload_n 0, [], []), (7, .getfield 239, [11, 19, 0, 1296, 0], []), (10, .imul, [], []), (11, .aload_n 0, [], []), (12, .getfield 43, [11, 21, 2, 1298, 1], []), (15, .aload_n 0, [], []), (16, .getfield 239, [11, 19, 0, 1296, 0], []), (19, .iaload, [], []), (20, .iadd, [], []), (21, .istore_n 1, [], []), (22, .aload_n 0, [], []), (23, .getfield 209, [11, 11, 0, 1288, 0], []), (26, .istore_n 2, [], []), (27, .aload_n 0, [], []), (28, .iconst 1, [], []), (29, .invokevirtual 267, [166, 2, 0, 11, 1534, 1537, 134, 1536, 62, 0], []), (32, .aload_n 0, [], []), (33, .getfield 206, [11, 13, 0, 1290, 0], []), (36, .ifCond .ne 17, [53], []), (39, .aload_n 0, [], []), (40, .iload_n 2, [], []), (41, .invokevirtual 274, [173, 2, 1, 11, 1538, 1541, 134, 1540, 63, 0], []), (44, .ifCond .lt 9, [53], []), (47, .aload_n 0, [], []), (48, .iconst 3, [], []), (49, .iload_n 2, [], []), (50, .invokevirtual 270, [164, 3, 0, 11, 1542, 1545, 134, 1544, 64, 0], []), (53, .aload_n 0, [], []), (54, .getfield 46, [11, 22, 2, 1299, 1], []), (57, .iload_n 1, [], []), (58, .aload_n 0, [], []), (59, .iconst 0, [], []), (60, .bipush 10, [], []), (62, .invokevirtual 263, [172, 3, 1, 11, 1546, 1549, 134, 1548, 65, 0], []), (65, .iastore, [], []), (66, .aload_n 0, [], []), (67, .getfield 49, [11, 23, 2, 1300, 1], []), (70, .iload_n 1, [], []), (71, .aload_n 0, [], []), (72, .iconst 0, [], []), (73, .bipush 6, [], []), (75, .invokevirtual 263, [172, 3, 1, 11, 1546, 1549, 134, 1548, 65, 0], []), (78, .iastore, [], []), (79, .aload_n 0, [], []), (80, .iload_n 1, [], []), (81, .invokevirtual 277, [175, 2, 0, 11, 1550, 1553, 134, 1552, 66, 0], []), (84, .aload_n 0, [], []), (85, .getfield 206, [11, 13, 0, 1290, 0], []), (88, .ifCond .le 4, [92], []), (91, .return_, [0], []), (92, .aload_n 0, [], [1]), (93, .getfield 40, [11, 20, 2, 1297, 1], []), (96, .aload_n 0, [], []), (97, .getfield 43, [11, 21, 2, 1298, 1], []), (100, .aload_n 0, [], []), (101, .getfield 239, [11, 19, 0, 1296, 0], []), (104, .iaload, [], []), (105, .aload_n 0, [], []), (106, .getfield 30, [11, 8, 2, 1285, 1], []), (109, .iload_n 2, [], []), (110, .laload, [], []), (111, .lastore, [], []), (112, .aload_n 0, [], []), (113, .getfield 43, [11, 21, 2, 1298, 1], []), (116, .aload_n 0, [], []), (117, .getfield 239, [11, 19, 0, 1296, 0], []), (120, .dup2, [], []), (121, .iaload, [], []), (122, .iconst 1, [], []), (123, .iadd, [], []), (124, .iastore, [], []), (125, .return_, [0], [])]
set_option maxRecDepth 100000 in
def wb_k_M_tellHabit : List wb_E := [(0, .aload_n 0, [], []), (1, .getfield 206, [11, 13, 0, 1290, 0], []), (4, .ifCond .le 4, [8], []), (7, .return_, [0], []), (8, .aload_n 0, [], [2, 3]), (9, .iconst 5, [], []), (10, .invokevirtual 224, [162, 2, 1, 11, 1514, 1517, 134, 1516, 57, 0], []), (13, .ifCond .eq 17, [30], []), (16, .aload_n 0, [], []), (17, .getfield 52, [11, 24, 2, 1301, 1], []), (20, .iload_n 1, [], []), (21, .bipush 6, [], []), (23, .iastore, [], []), (24, .aload_n 0, [], []), (25, .iload_n 1, [], []), (26, .invokevirtual 280, [176, 2, 0, 11, 1554, 1557, 134, 1556, 67, 0], []), (29, .return_, [0], []), (30, .aload_n 0, [], [2, 3]), (31, .getfield 52, [11, 24, 2, 1301, 1], []), (34, .iload_n 1, [], []), (35, .aload_n 0, [], []), (36, .getfield 20, [11, 5, 2, 1282, 1], []), (39, .aload_n 0, [], []), (40, .getfield 209, [11, 11, 0, 1288, 0], []), (43, .iaload, [], []), (44, .bipush 21, [], []), (46, .isub, [], []), (47, .iastore, [], []), (48, .aload_n 0, [], []), (49, .getfield 20, [11, 5, 2, 1282, 1], []), (52, .aload_n 0, [], []), (53, .getfield 209, [11, 11, 0, 1288, 0], []), (56, .iaload, [], []), (57, .bipush 21, [], []), (59, .if_icmp .lt 17, [76], []), (62, .aload_n 0, [], []), (63, .getfield 20, [11, 5, 2, 1282, 1], []), (66, .aload_n 0, [], []), (67, .getfield 209, [11, 11, 0, 1288, 0], []), (70, .iaload, [], []), (71, .bipush 26, [], []), (73, .if_icmp .le 8, [81], []), (76, .aload_n 0, [], [2, 3]), (77, .iconst 1, [], []), (78, .invokevirtual 221, [163, 2, 0, 11, 1522, 1525, 134, 1524, 59, 0], []), (81, .aload_n 0, [], [2, 3]), (82, .bipush 24, [], []), (84, .invokevirtual 224, [162, 2, 1, 11, 1514, 1517, 134, 1516, 57, 0], []), (87, .istore_n 2, [], []), (88, .aload_n 0, [], []), (89, .getfield 206, [11, 13, 0, 1290, 0], []), (92, .ifCond .ne 7, [99], []), (95, .aload_n 0, [], []), (96, .invokevirtual 227, [165, 1, 0, 11, 1530, 1533, 134, 1532, 61, 0], []), (99, .iload_n 2, [], [3]), (100, .ifCond .eq 57, [157], []), (103, .aload_n 0, [], []), (104, .getfield 209, [11, 11, 0, 1288, 0], []), (107, .istore_n 3, [], []), (108, .aload_n 0, [], []), (109, .iconst 1, [], []), (110, .invokevirtual 267, [166, 2, 0, 11, 1534, 1537, 134, 1536, 62, 0], []), (113, .aload_n 0, [], []), (114, .getfield 55, [11, 25, 2, 1302, 1], []), (117, .iload_n 1, [], []), (118, .aload_n 0, [], []), (119, .getfield 206, [11, 13, 0, 1290, 0], []), (122, .ifCond .ne 11, [133], []), (125, .aload_n 0, [], []), (126, .iload_n 3, [], []), (127, .invokevirtual 274, [173, 2, 1, 11, 1538, 1541, 134, 1540, 63, 0], []), (130, .goto 4, [134], []), (133, .iconst (-1), [], [2]), (134, .iastore, [], [2]), (135, .aload_n 0, [], []), (136, .getfield 206, [11, 13, 0, 1290, 0], []), (139, .ifCond .ne 18, [157], []), (142, .aload_n 0, [], []), (143, .getfield 55, [11, 25, 2, 1302, 1], []), (146, .iload_n 1, [], []), (147, .iaload, [], []), (148, .ifCond .ge 9, [157], []), (151, .aload_n 0, [], []), (152, .iconst 4, [], []), (153, .iload_n 3, [], []), (154, .invokevirtual 270, [164, 3, 0, 11, 1542, 1545, 134, 1544, 64, 0], []), (157, .aload_n 0, [], [1, 2, 3]), (158, .iconst 4, [], []), (159, .invokevirtual 267, [166, 2, 0, 11, 1534, 1537, 134, 1536, 62, 0], []), (162, .return_, [0], [])]
set_option maxRecDepth 100000 in
def wb_k_M_tellLaw : List wb_E := [(0, .aload_n 0, [], []), (1, .iconst 5, [], []), (2, .invokevirtual 267, [166, 2, 0, 11, 1534, 1537, 134, 1536, 62, 0], []), (5, .aload_n 0, [], []), (6, .getfield 242, [11, 33, 0, 1310, 0], []), (9, .istore_n 2, [], []), (10, .iconst 0, [], []), (11, .istore_n 3, [], []), (12, .aload_n 0, [], []), (13, .getfield 206, [11, 13, 0, 1290, 0], []), (16, .ifCond .ne 113, [129], []), (19, .aload_n 0, [], []), (20, .bipush 32, [], []), (22, .invokevirtual 224, [162, 2, 1, 11, 1514, 1517, 134, 1516, 57, 0], []), (25, .ifCond .eq 104, [129], []), (28, .iload_n 3, [], []), (29, .iconst 4, [], []), (30, .if_icmp .ne 8, [38], []), (33, .aload_n 0, [], []), (34, .iconst 2, [], []), (35, .invokevirtual 221, [163, 2, 0, 11, 1522, 1525, 134, 1524, 59, 0], []), (38, .aload_n 0, [], []), (39, .getfield 206, [11, 13, 0, 1290, 0], []), (42, .ifCond .le 4, [46], []), (45, .return_, [0], []), (46, .iinc 3 1, [], []), (49, .aload_n 0, [], []), (50, .invokevirtual 227, [165, 1, 0, 11, 1530, 1533, 134, 1532, 61, 0], []), (53, .aload_n 0, [], []), (54, .getfield 79, [11, 34, 2, 1311, 1], []), (57, .aload_n 0, [], []), (58, .getfield 242, [11, 33, 0, 1310, 0], []), (61, .iconst 1, [], []), (62, .bastore, [], []), (63, .aload_n 0, [], []), (64, .getfield 83, [11, 35, 2, 1312, 1], []), (67, .aload_n 0, [], []), (68, .getfield 242, [11, 33, 0, 1310, 0], []), (71, .aload_n 0, [], []), (72, .getfield 245, [11, 39, 0, 1316, 0], []), (75, .iastore, [], []), (76, .aload_n 0, [], []), (77, .invokevirtual 283, [180, 1, 0, 11, 1558, 1561, 134, 1560, 68, 0], []), (80, .aload_n 0, [], []), (81, .bipush 13, [], []), (83, .invokevirtual 267, [166, 2, 0, 11, 1534, 1537, 134, 1536, 62, 0], []), (86, .aload_n 0, [], []), (87, .getfield 86, [11, 36, 2, 1313, 1], []), (90, .aload_n 0, [], []), (91, .getfield 242, [11, 33, 0, 1310, 0], []), (94, .aload_n 0, [], []), (95, .getfield 245, [11, 39, 0, 1316, 0], []), (98, .iastore, [], []), (99, .aload_n 0, [], []), (100, .getfield 206, [11, 13, 0, 1290, 0], []), (103, .ifCond .ne 7, [110], []), (106, .aload_n 0, [], []), (107, .invokevirtual 283, [180, 1, 0, 11, 1558, 1561, 134, 1560, 68, 0], []), (110, .aload_n 0, [], []), (111, .bipush 33, [], []), (113, .invokevirtual 267, [166, 2, 0, 11, 1534, 1537, 134, 1536, 62, 0], []), (116, .aload_n 0, [], []), (117, .invokevirtual 286, [177, 1, 0, 11, 1574, 1577, 134, 1576, 72, 0], []), (120, .aload_n 0, [], []), (121, .bipush 34, [], []), (123, .invokevirtual 267, [166, 2, 0, 11, 1534, 1537, 134, 1536, 62, 0], []), (126, .goto (-114), [12], []), (129, .aload_n 0, [], [3]), (130, .getfield 79, [11, 34, 2, 1311, 1], []), (133, .aload_n 0, [], []), (134, .getfield 242, [11, 33, 0, 1310, 0], []), (137, .iconst 0, [], []), (138, .bastore, [], []), (139, .aload_n 0, [], []), (140, .invokevirtual 286, [177, 1, 0, 11, 1574, 1577, 134, 1576, 72, 0], []), (143, .aload_n 0, [], []), (144, .iconst 4, [], []), (145, .invokevirtual 267, [166, 2, 0, 11, 1534, 1537, 134, 1536, 62, 0], []), (148, .aload_n 0, [], []), (149, .getfield 206, [11, 13, 0, 1290, 0], []), (152, .ifCond .le 4, [156], []), (155, .return_, [0], []), (156, .aload_n 0, [], [3]), (157, .getfield 58, [11, 26, 2, 1303, 1], []), (160, .iload_n 1, [], []), (161, .iload_n 2, [], []), (162, .iastore, [], []), (163, .aload_n 0, [], []), (164, .getfield 61, [11, 27, 2, 1304, 1], []), (167, .iload_n 1, [], []), (168, .aload_n 0, [], []), (169, .getfield 242, [11, 33, 0, 1310, 0], []), (172, .iastore, [], []), (173, .return_, [0], [])]
set_option maxRecDepth 100000 in
def wb_k_M_term : List wb_E := [(0, .aload_n 0, [], []), (1, .getfield 89, [11, 37, 2, 1314, 1], []), (4, .aload_n 0, [], []), (5, .getfield 242, [11, 33, 0, 1310, 0], []), (8, .aload_n 0, [], []), (9, .getfield 245, [11, 39, 0, 1316, 0], []), (12, .iastore, [], []), (13, .aload_n 0, [], []), (14, .getfield 206, [11, 13, 0, 1290, 0], []), (17, .ifCond .ne 7, [24], []), (20, .aload_n 0, [], []), (21, .invokevirtual 283, [180, 1, 0, 11, 1558, 1561, 134, 1560, 68, 0], []), (24, .aload_n 0, [], []), (25, .getfield 92, [11, 38, 2, 1315, 1], []), (28, .aload_n 0, [], []), (29, .getfield 242, [11, 33, 0, 1310, 0], []), (32, .aload_n 0, [], []), (33, .getfield 245, [11, 39, 0, 1316, 0], []), (36, .iastore, [], []), (37, .aload_n 0, [], []), (38, .dup, [], []), (39, .getfield 242, [11, 33, 0, 1310, 0], []), (42, .iconst 1, [], []), (43, .iadd, [], []), (44, .putfield 242, [11, 33, 0, 1310, 0], []), (47, .return_, [0], [])]
set_option maxRecDepth 100000 in
def wb_k_M_emit : List wb_E := [(0, .aload_n 0, [], []), (1, .getfield 95, [11, 40, 2, 1317, 1], []), (4, .aload_n 0, [], []), (5, .getfield 245, [11, 39, 0, 1316, 0], []), (8, .iload_n 1, [], []), (9, .iastore, [], []), (10, .aload_n 0, [], []), (11, .getfield 98, [11, 41, 2, 1318, 1], []), (14, .aload_n 0, [], []), (15, .getfield 245, [11, 39, 0, 1316, 0], []), (18, .iload_n 2, [], []), (19, .iastore, [], []), (20, .aload_n 0, [], []), (21, .dup, [], []), (22, .getfield 245, [11, 39, 0, 1316, 0], []), (25, .iconst 1, [], []), (26, .iadd, [], []), (27, .putfield 245, [11, 39, 0, 1316, 0], []), (30, .return_, [0], [])]
set_option maxRecDepth 100000 in
def wb_k_M_comesOut : List wb_E := [(0, .aload_n 0, [], [2]), (1, .getfield 289, [11, 43, 0, 1320, 0], []), (4, .ifCond .le 87, [91], []), (7, .aload_n 0, [], []), (8, .getfield 101, [11, 42, 2, 1319, 1], []), (11, .aload_n 0, [], []), (12, .getfield 289, [11, 43, 0, 1320, 0], []), (15, .iconst 1, [], []), (16, .isub, [], []), (17, .iaload, [], []), (18, .istore_n 2, [], []), (19, .iload_n 2, [], []), (20, .bipush 6, [], []), (22, .if_icmp .eq 19, [41], []), (25, .iload_n 1, [], []), (26, .ifCond .eq 16, [42], []), (29, .iload_n 2, [], []), (30, .bipush 8, [], []), (32, .if_icmp .eq 9, [41], []), (35, .iload_n 2, [], []), (36, .bipush 9, [], []), (38, .if_icmp .ne 4, [42], []), (41, .return_, [0], [0, 1, 2]), (42, .aload_n 0, [], []), (43, .dup, [], []), (44, .getfield 289, [11, 43, 0, 1320, 0], []), (47, .iconst 1, [], []), (48, .isub, [], []), (49, .putfield 289, [11, 43, 0, 1320, 0], []), (52, .aload_n 0, [], []), (53, .iload_n 2, [], []), (54, .bipush 8, [], []), (56, .if_icmp .ne 7, [63], []), (59, .iconst 2, [], []), (60, .goto 24, [84], []), (63, .iload_n 2, [], []), (64, .bipush 9, [], []), (66, .if_icmp .ne 7, [73], []), (69, .iconst 3, [], []), (70, .goto 14, [84], []), (73, .iload_n 2, [], []), (74, .bipush 10, [], []), (76, .if_icmp .ne 7, [83], []), (79, .iconst 4, [], []), (80, .goto 4, [84], []), (83, .iconst 5, [], [2]), (84, .iconst 0, [], [2]), (85, .invokevirtual 292, [178, 3, 0, 11, 1566, 1569, 134, 1568, 70, 0], []), (88, .goto (-88), [0], []), (91, .return_, [0], [0, 1, 2])]
set_option maxRecDepth 100000 in
def wb_k_M_expression : List wb_E := [(0, .aload_n 0, [], []), (1, .iconst 0, [], []), (2, .putfield 289, [11, 43, 0, 1320, 0], []), (5, .aload_n 0, [], []), (6, .getfield 233, [11, 12, 0, 1289, 0], []), (9, .istore_n 1, [], []), (10, .iconst 1, [], []), (11, .istore_n 2, [], []), (12, .iload_n 2, [], []), (13, .ifCond .eq 259, [272], []), (16, .aload_n 0, [], []), (17, .getfield 206, [11, 13, 0, 1290, 0], []), (20, .ifCond .ne 252, [272], []), (23, .aload_n 0, [], [2]), (24, .bipush 6, [], []), (26, .invokevirtual 224, [162, 2, 1, 11, 1514, 1517, 134, 1516, 57, 0], []), (29, .ifCond .eq 55, [84], []), (32, .aload_n 0, [], []), (33, .getfield 233, [11, 12, 0, 1289, 0], []), (36, .bipush 6, [], []), (38, .if_icmp .ne 8, [46], []), (41, .aload_n 0, [], []), (42, .iconst 2, [], []), (43, .invokevirtual 221, [163, 2, 0, 11, 1522, 1525, 134, 1524, 59, 0], []), (46, .aload_n 0, [], [2]), (47, .dup, [], []), (48, .getfield 233, [11, 12, 0, 1289, 0], []), (51, .iconst 1, [], []), (52, .iadd, [], []), (53, .putfield 233, [11, 12, 0, 1289, 0], []), (56, .aload_n 0, [], []), (57, .invokevirtual 227, [165, 1, 0, 11, 1530, 1533, 134, 1532, 61, 0], []), (60, .aload_n 0, [], []), (61, .getfield 101, [11, 42, 2, 1319, 1], []), (64, .aload_n 0, [], []), (65, .getfield 289, [11, 43, 0, 1320, 0], []), (68, .bipush 6, [], []), (70, .iastore, [], []), (71, .aload_n 0, [], []), (72, .dup, [], []), (73, .getfield 289, [11, 43, 0, 1320, 0], []), (76, .iconst 1, [], []), (77, .iadd, [], []), (78, .putfield 289, [11, 43, 0, 1320, 0], []), (81, .goto (-58), [23], []), (84, .aload_n 0, [], [2]), (85, .invokevirtual 295, [181, 1, 0, 11, 1562, 1565, 134, 1564, 69, 0], []), (88, .aload_n 0, [], []), (89, .getfield 206, [11, 13, 0, 1290, 0], []), (92, .ifCond .le 4, [96], []), (95, .return_, [0], []), (96, .aload_n 0, [], [2]), (97, .bipush 7, [], []), (99, .invokevirtual 224, [162, 2, 1, 11, 1514, 1517, 134, 1516, 57, 0], []), (102, .ifCond .eq 43, [145], []), (105, .aload_n 0, [], []), (106, .getfield 233, [11, 12, 0, 1289, 0], []), (109, .iload_n 1, [], []), (110, .if_icmp .le 35, [145], []), (113, .aload_n 0, [], []), (114, .iconst 0, [], []), (115, .invokevirtual 298, [179, 2, 0, 11, 1570, 1573, 134, 1572, 71, 0], []), (118, .aload_n 0, [], []), (119, .dup, [], []), (120, .getfield 289, [11, 43, 0, 1320, 0], []), (123, .iconst 1, [], []), (124, .isub, [], []), (125, .putfield 289, [11, 43, 0, 1320, 0], []), (128, .aload_n 0, [], []), (129, .dup, [], []), (130, .getfield 233, [11, 12, 0, 1289, 0], []), (133, .iconst 1, [], []), (134, .isub, [], []), (135, .putfield 233, [11, 12, 0, 1289, 0], []), (138, .aload_n 0, [], []), (139, .invokevirtual 227, [165, 1, 0, 11, 1530, 1533, 134, 1532, 61, 0], []), (142, .goto (-46), [96], []), (145, .aload_n 0, [], [2]), (146, .bipush 8, [], []), (148, .invokevirtual 224, [162, 2, 1, 11, 1514, 1517, 134, 1516, 57, 0], []), (151, .ifCond .ne 30, [181], []), (154, .aload_n 0, [], []), (155, .bipush 9, [], []), (157, .invokevirtual 224, [162, 2, 1, 11, 1514, 1517, 134, 1516, 57, 0], []), (160, .ifCond .ne 21, [181], []), (163, .aload_n 0, [], []), (164, .bipush 10, [], []), (166, .invokevirtual 224, [162, 2, 1, 11, 1514, 1517, 134, 1516, 57, 0], []), (169, .ifCond .ne 12, [181], []), (172, .aload_n 0, [], []), (173, .bipush 15, [], []), (175, .invokevirtual 224, [162, 2, 1, 11, 1514, 1517, 134, 1516, 57, 0], []), (178, .ifCond .eq 7, [185], []), (181, .iconst 1, [], [2]), (182, .goto 4, [186], []), (185, .iconst 0, [], [2]), (186, .istore_n 2, [], [2]), (187, .iload_n 2, [], []), (188, .ifCond .ne 22, [210], []), (191, .aload_n 0, [], []), (192, .getfield 233, [11, 12, 0, 1289, 0], []), (195, .iload_n 1, [], []), (196, .if_icmp .le 8, [204], []), (199, .aload_n 0, [], []), (200, .iconst 1, [], []), (201, .invokevirtual 221, [163, 2, 0, 11, 1522, 1525, 134, 1524, 59, 0], []), (204, .aload_n 0, [], [1, 2]), (205, .iconst 0, [], []), (206, .invokevirtual 298, [179, 2, 0, 11, 1570, 1573, 134, 1572, 71, 0], []), (209, .return_, [0], []), (210, .aload_n 0, [], []), (211, .aload_n 0, [], []), (212, .bipush 10, [], []), (214, .invokevirtual 224, [162, 2, 1, 11, 1514, 1517, 134, 1516, 57, 0], []), (217, .ifCond .ne 12, [229], []), (220, .aload_n 0, [], []), (221, .bipush 15, [], []), (223, .invokevirtual 224, [162, 2, 1, 11, 1514, 1517, 134, 1516, 57, 0], []), (226, .ifCond .eq 7, [233], []), (229, .iconst 1, [], []), (230, .goto 4, [234], []), (233, .iconst 0, [], []), (234, .invokevirtual 298, [179, 2, 0, 11, 1570, 1573, 134, 1572, 71, 0], []), (237, .aload_n 0, [], []), (238, .getfield 101, [11, 42, 2, 1319, 1], []), (241, .aload_n 0, [], []), (242, .getfield 289, [11, 43, 0, 1320, 0], []), (245, .aload_n 0, [], []), (246, .getfield 20, [11, 5, 2, 1282, 1], []), (249, .aload_n 0, [], []), (250, .getfield 209, [11, 11, 0, 1288, 0], []), (253, .iaload, [], []), (254, .iastore, [], []), (255, .aload_n 0, [], []), (256, .dup, [], []), (257, .getfield 289, [11, 43, 0, 1320, 0], []), (260, .iconst 1, [], []), (261, .iadd, [], []), (262, .putfield 289, [11, 43, 0, 1320, 0], []), (265, .aload_n 0, [], []), (266, .invokevirtual 227, [165, 1, 0, 11, 1530, 1533, 134, 1532, 61, 0], []), (269, .goto (-257), [12], []), (272, .return_, [0], [0, 1, 2])]
set_option maxRecDepth 100000 in
def wb_k_M_unit : List wb_E := [(0, .aload_n 0, [], []), (1, .iconst 2, [], []), (2, .invokevirtual 224, [162, 2, 1, 11, 1514, 1517, 134, 1516, 57, 0], []), (5, .ifCond .eq 24, [29], []), (8, .aload_n 0, [], []), (9, .iconst 0, [], []), (10, .aload_n 0, [], []), (11, .getfield 27, [11, 7, 2, 1284, 1], []), (14, .aload_n 0, [], []), (15, .getfield 209, [11, 11, 0, 1288, 0], []), (18, .iaload, [], []), (19, .invokevirtual 292, [178, 3, 0, 11, 1566, 1569, 134, 1568, 70, 0], []), (22, .aload_n 0, [], []), (23, .invokevirtual 227, [165, 1, 0, 11, 1530, 1533, 134, 1532, 61, 0], []), (26, .goto 67, [93], []), (29, .aload_n 0, [], []), (30, .getfield 206, [11, 13, 0, 1290, 0], []), (33, .ifCond .ne 55, [88], []), (36, .aload_n 0, [], []), (37, .getfield 20, [11, 5, 2, 1282, 1], []), (40, .aload_n 0, [], []), (41, .getfield 209, [11, 11, 0, 1288, 0], []), (44, .iaload, [], []), (45, .bipush 35, [], []), (47, .if_icmp .lt 41, [88], []), (50, .aload_n 0, [], []), (51, .getfield 20, [11, 5, 2, 1282, 1], []), (54, .aload_n 0, [], []), (55, .getfield 209, [11, 11, 0, 1288, 0], []), (58, .iaload, [], []), (59, .bipush 41, [], []), (61, .if_icmp .gt 27, [88], []), (64, .aload_n 0, [], []), (65, .iconst 1, [], []), (66, .aload_n 0, [], []), (67, .getfield 20, [11, 5, 2, 1282, 1], []), (70, .aload_n 0, [], []), (71, .getfield 209, [11, 11, 0, 1288, 0], []), (74, .iaload, [], []), (75, .bipush 35, [], []), (77, .isub, [], []), (78, .invokevirtual 292, [178, 3, 0, 11, 1566, 1569, 134, 1568, 70, 0], []), (81, .aload_n 0, [], []), (82, .invokevirtual 227, [165, 1, 0, 11, 1530, 1533, 134, 1532, 61, 0], []), (85, .goto 8, [93], []), (88, .aload_n 0, [], []), (89, .iconst 1, [], []), (90, .invokevirtual 221, [163, 2, 0, 11, 1522, 1525, 134, 1524, 59, 0], []), (93, .return_, [0], [0])]
set_option maxRecDepth 100000 in
def wb_k_M_termOf : List wb_E := [(0, .iconst 0, [], []), (1, .istore_n 3, [], []), (2, .iload_n 1, [], []), (3, .istore 4, [], []), (5, .iload 4, [], [1, 5, 6, 7]), (7, .iload_n 2, [], []), (8, .if_icmp .ge 157, [165], []), (11, .aload_n 0, [], []), (12, .getfield 95, [11, 40, 2, 1317, 1], []), (15, .iload 4, [], []), (17, .iaload, [], []), (18, .istore 5, [], []), (20, .iload 5, [], []), (22, .iconst 2, [], []), (23, .if_icmp .ge 42, [65], []), (26, .aload_n 0, [], []), (27, .getfield 107, [11, 45, 2, 1322, 1], []), (30, .iload_n 3, [], []), (31, .iload 5, [], []), (33, .ifCond .ne 13, [46], []), (36, .aload_n 0, [], []), (37, .getfield 98, [11, 41, 2, 1318, 1], []), (40, .iload 4, [], []), (42, .iaload, [], []), (43, .goto 15, [58], []), (46, .aload_n 0, [], [1, 5, 6, 7]), (47, .getfield 104, [11, 44, 2, 1321, 1], []), (50, .aload_n 0, [], []), (51, .getfield 98, [11, 41, 2, 1318, 1], []), (54, .iload 4, [], []), (56, .iaload, [], []), (57, .iaload, [], []), (58, .iastore, [], [1, 5, 6, 7]), (59, .iinc 3 1, [], []), (62, .goto 97, [159], []), (65, .iinc 3 (-1), [], [1, 6, 7]), (68, .aload_n 0, [], []), (69, .getfield 107, [11, 45, 2, 1322, 1], []), (72, .iload_n 3, [], []), (73, .iconst 1, [], []), (74, .isub, [], []), (75, .iaload, [], []), (76, .istore 6, [], []), (78, .aload_n 0, [], []), (79, .getfield 107, [11, 45, 2, 1322, 1], []), (82, .iload_n 3, [], []), (83, .iaload, [], []), (84, .istore 7, [], []), (86, .iload 5, [], []), (88, .iconst 5, [], []), (89, .if_icmp .ne 15, [104], []), (92, .iload 7, [], []), (94, .ifCond .ne 10, [104], []), (97, .aload_n 0, [], []), (98, .iconst 1, [], []), (99, .putfield 302, [11, 46, 3, 1323, 0], []), (102, .iconst 0, [], []), (103, .ireturn, [0], []), (104, .aload_n 0, [], [1]), (105, .getfield 107, [11, 45, 2, 1322, 1], []), (108, .iload_n 3, [], []), (109, .iconst 1, [], []), (110, .isub, [], []), (111, .iload 5, [], []), (113, .iconst 2, [], []), (114, .if_icmp .ne 11, [125], []), (117, .iload 6, [], []), (119, .iload 7, [], []), (121, .iadd, [], []), (122, .goto 36, [158], []), (125, .iload 5, [], [1]), (127, .iconst 3, [], []), (128, .if_icmp .ne 11, [139], []), (131, .iload 6, [], []), (133, .iload 7, [], []), (135, .isub, [], []), (136, .goto 22, [158], []), (139, .iload 5, [], [1]), (141, .iconst 4, [], []), (142, .if_icmp .ne 11, [153], []), (145, .iload 6, [], []), (147, .iload 7, [], []), (149, .imul, [], []), (150, .goto 8, [158], []), (153, .iload 6, [], [1, 5]), (155, .iload 7, [], []), (157, .idiv, [], []), (158, .iastore, [], [1, 5, 6, 7]), (159, .iinc 4 1, [], [1, 5, 6, 7]), (162, .goto (-157), [5], []), (165, .aload_n 0, [], [1, 2, 3, 4, 5, 6, 7]), (166, .getfield 107, [11, 45, 2, 1322, 1], []), (169, .iconst 0, [], []), (170, .iaload, [], []), (171, .ireturn, [0], [])]
set_option maxRecDepth 100000 in
def wb_k_M_in : List wb_E := [(0, .iload_n 0, [], []), (1, .iload_n 1, [], []), (2, .if_icmp .lt 12, [14], []), (5, .iload_n 0, [], []), (6, .iload_n 2, [], []), (7, .if_icmp .gt 7, [14], []), (10, .iconst 1, [], []), (11, .goto 4, [15], []), (14, .iconst 0, [], [0, 1, 2]), (15, .ireturn, [1], [0, 1, 2])]
set_option maxRecDepth 100000 in
def wb_k_M_bits : List wb_E := [(0, .iconst 0, [], []), (1, .istore_n 1, [], []), (2, .iconst 0, [], []), (3, .istore_n 2, [], []), (4, .iload_n 2, [], []), (5, .bipush 6, [], []), (7, .if_icmp .ge 17, [24], []), (10, .iload_n 1, [], []), (11, .iload_n 0, [], []), (12, .iload_n 2, [], []), (13, .ishr, [], []), (14, .iconst 1, [], []), (15, .iand, [], []), (16, .iadd, [], []), (17, .istore_n 1, [], []), (18, .iinc 2 1, [], []), (21, .goto (-17), [4], []), (24, .iload_n 1, [], [0, 2]), (25, .ireturn, [0], [])]
set_option maxRecDepth 100000 in
def wb_k_M_isHouse : List wb_E := [(0, .iload_n 1, [], []), (1, .iconst 0, [], []), (2, .aload_n 0, [], []), (3, .getfield 43, [11, 21, 2, 1298, 1], []), (6, .aload_n 0, [], []), (7, .getfield 236, [11, 18, 0, 1295, 0], []), (10, .iaload, [], []), (11, .iconst 1, [], []), (12, .isub, [], []), (13, .invokestatic 306, [183, 3, 1, 200, 1594, 1596, 134, 1595, 0, 0], []), (16, .ireturn, [1], [])]
set_option maxRecDepth 100000 in
def wb_k_M_begins : List wb_E := [(0, .iconst 0, [], []), (1, .istore_n 1, [], []), (2, .iload_n 1, [], []), (3, .bipush 48, [], []), (5, .if_icmp .ge 16, [21], []), (8, .aload_n 0, [], []), (9, .getfield 113, [11, 48, 2, 1325, 1], []), (12, .iload_n 1, [], []), (13, .iconst 0, [], []), (14, .iastore, [], []), (15, .iinc 1 1, [], []), (18, .goto (-16), [2], []), (21, .iconst 0, [], [1]), (22, .istore_n 1, [], []), (23, .iload_n 1, [], []), (24, .bipush 6, [], []), (26, .if_icmp .ge 48, [74], []), (29, .aload_n 0, [], []), (30, .getfield 113, [11, 48, 2, 1325, 1], []), (33, .iload_n 1, [], []), (34, .iload_n 1, [], []), (35, .iastore, [], []), (36, .aload_n 0, [], []), (37, .getfield 113, [11, 48, 2, 1325, 1], []), (40, .bipush 6, [], []), (42, .iload_n 1, [], []), (43, .iadd, [], []), (44, .iconst (-1), [], []), (45, .iastore, [], []), (46, .aload_n 0, [], []), (47, .getfield 113, [11, 48, 2, 1325, 1], []), (50, .bipush 20, [], []), (52, .iload_n 1, [], []), (53, .iadd, [], []), (54, .bipush (-2), [], []), (56, .iastore, [], []), (57, .aload_n 0, [], []), (58, .getfield 113, [11, 48, 2, 1325, 1], []), (61, .bipush 26, [], []), (63, .iload_n 1, [], []), (64, .iadd, [], []), (65, .bipush (-2), [], []), (67, .iastore, [], []), (68, .iinc 1 1, [], []), (71, .goto (-48), [23], []), (74, .aload_n 0, [], [1]), (75, .invokevirtual 310, [187, 1, 0, 11, 1270, 1273, 134, 1272, 50, 0], []), (78, .return_, [0], [])]
set_option maxRecDepth 100000 in
def wb_k_M_plainly : List wb_E := [(0, .aload_n 0, [], []), (1, .aload_n 0, [], []), (2, .getfield 76, [11, 32, 2, 1309, 1], []), (5, .aload_n 0, [], []), (6, .getfield 236, [11, 18, 0, 1295, 0], []), (9, .iaload, [], []), (10, .putfield 313, [11, 49, 0, 1326, 0], []), (13, .aload_n 0, [], []), (14, .iconst 0, [], []), (15, .putfield 316, [11, 50, 0, 1327, 0], []), (18, .return_, [0], [])]
set_option maxRecDepth 100000 in
def wb_k_M_keepsRow : List wb_E := [(0, .iconst 0, [], []), (1, .istore_n 1, [], []), (2, .iload_n 1, [], []), (3, .bipush 48, [], []), (5, .if_icmp .ge 21, [26], []), (8, .aload_n 0, [], []), (9, .getfield 110, [11, 47, 2, 1324, 1], []), (12, .iload_n 1, [], []), (13, .aload_n 0, [], []), (14, .getfield 113, [11, 48, 2, 1325, 1], []), (17, .iload_n 1, [], []), (18, .iaload, [], []), (19, .iastore, [], []), (20, .iinc 1 1, [], []), (23, .goto (-21), [2], []), (26, .return_, [0], [0, 1])]
set_option maxRecDepth 100000 in
def wb_k_M_copies : List wb_E := [(0, .iconst 0, [], []), (1, .istore_n 1, [], []), (2, .iload_n 1, [], []), (3, .bipush 48, [], []), (5, .if_icmp .ge 21, [26], []), (8, .aload_n 0, [], []), (9, .getfield 113, [11, 48, 2, 1325, 1], []), (12, .iload_n 1, [], []), (13, .aload_n 0, [], []), (14, .getfield 110, [11, 47, 2, 1324, 1], []), (17, .iload_n 1, [], []), (18, .iaload, [], []), (19, .iastore, [], []), (20, .iinc 1 1, [], []), (23, .goto (-21), [2], []), (26, .aload_n 0, [], [1]), (27, .invokevirtual 310, [187, 1, 0, 11, 1270, 1273, 134, 1272, 50, 0], []), (30, .return_, [0], [])]
set_option maxRecDepth 100000 in
def wb_k_M_hasLeaflet : List wb_E := [(0, .aload_n 0, [], []), (1, .getfield 113, [11, 48, 2, 1325, 1], []), (4, .bipush 12, [], []), (6, .iaload, [], []), (7, .iload_n 1, [], []), (8, .ishr, [], []), (9, .iconst 1, [], []), (10, .iand, [], []), (11, .iconst 1, [], []), (12, .if_icmp .ne 7, [19], []), (15, .iconst 1, [], []), (16, .goto 4, [20], []), (19, .iconst 0, [], [0, 1]), (20, .ireturn, [1], [0, 1])]
set_option maxRecDepth 100000 in
def wb_k_M_sureNow : List wb_E := [(0, .aload_n 0, [], []), (1, .iload_n 1, [], []), (2, .invokevirtual 319, [190, 2, 1, 11, 1605, 1608, 134, 1607, 77, 0], []), (5, .ifCond .eq 8, [13], []), (8, .bipush 10, [], []), (10, .goto 17, [27], []), (13, .aload_n 0, [], []), (14, .getfield 46, [11, 22, 2, 1299, 1], []), (17, .bipush 6, [], []), (19, .aload_n 0, [], []), (20, .getfield 236, [11, 18, 0, 1295, 0], []), (23, .imul, [], []), (24, .iload_n 1, [], []), (25, .iadd, [], []), (26, .iaload, [], []), (27, .ireturn, [0], [0, 1])]
set_option maxRecDepth 100000 in
def wb_k_M_habitNow : List wb_E := [(0, .aload_n 0, [], []), (1, .iload_n 1, [], []), (2, .invokevirtual 319, [190, 2, 1, 11, 1605, 1608, 134, 1607, 77, 0], []), (5, .ifCond .eq 7, [12], []), (8, .iconst 0, [], []), (9, .goto 41, [50], []), (12, .aload_n 0, [], []), (13, .getfield 113, [11, 48, 2, 1325, 1], []), (16, .bipush 6, [], []), (18, .iload_n 1, [], []), (19, .iadd, [], []), (20, .iaload, [], []), (21, .ifCond .lt 15, [36], []), (24, .aload_n 0, [], []), (25, .getfield 113, [11, 48, 2, 1325, 1], []), (28, .bipush 6, [], []), (30, .iload_n 1, [], []), (31, .iadd, [], []), (32, .iaload, [], []), (33, .goto 17, [50], []), (36, .aload_n 0, [], []), (37, .getfield 52, [11, 24, 2, 1301, 1], []), (40, .bipush 6, [], []), (42, .aload_n 0, [], []), (43, .getfield 236, [11, 18, 0, 1295, 0], []), (46, .imul, [], []), (47, .iload_n 1, [], []), (48, .iadd, [], []), (49, .iaload, [], []), (50, .ireturn, [0], [0, 1])]
set_option maxRecDepth 100000 in
def wb_k_M_houseAt : List wb_E := [(0, .iconst 0, [], []), (1, .istore_n 2, [], []), (2, .iload_n 2, [], []), (3, .aload_n 0, [], []), (4, .getfield 43, [11, 21, 2, 1298, 1], []), (7, .aload_n 0, [], []), (8, .getfield 236, [11, 18, 0, 1295, 0], []), (11, .iaload, [], []), (12, .if_icmp .ge 21, [33], []), (15, .aload_n 0, [], []), (16, .getfield 113, [11, 48, 2, 1325, 1], []), (19, .iload_n 2, [], []), (20, .iaload, [], []), (21, .iload_n 1, [], []), (22, .if_icmp .ne 5, [27], []), (25, .iload_n 2, [], []), (26, .ireturn, [0], []), (27, .iinc 2 1, [], []), (30, .goto (-28), [2], []), (33, .iconst (-1), [], [0, 1, 2]), (34, .ireturn, [0], [])]
set_option maxRecDepth 100000 in
def wb_k_M_worlds : List wb_E := [(0, .iconst 2, [], []), (1, .aload_n 0, [], []), (2, .getfield 43, [11, 21, 2, 1298, 1], []), (5, .aload_n 0, [], []), (6, .getfield 236, [11, 18, 0, 1295, 0], []), (9, .iaload, [], []), (10, .ishl, [], []), (11, .ireturn, [0], [])]
set_option maxRecDepth 100000 in
def wb_k_M_fillsWeights : List wb_E := [(0, .iconst 0, [], []), (1, .istore_n 1, [], []), (2, .iload_n 1, [], [2, 3]), (3, .aload_n 0, [], []), (4, .invokevirtual 322, [194, 1, 1, 11, 1629, 1632, 134, 1631, 81, 0], []), (7, .if_icmp .ge 99, [106], []), (10, .iload_n 1, [], []), (11, .iconst 1, [], []), (12, .iand, [], []), (13, .iconst 1, [], []), (14, .if_icmp .ne 15, [29], []), (17, .aload_n 0, [], []), (18, .getfield 64, [11, 28, 2, 1305, 1], []), (21, .aload_n 0, [], []), (22, .getfield 236, [11, 18, 0, 1295, 0], []), (25, .iaload, [], []), (26, .goto 15, [41], []), (29, .bipush 10, [], [2, 3]), (31, .aload_n 0, [], []), (32, .getfield 64, [11, 28, 2, 1305, 1], []), (35, .aload_n 0, [], []), (36, .getfield 236, [11, 18, 0, 1295, 0], []), (39, .iaload, [], []), (40, .isub, [], []), (41, .istore_n 2, [], [2, 3]), (42, .iconst 0, [], []), (43, .istore_n 3, [], []), (44, .iload_n 3, [], []), (45, .aload_n 0, [], []), (46, .getfield 43, [11, 21, 2, 1298, 1], []), (49, .aload_n 0, [], []), (50, .getfield 236, [11, 18, 0, 1295, 0], []), (53, .iaload, [], []), (54, .if_icmp .ge 39, [93], []), (57, .iload_n 2, [], []), (58, .iload_n 1, [], []), (59, .iconst 1, [], []), (60, .iload_n 3, [], []), (61, .iadd, [], []), (62, .ishr, [], []), (63, .iconst 1, [], []), (64, .iand, [], []), (65, .iconst 1, [], []), (66, .if_icmp .ne 11, [77], []), (69, .aload_n 0, [], []), (70, .iload_n 3, [], []), (71, .invokevirtual 326, [191, 2, 1, 11, 1601, 1604, 134, 1603, 76, 0], []), (74, .goto 11, [85], []), (77, .bipush 10, [], [2]), (79, .aload_n 0, [], []), (80, .iload_n 3, [], []), (81, .invokevirtual 326, [191, 2, 1, 11, 1601, 1604, 134, 1603, 76, 0], []), (84, .isub, [], []), (85, .imul, [], [2]), (86, .istore_n 2, [], []), (87, .iinc 3 1, [], []), (90, .goto (-46), [44], []), (93, .aload_n 0, [], [3]), (94, .getfield 119, [11, 52, 2, 1329, 1], []), (97, .iload_n 1, [], []), (98, .iload_n 2, [], []), (99, .iastore, [], []), (100, .iinc 1 1, [], []), (103, .goto (-101), [2], []), (106, .return_, [0], [0, 1, 2, 3])]
set_option maxRecDepth 100000 in
def wb_k_M_signIn : List wb_E := [(0, .iload_n 2, [], []), (1, .iconst 1, [], []), (2, .iload_n 1, [], []), (3, .iadd, [], []), (4, .ishr, [], []), (5, .iconst 1, [], []), (6, .iand, [], []), (7, .iload_n 2, [], []), (8, .iconst 1, [], []), (9, .iand, [], []), (10, .if_icmp .ne 7, [17], []), (13, .iconst 1, [], []), (14, .goto 4, [18], []), (17, .iconst 0, [], [0, 1, 2]), (18, .ireturn, [1], [0, 1, 2])]
set_option maxRecDepth 100000 in
def wb_k_M_plainOf : List wb_E := [(0, .iload_n 1, [], []), (1, .ifCond .eq 7, [8], []), (4, .iconst 1, [], []), (5, .goto 4, [9], []), (8, .iconst 0, [], [0, 1]), (9, .ireturn, [0], [0, 1])]
set_option maxRecDepth 100000 in
def wb_k_M_mostOf : List wb_E := [(0, .aload_n 0, [], []), (1, .iload_n 1, [], []), (2, .iconst 1, [], []), (3, .invokevirtual 329, [200, 3, 1, 11, 1661, 1664, 134, 1663, 89, 0], []), (6, .istore_n 3, [], []), (7, .aload_n 0, [], []), (8, .iload_n 1, [], []), (9, .iconst 0, [], []), (10, .invokevirtual 329, [200, 3, 1, 11, 1661, 1664, 134, 1663, 89, 0], []), (13, .istore 4, [], []), (15, .iload_n 3, [], []), (16, .iload 4, [], []), (18, .if_icmp .ne 11, [29], []), (21, .aload_n 0, [], []), (22, .iload_n 2, [], []), (23, .invokevirtual 332, [197, 2, 1, 11, 1653, 1656, 134, 1655, 87, 0], []), (26, .goto 14, [40], []), (29, .iload_n 3, [], [0, 1, 2]), (30, .iload 4, [], []), (32, .if_icmp .le 7, [39], []), (35, .iconst 1, [], []), (36, .goto 4, [40], []), (39, .iconst 0, [], [0, 1, 2, 3, 4]), (40, .ireturn, [0], [0, 1, 2, 3, 4])]
set_option maxRecDepth 100000 in
def wb_k_M_seenFrom : List wb_E := [(0, .aload_n 0, [], []), (1, .getfield 113, [11, 48, 2, 1325, 1], []), (4, .iload_n 1, [], []), (5, .iaload, [], []), (6, .aload_n 0, [], []), (7, .getfield 49, [11, 23, 2, 1300, 1], []), (10, .bipush 6, [], []), (12, .aload_n 0, [], []), (13, .getfield 236, [11, 18, 0, 1295, 0], []), (16, .imul, [], []), (17, .iload_n 1, [], []), (18, .iadd, [], []), (19, .iaload, [], []), (20, .isub, [], []), (21, .istore_n 2, [], []), (22, .iload_n 2, [], []), (23, .ifCond .ge 7, [30], []), (26, .iconst 0, [], []), (27, .goto 4, [31], []), (30, .iload_n 2, [], [0, 1]), (31, .ireturn, [0], [0, 1, 2])]
set_option maxRecDepth 100000 in
def wb_k_M_seenOf : List wb_E := [(0, .iconst 0, [], []), (1, .istore_n 3, [], []), (2, .aload_n 0, [], []), (3, .iload_n 1, [], []), (4, .invokevirtual 336, [199, 2, 1, 11, 1665, 1668, 134, 1667, 90, 0], []), (7, .istore 4, [], []), (9, .iload 4, [], []), (11, .aload_n 0, [], []), (12, .getfield 113, [11, 48, 2, 1325, 1], []), (15, .iload_n 1, [], []), (16, .iaload, [], []), (17, .if_icmp .ge 23, [40], []), (20, .aload_n 0, [], []), (21, .getfield 122, [11, 53, 2, 1330, 1], []), (24, .iload 4, [], []), (26, .iaload, [], []), (27, .iload_n 2, [], []), (28, .if_icmp .ne 6, [34], []), (31, .iinc 3 1, [], []), (34, .iinc 4 1, [], []), (37, .goto (-28), [9], []), (40, .iload_n 3, [], [0, 1, 2, 4]), (41, .ireturn, [0], [])]
set_option maxRecDepth 100000 in
def wb_k_M_asOne : List wb_E := [(0, .iload_n 1, [], []), (1, .aload_n 0, [], []), (2, .getfield 113, [11, 48, 2, 1325, 1], []), (5, .iload_n 2, [], []), (6, .iaload, [], []), (7, .if_icmp .ge 22, [29], []), (10, .aload_n 0, [], []), (11, .getfield 122, [11, 53, 2, 1330, 1], []), (14, .iload_n 1, [], []), (15, .iaload, [], []), (16, .iconst 2, [], []), (17, .if_icmp .ge 12, [29], []), (20, .aload_n 0, [], []), (21, .getfield 122, [11, 53, 2, 1330, 1], []), (24, .iload_n 1, [], []), (25, .iaload, [], []), (26, .goto 8, [34], []), (29, .aload_n 0, [], [1, 2]), (30, .iload_n 3, [], []), (31, .invokevirtual 332, [197, 2, 1, 11, 1653, 1656, 134, 1655, 87, 0], []), (34, .ireturn, [0], [0, 1, 2, 3])]
set_option maxRecDepth 100000 in
def wb_k_M_lawOf : List wb_E := [(0, .aload_n 0, [], []), (1, .getfield 104, [11, 44, 2, 1321, 1], []), (4, .iconst 0, [], []), (5, .aload_n 0, [], []), (6, .iload_n 2, [], []), (7, .invokevirtual 332, [197, 2, 1, 11, 1653, 1656, 134, 1655, 87, 0], []), (10, .iastore, [], []), (11, .aload_n 0, [], []), (12, .getfield 104, [11, 44, 2, 1321, 1], []), (15, .iconst 1, [], []), (16, .aload_n 0, [], []), (17, .iload_n 1, [], []), (18, .iconst 1, [], []), (19, .invokevirtual 329, [200, 3, 1, 11, 1661, 1664, 134, 1663, 89, 0], []), (22, .iastore, [], []), (23, .aload_n 0, [], []), (24, .getfield 104, [11, 44, 2, 1321, 1], []), (27, .iconst 2, [], []), (28, .aload_n 0, [], []), (29, .iload_n 1, [], []), (30, .iconst 0, [], []), (31, .invokevirtual 329, [200, 3, 1, 11, 1661, 1664, 134, 1663, 89, 0], []), (34, .iastore, [], []), (35, .aload_n 0, [], []), (36, .getfield 104, [11, 44, 2, 1321, 1], []), (39, .iconst 3, [], []), (40, .aload_n 0, [], []), (41, .getfield 49, [11, 23, 2, 1300, 1], []), (44, .bipush 6, [], []), (46, .aload_n 0, [], []), (47, .getfield 236, [11, 18, 0, 1295, 0], []), (50, .imul, [], []), (51, .iload_n 1, [], []), (52, .iadd, [], []), (53, .iaload, [], []), (54, .iastore, [], []), (55, .aload_n 0, [], []), (56, .getfield 104, [11, 44, 2, 1321, 1], []), (59, .iconst 4, [], []), (60, .aload_n 0, [], []), (61, .iload_n 1, [], []), (62, .invokevirtual 326, [191, 2, 1, 11, 1601, 1604, 134, 1603, 76, 0], []), (65, .iastore, [], []), (66, .aload_n 0, [], []), (67, .getfield 104, [11, 44, 2, 1321, 1], []), (70, .iconst 5, [], []), (71, .iload_n 1, [], []), (72, .iastore, [], []), (73, .aload_n 0, [], []), (74, .getfield 104, [11, 44, 2, 1321, 1], []), (77, .bipush 6, [], []), (79, .aload_n 0, [], []), (80, .getfield 113, [11, 48, 2, 1325, 1], []), (83, .iload_n 1, [], []), (84, .iaload, [], []), (85, .ifCond .ne 7, [92], []), (88, .iconst (-1), [], []), (89, .goto 18, [107], []), (92, .aload_n 0, [], [2, 3, 4, 5, 6]), (93, .getfield 122, [11, 53, 2, 1330, 1], []), (96, .iconst 0, [], []), (97, .iaload, [], []), (98, .iconst 1, [], []), (99, .if_icmp .ne 7, [106], []), (102, .iconst 1, [], []), (103, .goto 4, [107], []), (106, .iconst 0, [], [2, 3, 4, 5, 6]), (107, .iastore, [], [2, 3, 4, 5, 6]), (108, .bipush 6, [], []), (110, .aload_n 0, [], []), (111, .getfield 236, [11, 18, 0, 1295, 0], []), (114, .imul, [], []), (115, .iload_n 1, [], []), (116, .iadd, [], []), (117, .istore_n 3, [], []), (118, .aload_n 0, [], []), (119, .iconst 0, [], []), (120, .putfield 302, [11, 46, 3, 1323, 0], []), (123, .aload_n 0, [], []), (124, .getfield 58, [11, 26, 2, 1303, 1], []), (127, .iload_n 3, [], []), (128, .iaload, [], []), (129, .istore 4, [], []), (131, .iload 4, [], [1, 2, 5, 6]), (133, .aload_n 0, [], []), (134, .getfield 61, [11, 27, 2, 1304, 1], []), (137, .iload_n 3, [], []), (138, .iaload, [], []), (139, .if_icmp .ge 116, [255], []), (142, .aload_n 0, [], []), (143, .getfield 79, [11, 34, 2, 1311, 1], []), (146, .iload 4, [], []), (148, .baload, [], []), (149, .ifCond .eq 62, [211], []), (152, .aload_n 0, [], []), (153, .aload_n 0, [], []), (154, .getfield 83, [11, 35, 2, 1312, 1], []), (157, .iload 4, [], []), (159, .iaload, [], []), (160, .aload_n 0, [], []), (161, .getfield 86, [11, 36, 2, 1313, 1], []), (164, .iload 4, [], []), (166, .iaload, [], []), (167, .invokevirtual 339, [182, 3, 1, 11, 1685, 1688, 134, 1687, 95, 0], []), (170, .istore 5, [], []), (172, .aload_n 0, [], []), (173, .aload_n 0, [], []), (174, .getfield 86, [11, 36, 2, 1313, 1], []), (177, .iload 4, [], []), (179, .iaload, [], []), (180, .aload_n 0, [], []), (181, .getfield 89, [11, 37, 2, 1314, 1], []), (184, .iload 4, [], []), (186, .iaload, [], []), (187, .invokevirtual 339, [182, 3, 1, 11, 1685, 1688, 134, 1687, 95, 0], []), (190, .istore 6, [], []), (192, .aload_n 0, [], []), (193, .getfield 302, [11, 46, 0, 1323, 0], []), (196, .ifCond .eq 5, [201], []), (199, .iconst 0, [], []), (200, .ireturn, [0], []), (201, .iload 5, [], [1, 2]), (203, .iload 6, [], []), (205, .if_icmp .lt 6, [211], []), (208, .goto 41, [249], []), (211, .aload_n 0, [], [1, 2, 3, 5, 6]), (212, .aload_n 0, [], []), (213, .getfield 89, [11, 37, 2, 1314, 1], []), (216, .iload 4, [], []), (218, .iaload, [], []), (219, .aload_n 0, [], []), (220, .getfield 92, [11, 38, 2, 1315, 1], []), (223, .iload 4, [], []), (225, .iaload, [], []), (226, .invokevirtual 339, [182, 3, 1, 11, 1685, 1688, 134, 1687, 95, 0], []), (229, .istore 5, [], []), (231, .aload_n 0, [], []), (232, .getfield 302, [11, 46, 0, 1323, 0], []), (235, .ifCond .ne 12, [247], []), (238, .iload 5, [], []), (240, .ifCond .le 7, [247], []), (243, .iconst 1, [], []), (244, .goto 4, [248], []), (247, .iconst 0, [], [0, 1, 2, 3, 4, 5, 6]), (248, .ireturn, [0], [0, 1, 2, 3, 4, 5, 6]), (249, .iinc 4 1, [], [1, 2, 5, 6]), (252, .goto (-121), [131], []), (255, .iconst 0, [], [0, 1, 2, 3, 4, 5, 6]), (256, .ireturn, [0], [])]
set_option maxRecDepth 100000 in
def wb_k_M_isSeenAlike : List wb_E := [(0, .aload_n 0, [], []), (1, .iload_n 1, [], []), (2, .invokevirtual 336, [199, 2, 1, 11, 1665, 1668, 134, 1667, 90, 0], []), (5, .istore_n 3, [], []), (6, .iload_n 3, [], []), (7, .aload_n 0, [], []), (8, .getfield 113, [11, 48, 2, 1325, 1], []), (11, .iload_n 1, [], []), (12, .iaload, [], []), (13, .if_icmp .ge 31, [44], []), (16, .aload_n 0, [], []), (17, .getfield 116, [11, 51, 2, 1328, 1], []), (20, .bipush 6, [], []), (22, .iload_n 2, [], []), (23, .imul, [], []), (24, .iload_n 3, [], []), (25, .iadd, [], []), (26, .iaload, [], []), (27, .aload_n 0, [], []), (28, .getfield 122, [11, 53, 2, 1330, 1], []), (31, .iload_n 3, [], []), (32, .iaload, [], []), (33, .if_icmp .eq 5, [38], []), (36, .iconst 0, [], []), (37, .ireturn, [1], []), (38, .iinc 3 1, [], []), (41, .goto (-35), [6], []), (44, .iconst 1, [], [0, 1, 2, 3]), (45, .ireturn, [1], [])]
set_option maxRecDepth 100000 in
def wb_k_M_wiseOf : List wb_E := [(0, .iconst 0, [], []), (1, .istore_n 3, [], []), (2, .iconst 0, [], []), (3, .istore 4, [], []), (5, .iload 4, [], []), (7, .aload_n 0, [], []), (8, .invokevirtual 322, [194, 1, 1, 11, 1629, 1632, 134, 1631, 81, 0], []), (11, .if_icmp .ge 72, [83], []), (14, .aload_n 0, [], []), (15, .getfield 119, [11, 52, 2, 1329, 1], []), (18, .iload 4, [], []), (20, .iaload, [], []), (21, .ifCond .eq 56, [77], []), (24, .aload_n 0, [], []), (25, .iload_n 1, [], []), (26, .iload 4, [], []), (28, .invokevirtual 342, [196, 3, 1, 11, 1645, 1648, 134, 1647, 85, 0], []), (31, .iload_n 2, [], []), (32, .if_icmp .ne 45, [77], []), (35, .aload_n 0, [], []), (36, .iload_n 1, [], []), (37, .iload 4, [], []), (39, .invokevirtual 346, [203, 3, 1, 11, 1677, 1680, 134, 1679, 93, 0], []), (42, .ifCond .ne 6, [48], []), (45, .goto 32, [77], []), (48, .iload_n 3, [], []), (49, .iload 4, [], []), (51, .iconst 1, [], []), (52, .iand, [], []), (53, .iconst 1, [], []), (54, .if_icmp .ne 13, [67], []), (57, .aload_n 0, [], []), (58, .getfield 119, [11, 52, 2, 1329, 1], []), (61, .iload 4, [], []), (63, .iaload, [], []), (64, .goto 11, [75], []), (67, .aload_n 0, [], [3]), (68, .getfield 119, [11, 52, 2, 1329, 1], []), (71, .iload 4, [], []), (73, .iaload, [], []), (74, .ineg, [], []), (75, .iadd, [], [3]), (76, .istore_n 3, [], []), (77, .iinc 4 1, [], []), (80, .goto (-75), [5], []), (83, .iload_n 3, [], [1, 4]), (84, .ifCond .ne 11, [95], []), (87, .aload_n 0, [], []), (88, .iload_n 2, [], []), (89, .invokevirtual 332, [197, 2, 1, 11, 1653, 1656, 134, 1655, 87, 0], []), (92, .goto 12, [104], []), (95, .iload_n 3, [], [0, 1, 2, 4]), (96, .ifCond .le 7, [103], []), (99, .iconst 1, [], []), (100, .goto 4, [104], []), (103, .iconst 0, [], [0, 1, 2, 3, 4]), (104, .ireturn, [0], [0, 1, 2, 3, 4])]
set_option maxRecDepth 100000 in
def wb_k_M_putOf : List wb_E := [(0, .aload_n 0, [], []), (1, .iload_n 1, [], []), (2, .invokevirtual 349, [192, 2, 1, 11, 1609, 1612, 134, 1611, 78, 0], []), (5, .tableswitch 95 0 5 #[39, 45, 52, 60, 86, 93], [39, 100, 44, 50, 57, 65, 91, 98], []), (44, .aload_n 0, [], [1]), (45, .iload_n 2, [], []), (46, .invokevirtual 332, [197, 2, 1, 11, 1653, 1656, 134, 1655, 87, 0], []), (49, .ireturn, [0], []), (50, .aload_n 0, [], []), (51, .iload_n 1, [], []), (52, .iload_n 2, [], []), (53, .invokevirtual 352, [198, 3, 1, 11, 1657, 1660, 134, 1659, 88, 0], []), (56, .ireturn, [0], []), (57, .aload_n 0, [], []), (58, .iconst 0, [], []), (59, .iload_n 1, [], []), (60, .iload_n 2, [], []), (61, .invokevirtual 356, [201, 4, 1, 11, 1669, 1672, 134, 1671, 91, 0], []), (64, .ireturn, [0], []), (65, .aload_n 0, [], []), (66, .aload_n 0, [], []), (67, .getfield 113, [11, 48, 2, 1325, 1], []), (70, .aload_n 0, [], []), (71, .getfield 55, [11, 25, 2, 1302, 1], []), (74, .bipush 6, [], []), (76, .aload_n 0, [], []), (77, .getfield 236, [11, 18, 0, 1295, 0], []), (80, .imul, [], []), (81, .iload_n 1, [], []), (82, .iadd, [], []), (83, .iaload, [], []), (84, .iaload, [], []), (85, .iload_n 1, [], []), (86, .iload_n 2, [], []), (87, .invokevirtual 356, [201, 4, 1, 11, 1669, 1672, 134, 1671, 91, 0], []), (90, .ireturn, [0], []), (91, .aload_n 0, [], []), (92, .iload_n 1, [], []), (93, .iload_n 2, [], []), (94, .invokevirtual 360, [204, 3, 1, 11, 1673, 1676, 134, 1675, 92, 0], []), (97, .ireturn, [0], []), (98, .iconst 2, [], [0, 1, 2]), (99, .ireturn, [0], []), (100, .aload_n 0, [], []), (101, .iload_n 1, [], []), (102, .iload_n 2, [], []), (103, .invokevirtual 363, [202, 3, 1, 11, 1681, 1684, 134, 1683, 94, 0], []), (106, .ireturn, [0], [])]
set_option maxRecDepth 100000 in
def wb_k_M_aheadIn : List wb_E := [(0, .iconst 0, [], []), (1, .istore_n 2, [], []), (2, .iload_n 2, [], []), (3, .bipush 6, [], []), (5, .if_icmp .ge 26, [31], []), (8, .aload_n 0, [], []), (9, .getfield 122, [11, 53, 2, 1330, 1], []), (12, .iload_n 2, [], []), (13, .aload_n 0, [], []), (14, .getfield 116, [11, 51, 2, 1328, 1], []), (17, .bipush 6, [], []), (19, .iload_n 1, [], []), (20, .imul, [], []), (21, .iload_n 2, [], []), (22, .iadd, [], []), (23, .iaload, [], []), (24, .iastore, [], []), (25, .iinc 2 1, [], []), (28, .goto (-26), [2], []), (31, .return_, [0], [0, 1, 2])]
set_option maxRecDepth 100000 in
def wb_k_M_rights : List wb_E := [(0, .iconst 0, [], []), (1, .istore_n 2, [], []), (2, .iload_n 2, [], [3]), (3, .aload_n 0, [], []), (4, .invokevirtual 322, [194, 1, 1, 11, 1629, 1632, 134, 1631, 81, 0], []), (7, .if_icmp .ge 36, [43], []), (10, .iconst 0, [], []), (11, .istore_n 3, [], []), (12, .iload_n 3, [], []), (13, .iload_n 1, [], []), (14, .if_icmp .ge 23, [37], []), (17, .aload_n 0, [], []), (18, .getfield 116, [11, 51, 2, 1328, 1], []), (21, .bipush 6, [], []), (23, .iload_n 2, [], []), (24, .imul, [], []), (25, .iload_n 3, [], []), (26, .iadd, [], []), (27, .iload_n 2, [], []), (28, .iconst 1, [], []), (29, .iand, [], []), (30, .iastore, [], []), (31, .iinc 3 1, [], []), (34, .goto (-22), [12], []), (37, .iinc 2 1, [], [3]), (40, .goto (-38), [2], []), (43, .return_, [0], [0, 1, 2, 3])]
set_option maxRecDepth 100000 in
def wb_k_M_fillsOut : List wb_E := [(0, .aload_n 0, [], []), (1, .invokevirtual 366, [195, 1, 0, 11, 1625, 1628, 134, 1627, 80, 0], []), (4, .iconst 0, [], []), (5, .istore_n 1, [], []), (6, .iload_n 1, [], [2, 3]), (7, .sipush 768, [], []), (10, .if_icmp .ge 16, [26], []), (13, .aload_n 0, [], []), (14, .getfield 116, [11, 51, 2, 1328, 1], []), (17, .iload_n 1, [], []), (18, .iconst 0, [], []), (19, .iastore, [], []), (20, .iinc 1 1, [], []), (23, .goto (-17), [6], []), (26, .iconst 0, [], [1, 2, 3]), (27, .istore_n 1, [], []), (28, .iload_n 1, [], [2, 3]), (29, .aload_n 0, [], []), (30, .getfield 43, [11, 21, 2, 1298, 1], []), (33, .aload_n 0, [], []), (34, .getfield 236, [11, 18, 0, 1295, 0], []), (37, .iaload, [], []), (38, .if_icmp .ge 71, [109], []), (41, .iload_n 1, [], []), (42, .aload_n 0, [], []), (43, .getfield 316, [11, 50, 0, 1327, 0], []), (46, .if_icmp .ne 8, [54], []), (49, .aload_n 0, [], []), (50, .iload_n 1, [], []), (51, .invokevirtual 369, [207, 2, 0, 11, 1633, 1636, 134, 1635, 82, 0], []), (54, .aload_n 0, [], [2, 3]), (55, .iload_n 1, [], []), (56, .invokevirtual 372, [193, 2, 1, 11, 1637, 1640, 134, 1639, 83, 0], []), (59, .istore_n 2, [], []), (60, .iconst 0, [], []), (61, .istore_n 3, [], []), (62, .iload_n 3, [], []), (63, .aload_n 0, [], []), (64, .invokevirtual 322, [194, 1, 1, 11, 1629, 1632, 134, 1631, 81, 0], []), (67, .if_icmp .ge 36, [103], []), (70, .aload_n 0, [], []), (71, .iload_n 3, [], []), (72, .invokevirtual 375, [206, 2, 0, 11, 1641, 1644, 134, 1643, 84, 0], []), (75, .aload_n 0, [], []), (76, .getfield 116, [11, 51, 2, 1328, 1], []), (79, .bipush 6, [], []), (81, .iload_n 3, [], []), (82, .imul, [], []), (83, .iload_n 1, [], []), (84, .iadd, [], []), (85, .aload_n 0, [], []), (86, .iload_n 2, [], []), (87, .aload_n 0, [], []), (88, .iload_n 2, [], []), (89, .iload_n 3, [], []), (90, .invokevirtual 342, [196, 3, 1, 11, 1645, 1648, 134, 1647, 85, 0], []), (93, .invokevirtual 378, [205, 3, 1, 11, 1649, 1652, 134, 1651, 86, 0], []), (96, .iastore, [], []), (97, .iinc 3 1, [], []), (100, .goto (-38), [62], []), (103, .iinc 1 1, [], [2, 3]), (106, .goto (-78), [28], []), (109, .aload_n 0, [], [1, 2, 3]), (110, .getfield 316, [11, 50, 0, 1327, 0], []), (113, .aload_n 0, [], []), (114, .getfield 43, [11, 21, 2, 1298, 1], []), (117, .aload_n 0, [], []), (118, .getfield 236, [11, 18, 0, 1295, 0], []), (121, .iaload, [], []), (122, .if_icmp .ne 11, [133], []), (125, .aload_n 0, [], []), (126, .aload_n 0, [], []), (127, .getfield 316, [11, 50, 0, 1327, 0], []), (130, .invokevirtual 369, [207, 2, 0, 11, 1633, 1636, 134, 1635, 82, 0], []), (133, .return_, [0], [0, 1, 2, 3])]
set_option maxRecDepth 100000 in
def wb_k_M_isWrongIn : List wb_E := [(0, .aload_n 0, [], []), (1, .getfield 116, [11, 51, 2, 1328, 1], []), (4, .bipush 6, [], []), (6, .iload_n 2, [], []), (7, .imul, [], []), (8, .aload_n 0, [], []), (9, .getfield 113, [11, 48, 2, 1325, 1], []), (12, .iload_n 1, [], []), (13, .iaload, [], []), (14, .iadd, [], []), (15, .iaload, [], []), (16, .istore_n 3, [], []), (17, .iload_n 3, [], []), (18, .iconst 2, [], []), (19, .if_icmp .ge 14, [33], []), (22, .iload_n 3, [], []), (23, .iload_n 2, [], []), (24, .iconst 1, [], []), (25, .iand, [], []), (26, .if_icmp .eq 7, [33], []), (29, .iconst 1, [], []), (30, .goto 4, [34], []), (33, .iconst 0, [], [0, 1, 2, 3]), (34, .ireturn, [1], [0, 1, 2, 3])]
set_option maxRecDepth 100000 in
def wb_k_M_wrongIn : List wb_E := [(0, .iconst 0, [], []), (1, .istore_n 2, [], []), (2, .iconst 0, [], []), (3, .istore_n 3, [], []), (4, .iload_n 3, [], []), (5, .aload_n 0, [], []), (6, .getfield 43, [11, 21, 2, 1298, 1], []), (9, .aload_n 0, [], []), (10, .getfield 236, [11, 18, 0, 1295, 0], []), (13, .iaload, [], []), (14, .if_icmp .ge 21, [35], []), (17, .aload_n 0, [], []), (18, .iload_n 3, [], []), (19, .iload_n 1, [], []), (20, .invokevirtual 381, [209, 3, 1, 11, 1709, 1712, 134, 1711, 100, 0], []), (23, .ifCond .eq 6, [29], []), (26, .iinc 2 1, [], []), (29, .iinc 3 1, [], []), (32, .goto (-28), [4], []), (35, .iload_n 2, [], [0, 1, 3]), (36, .ireturn, [0], [])]
set_option maxRecDepth 100000 in
def wb_k_M_allWeight : List wb_E := [(0, .bipush 10, [], []), (2, .istore_n 1, [], []), (3, .iconst 0, [], []), (4, .istore_n 2, [], []), (5, .iload_n 2, [], []), (6, .aload_n 0, [], []), (7, .getfield 43, [11, 21, 2, 1298, 1], []), (10, .aload_n 0, [], []), (11, .getfield 236, [11, 18, 0, 1295, 0], []), (14, .iaload, [], []), (15, .if_icmp .ge 14, [29], []), (18, .iload_n 1, [], []), (19, .bipush 10, [], []), (21, .imul, [], []), (22, .istore_n 1, [], []), (23, .iinc 2 1, [], []), (26, .goto (-21), [5], []), (29, .iload_n 1, [], [0, 2]), (30, .ireturn, [0], [])]
set_option maxRecDepth 100000 in
def wb_k_M_chanceOf : List wb_E := [(0, .iconst 0, [], []), (1, .istore_n 2, [], []), (2, .iconst 0, [], []), (3, .istore_n 3, [], []), (4, .iload_n 3, [], []), (5, .aload_n 0, [], []), (6, .invokevirtual 322, [194, 1, 1, 11, 1629, 1632, 134, 1631, 81, 0], []), (9, .if_icmp .ge 27, [36], []), (12, .aload_n 0, [], []), (13, .iload_n 1, [], []), (14, .iload_n 3, [], []), (15, .invokevirtual 381, [209, 3, 1, 11, 1709, 1712, 134, 1711, 100, 0], []), (18, .ifCond .eq 12, [30], []), (21, .iload_n 2, [], []), (22, .aload_n 0, [], []), (23, .getfield 119, [11, 52, 2, 1329, 1], []), (26, .iload_n 3, [], []), (27, .iaload, [], []), (28, .iadd, [], []), (29, .istore_n 2, [], []), (30, .iinc 3 1, [], []), (33, .goto (-29), [4], []), (36, .iload_n 2, [], [0, 1, 3]), (37, .ireturn, [0], [])]
set_option maxRecDepth 100000 in
def wb_k_M_meanNow : List wb_E := [(0, .aload_n 0, [], []), (1, .invokevirtual 384, [208, 1, 0, 11, 1621, 1624, 134, 1623, 79, 0], []), (4, .iconst 0, [], []), (5, .istore_n 1, [], []), (6, .iconst 0, [], []), (7, .istore_n 2, [], []), (8, .iload_n 2, [], []), (9, .aload_n 0, [], []), (10, .invokevirtual 322, [194, 1, 1, 11, 1629, 1632, 134, 1631, 81, 0], []), (13, .if_icmp .ge 24, [37], []), (16, .iload_n 1, [], []), (17, .aload_n 0, [], []), (18, .getfield 119, [11, 52, 2, 1329, 1], []), (21, .iload_n 2, [], []), (22, .iaload, [], []), (23, .aload_n 0, [], []), (24, .iload_n 2, [], []), (25, .invokevirtual 387, [210, 2, 1, 11, 1705, 1708, 134, 1707, 99, 0], []), (28, .imul, [], []), (29, .iadd, [], []), (30, .istore_n 1, [], []), (31, .iinc 2 1, [], []), (34, .goto (-26), [8], []), (37, .iload_n 1, [], [0, 2]), (38, .ireturn, [0], [])]
set_option maxRecDepth 100000 in
def wb_k_M_common : List wb_E := [(0, .iload_n 0, [], []), (1, .ifCond .ge 8, [9], []), (4, .iload_n 0, [], []), (5, .ineg, [], []), (6, .goto 4, [10], []), (9, .iload_n 0, [], [2, 3, 4]), (10, .istore_n 2, [], [0, 2, 3, 4]), (11, .iload_n 1, [], []), (12, .istore_n 3, [], []), (13, .iload_n 3, [], [0, 1, 4]), (14, .ifCond .eq 16, [30], []), (17, .iload_n 2, [], []), (18, .iload_n 3, [], []), (19, .irem, [], []), (20, .istore 4, [], []), (22, .iload_n 3, [], []), (23, .istore_n 2, [], []), (24, .iload 4, [], []), (26, .istore_n 3, [], []), (27, .goto (-14), [13], []), (30, .iload_n 2, [], [0, 1, 3, 4]), (31, .ireturn, [0], [])]
set_option maxRecDepth 100000 in
def wb_k_M_lineOf : List wb_E := [(0, .iload_n 0, [], []), (1, .iload_n 1, [], []), (2, .invokestatic 390, [214, 2, 1, 200, 1767, 1769, 134, 1768, 0, 0], []), (5, .istore_n 3, [], []), (6, .iload_n 2, [], []), (7, .ifCond .eq 7, [14], []), (10, .iload_n 1, [], []), (11, .goto 4, [15], []), (14, .iload_n 0, [], [1, 2]), (15, .iload_n 3, [], [0, 1, 2]), (16, .idiv, [], []), (17, .ireturn, [0], [])]
set_option maxRecDepth 100000 in
def wb_k_M_mixed : List wb_E := [(0, .iload_n 0, [], []), (1, .iload_n 1, [], []), (2, .ixor, [], []), (3, .ldc_w 393, [0, 1103515245, 1704], []), (6, .imul, [], []), (7, .sipush 12345, [], []), (10, .iadd, [], []), (11, .istore_n 2, [], []), (12, .iload_n 2, [], []), (13, .iload_n 2, [], []), (14, .bipush 15, [], []), (16, .iushr, [], []), (17, .ixor, [], []), (18, .ireturn, [0], [])]
set_option maxRecDepth 100000 in
def wb_k_M_lotOf : List wb_E := [(0, .aload_n 0, [], []), (1, .getfield 313, [11, 49, 0, 1326, 0], []), (4, .bipush 53, [], []), (6, .invokestatic 394, [216, 2, 1, 200, 1701, 1703, 134, 1702, 0, 0], []), (9, .iload_n 1, [], []), (10, .invokestatic 394, [216, 2, 1, 200, 1701, 1703, 134, 1702, 0, 0], []), (13, .iconst 1, [], []), (14, .iushr, [], []), (15, .bipush 10, [], []), (17, .irem, [], []), (18, .ireturn, [0], [])]
set_option maxRecDepth 100000 in
def wb_k_M_worldNow : List wb_E := [(0, .aload_n 0, [], []), (1, .bipush 16, [], []), (3, .aload_n 0, [], []), (4, .getfield 113, [11, 48, 2, 1325, 1], []), (7, .bipush 13, [], []), (9, .iaload, [], []), (10, .imul, [], []), (11, .invokevirtual 397, [217, 2, 1, 11, 1697, 1700, 134, 1699, 98, 0], []), (14, .aload_n 0, [], []), (15, .getfield 64, [11, 28, 2, 1305, 1], []), (18, .aload_n 0, [], []), (19, .getfield 236, [11, 18, 0, 1295, 0], []), (22, .iaload, [], []), (23, .if_icmp .ge 7, [30], []), (26, .iconst 1, [], []), (27, .goto 4, [31], []), (30, .iconst 0, [], [1, 2]), (31, .istore_n 1, [], [1, 2]), (32, .iconst 0, [], []), (33, .istore_n 2, [], []), (34, .iload_n 2, [], []), (35, .aload_n 0, [], []), (36, .getfield 43, [11, 21, 2, 1298, 1], []), (39, .aload_n 0, [], []), (40, .getfield 236, [11, 18, 0, 1295, 0], []), (43, .iaload, [], []), (44, .if_icmp .ge 41, [85], []), (47, .aload_n 0, [], []), (48, .bipush 16, [], []), (50, .aload_n 0, [], []), (51, .getfield 113, [11, 48, 2, 1325, 1], []), (54, .bipush 13, [], []), (56, .iaload, [], []), (57, .imul, [], []), (58, .iconst 1, [], []), (59, .iadd, [], []), (60, .iload_n 2, [], []), (61, .iadd, [], []), (62, .invokevirtual 397, [217, 2, 1, 11, 1697, 1700, 134, 1699, 98, 0], []), (65, .aload_n 0, [], []), (66, .iload_n 2, [], []), (67, .invokevirtual 326, [191, 2, 1, 11, 1601, 1604, 134, 1603, 76, 0], []), (70, .if_icmp .ge 9, [79], []), (73, .iload_n 1, [], []), (74, .iconst 2, [], []), (75, .iload_n 2, [], []), (76, .ishl, [], []), (77, .ior, [], []), (78, .istore_n 1, [], []), (79, .iinc 2 1, [], []), (82, .goto (-48), [34], []), (85, .iload_n 1, [], [0, 2]), (86, .ireturn, [0], [])]
set_option maxRecDepth 100000 in
def wb_k_M_nightGoes : List wb_E := [(0, .aload_n 0, [], []), (1, .invokevirtual 400, [218, 1, 1, 11, 1693, 1696, 134, 1695, 97, 0], []), (4, .istore_n 1, [], []), (5, .aload_n 0, [], []), (6, .getfield 113, [11, 48, 2, 1325, 1], []), (9, .bipush 16, [], []), (11, .iconst 1, [], []), (12, .iastore, [], []), (13, .aload_n 0, [], []), (14, .getfield 113, [11, 48, 2, 1325, 1], []), (17, .bipush 17, [], []), (19, .iload_n 1, [], []), (20, .iconst 1, [], []), (21, .iand, [], []), (22, .iastore, [], []), (23, .aload_n 0, [], []), (24, .getfield 113, [11, 48, 2, 1325, 1], []), (27, .bipush 18, [], []), (29, .aload_n 0, [], []), (30, .iload_n 1, [], []), (31, .invokevirtual 387, [210, 2, 1, 11, 1705, 1708, 134, 1707, 99, 0], []), (34, .iastore, [], []), (35, .aload_n 0, [], []), (36, .getfield 113, [11, 48, 2, 1325, 1], []), (39, .bipush 19, [], []), (41, .iconst 0, [], []), (42, .iastore, [], []), (43, .iconst 0, [], []), (44, .istore_n 2, [], []), (45, .iload_n 2, [], [3]), (46, .aload_n 0, [], []), (47, .getfield 43, [11, 21, 2, 1298, 1], []), (50, .aload_n 0, [], []), (51, .getfield 236, [11, 18, 0, 1295, 0], []), (54, .iaload, [], []), (55, .if_icmp .ge 123, [178], []), (58, .aload_n 0, [], []), (59, .getfield 116, [11, 51, 2, 1328, 1], []), (62, .bipush 6, [], []), (64, .iload_n 1, [], []), (65, .imul, [], []), (66, .aload_n 0, [], []), (67, .getfield 113, [11, 48, 2, 1325, 1], []), (70, .iload_n 2, [], []), (71, .iaload, [], []), (72, .iadd, [], []), (73, .iaload, [], []), (74, .istore_n 3, [], []), (75, .aload_n 0, [], []), (76, .getfield 113, [11, 48, 2, 1325, 1], []), (79, .bipush 20, [], []), (81, .iload_n 2, [], []), (82, .iadd, [], []), (83, .iload_n 3, [], []), (84, .iastore, [], []), (85, .aload_n 0, [], []), (86, .getfield 113, [11, 48, 2, 1325, 1], []), (89, .bipush 26, [], []), (91, .iload_n 2, [], []), (92, .iadd, [], []), (93, .aload_n 0, [], []), (94, .aload_n 0, [], []), (95, .iload_n 2, [], []), (96, .iload_n 1, [], []), (97, .invokevirtual 342, [196, 3, 1, 11, 1645, 1648, 134, 1647, 85, 0], []), (100, .invokevirtual 332, [197, 2, 1, 11, 1653, 1656, 134, 1655, 87, 0], []), (103, .iastore, [], []), (104, .iload_n 3, [], []), (105, .iconst 2, [], []), (106, .if_icmp .ne 22, [128], []), (109, .aload_n 0, [], []), (110, .getfield 113, [11, 48, 2, 1325, 1], []), (113, .bipush 19, [], []), (115, .dup2, [], []), (116, .iaload, [], []), (117, .aload_n 0, [], []), (118, .getfield 70, [11, 30, 2, 1307, 1], []), (121, .aload_n 0, [], []), (122, .getfield 236, [11, 18, 0, 1295, 0], []), (125, .iaload, [], []), (126, .iadd, [], []), (127, .iastore, [], []), (128, .aload_n 0, [], [3]), (129, .iload_n 2, [], []), (130, .iload_n 1, [], []), (131, .invokevirtual 381, [209, 3, 1, 11, 1709, 1712, 134, 1711, 100, 0], []), (134, .ifCond .ne 6, [140], []), (137, .goto 35, [172], []), (140, .aload_n 0, [], [3]), (141, .getfield 113, [11, 48, 2, 1325, 1], []), (144, .bipush 19, [], []), (146, .dup2, [], []), (147, .iaload, [], []), (148, .aload_n 0, [], []), (149, .getfield 67, [11, 29, 2, 1306, 1], []), (152, .aload_n 0, [], []), (153, .getfield 236, [11, 18, 0, 1295, 0], []), (156, .iaload, [], []), (157, .iadd, [], []), (158, .iastore, [], []), (159, .aload_n 0, [], []), (160, .getfield 113, [11, 48, 2, 1325, 1], []), (163, .bipush 32, [], []), (165, .iload_n 2, [], []), (166, .iadd, [], []), (167, .dup2, [], []), (168, .iaload, [], []), (169, .iconst 1, [], []), (170, .iadd, [], []), (171, .iastore, [], []), (172, .iinc 2 1, [], [3]), (175, .goto (-130), [45], []), (178, .aload_n 0, [], [1, 2, 3]), (179, .getfield 113, [11, 48, 2, 1325, 1], []), (182, .bipush 14, [], []), (184, .dup2, [], []), (185, .iaload, [], []), (186, .aload_n 0, [], []), (187, .getfield 113, [11, 48, 2, 1325, 1], []), (190, .bipush 19, [], []), (192, .iaload, [], []), (193, .iadd, [], []), (194, .iastore, [], []), (195, .aload_n 0, [], []), (196, .getfield 113, [11, 48, 2, 1325, 1], []), (199, .bipush 15, [], []), (201, .dup2, [], []), (202, .iaload, [], []), (203, .aload_n 0, [], []), (204, .getfield 113, [11, 48, 2, 1325, 1], []), (207, .bipush 18, [], []), (209, .iaload, [], []), (210, .iadd, [], []), (211, .iastore, [], []), (212, .aload_n 0, [], []), (213, .getfield 113, [11, 48, 2, 1325, 1], []), (216, .bipush 13, [], []), (218, .dup2, [], []), (219, .iaload, [], []), (220, .iconst 1, [], []), (221, .iadd, [], []), (222, .iastore, [], []), (223, .return_, [0], [])]
set_option maxRecDepth 100000 in
def wb_k_M_house : List wb_E := [(0, .aload_n 0, [], []), (1, .iload_n 1, [], []), (2, .invokevirtual 403, [185, 2, 1, 11, 1590, 1593, 134, 1592, 74, 0], []), (5, .ifCond .ne 5, [10], []), (8, .iconst (-1), [], []), (9, .ireturn, [0], []), (10, .aload_n 0, [], []), (11, .invokevirtual 406, [189, 1, 0, 11, 1597, 1600, 134, 1599, 75, 0], []), (14, .iload_n 2, [], []), (15, .tableswitch 104 0 6 #[41, 48, 54, 60, 74, 84, 94], [41, 119, 56, 63, 69, 75, 89, 99, 109], []), (56, .aload_n 0, [], [2]), (57, .getfield 113, [11, 48, 2, 1325, 1], []), (60, .iload_n 1, [], []), (61, .iaload, [], []), (62, .ireturn, [0], []), (63, .aload_n 0, [], [2]), (64, .iload_n 1, [], []), (65, .invokevirtual 326, [191, 2, 1, 11, 1601, 1604, 134, 1603, 76, 0], []), (68, .ireturn, [0], []), (69, .aload_n 0, [], [2]), (70, .iload_n 1, [], []), (71, .invokevirtual 349, [192, 2, 1, 11, 1609, 1612, 134, 1611, 78, 0], []), (74, .ireturn, [0], []), (75, .aload_n 0, [], [2]), (76, .iload_n 1, [], []), (77, .invokevirtual 319, [190, 2, 1, 11, 1605, 1608, 134, 1607, 77, 0], []), (80, .ifCond .eq 7, [87], []), (83, .iconst 1, [], []), (84, .goto 4, [88], []), (87, .iconst 0, [], [0, 1, 2]), (88, .ireturn, [0], [0, 1, 2]), (89, .aload_n 0, [], [2]), (90, .getfield 113, [11, 48, 2, 1325, 1], []), (93, .bipush 20, [], []), (95, .iload_n 1, [], []), (96, .iadd, [], []), (97, .iaload, [], []), (98, .ireturn, [0], []), (99, .aload_n 0, [], [2]), (100, .getfield 113, [11, 48, 2, 1325, 1], []), (103, .bipush 26, [], []), (105, .iload_n 1, [], []), (106, .iadd, [], []), (107, .iaload, [], []), (108, .ireturn, [0], []), (109, .aload_n 0, [], [2]), (110, .getfield 113, [11, 48, 2, 1325, 1], []), (113, .bipush 32, [], []), (115, .iload_n 1, [], []), (116, .iadd, [], []), (117, .iaload, [], []), (118, .ireturn, [0], []), (119, .iconst (-1), [], [0, 1, 2]), (120, .ireturn, [0], [])]
set_option maxRecDepth 100000 in
def wb_k_M_night : List wb_E := [(0, .iload_n 1, [], []), (1, .iconst 0, [], []), (2, .iconst 2, [], []), (3, .invokestatic 306, [183, 3, 1, 200, 1594, 1596, 134, 1595, 0, 0], []), (6, .ifCond .ne 5, [11], []), (9, .iconst (-1), [], []), (10, .ireturn, [0], []), (11, .aload_n 0, [], []), (12, .getfield 110, [11, 47, 2, 1324, 1], []), (15, .bipush 16, [], []), (17, .iaload, [], []), (18, .ifCond .ne 8, [26], []), (21, .bipush (-2), [], []), (23, .goto 12, [35], []), (26, .aload_n 0, [], []), (27, .getfield 110, [11, 47, 2, 1324, 1], []), (30, .bipush 17, [], []), (32, .iload_n 1, [], []), (33, .iadd, [], []), (34, .iaload, [], []), (35, .ireturn, [0], [0, 1])]
set_option maxRecDepth 100000 in
def wb_k_M_keeps : List wb_E := [(0, .aload_n 0, [], []), (1, .getfield 251, [11, 54, 0, 1331, 0], []), (4, .bipush 40, [], []), (6, .if_icmp .ne 43, [49], []), (9, .iconst 0, [], []), (10, .istore_n 1, [], []), (11, .iload_n 1, [], []), (12, .sipush 1872, [], []), (15, .if_icmp .ge 24, [39], []), (18, .aload_n 0, [], []), (19, .getfield 125, [11, 55, 2, 1332, 1], []), (22, .iload_n 1, [], []), (23, .aload_n 0, [], []), (24, .getfield 125, [11, 55, 2, 1332, 1], []), (27, .iload_n 1, [], []), (28, .bipush 48, [], []), (30, .iadd, [], []), (31, .iaload, [], []), (32, .iastore, [], []), (33, .iinc 1 1, [], []), (36, .goto (-25), [11], []), (39, .aload_n 0, [], [1]), (40, .dup, [], []), (41, .getfield 251, [11, 54, 0, 1331, 0], []), (44, .iconst 1, [], []), (45, .isub, [], []), (46, .putfield 251, [11, 54, 0, 1331, 0], []), (49, .iconst 0, [], [1]), (50, .istore_n 1, [], []), (51, .iload_n 1, [], []), (52, .bipush 48, [], []), (54, .if_icmp .ge 29, [83], []), (57, .aload_n 0, [], []), (58, .getfield 125, [11, 55, 2, 1332, 1], []), (61, .bipush 48, [], []), (63, .aload_n 0, [], []), (64, .getfield 251, [11, 54, 0, 1331, 0], []), (67, .imul, [], []), (68, .iload_n 1, [], []), (69, .iadd, [], []), (70, .aload_n 0, [], []), (71, .getfield 110, [11, 47, 2, 1324, 1], []), (74, .iload_n 1, [], []), (75, .iaload, [], []), (76, .iastore, [], []), (77, .iinc 1 1, [], []), (80, .goto (-29), [51], []), (83, .aload_n 0, [], [1]), (84, .dup, [], []), (85, .getfield 251, [11, 54, 0, 1331, 0], []), (88, .iconst 1, [], []), (89, .iadd, [], []), (90, .putfield 251, [11, 54, 0, 1331, 0], []), (93, .aload_n 0, [], []), (94, .invokevirtual 166, [188, 1, 0, 11, 1274, 1277, 134, 1276, 51, 0], []), (97, .return_, [0], [])]
set_option maxRecDepth 100000 in
def wb_k_M_nights : List wb_E := [(0, .iload_n 1, [], []), (1, .iconst 0, [], []), (2, .bipush 50, [], []), (4, .invokestatic 306, [183, 3, 1, 200, 1594, 1596, 134, 1595, 0, 0], []), (7, .ifCond .ne 5, [12], []), (10, .iconst (-1), [], []), (11, .ireturn, [0], []), (12, .iload_n 1, [], [2]), (13, .ifCond .ne 11, [24], []), (16, .aload_n 0, [], []), (17, .getfield 110, [11, 47, 2, 1324, 1], []), (20, .bipush 13, [], []), (22, .iaload, [], []), (23, .ireturn, [0], []), (24, .aload_n 0, [], [2]), (25, .invokevirtual 406, [189, 1, 0, 11, 1597, 1600, 134, 1599, 75, 0], []), (28, .aload_n 0, [], []), (29, .invokevirtual 384, [208, 1, 0, 11, 1621, 1624, 134, 1623, 79, 0], []), (32, .iconst 0, [], []), (33, .istore_n 2, [], []), (34, .iload_n 2, [], []), (35, .iload_n 1, [], []), (36, .if_icmp .ge 13, [49], []), (39, .aload_n 0, [], []), (40, .invokevirtual 409, [219, 1, 0, 11, 1689, 1692, 134, 1691, 96, 0], []), (43, .iinc 2 1, [], []), (46, .goto (-12), [34], []), (49, .aload_n 0, [], [1, 2]), (50, .invokevirtual 412, [222, 1, 0, 11, 1713, 1716, 134, 1715, 101, 0], []), (53, .aload_n 0, [], []), (54, .getfield 110, [11, 47, 2, 1324, 1], []), (57, .bipush 13, [], []), (59, .iaload, [], []), (60, .ireturn, [0], [])]
set_option maxRecDepth 100000 in
def wb_k_M_leaflet : List wb_E := [(0, .aload_n 0, [], []), (1, .iload_n 1, [], []), (2, .invokevirtual 403, [185, 2, 1, 11, 1590, 1593, 134, 1592, 74, 0], []), (5, .ifCond .eq 27, [32], []), (8, .aload_n 0, [], []), (9, .getfield 110, [11, 47, 2, 1324, 1], []), (12, .bipush 12, [], []), (14, .iaload, [], []), (15, .iload_n 1, [], []), (16, .ishr, [], []), (17, .iconst 1, [], []), (18, .iand, [], []), (19, .iconst 1, [], []), (20, .if_icmp .ne 7, [27], []), (23, .iconst 1, [], []), (24, .goto 4, [28], []), (27, .iconst 0, [], []), (28, .iload_n 2, [], []), (29, .if_icmp .ne 5, [34], []), (32, .iconst 0, [], [0, 1, 2]), (33, .ireturn, [1], []), (34, .aload_n 0, [], []), (35, .invokevirtual 406, [189, 1, 0, 11, 1597, 1600, 134, 1599, 75, 0], []), (38, .aload_n 0, [], []), (39, .getfield 113, [11, 48, 2, 1325, 1], []), (42, .bipush 12, [], []), (44, .dup2, [], []), (45, .iaload, [], []), (46, .iconst 1, [], []), (47, .iload_n 1, [], []), (48, .ishl, [], []), (49, .ixor, [], []), (50, .iastore, [], []), (51, .iload_n 2, [], []), (52, .ifCond .eq 22, [74], []), (55, .aload_n 0, [], []), (56, .getfield 113, [11, 48, 2, 1325, 1], []), (59, .bipush 14, [], []), (61, .dup2, [], []), (62, .iaload, [], []), (63, .aload_n 0, [], []), (64, .getfield 73, [11, 31, 2, 1308, 1], []), (67, .aload_n 0, [], []), (68, .getfield 236, [11, 18, 0, 1295, 0], []), (71, .iaload, [], []), (72, .iadd, [], []), (73, .iastore, [], []), (74, .aload_n 0, [], [1, 2]), (75, .invokevirtual 412, [222, 1, 0, 11, 1713, 1716, 134, 1715, 101, 0], []), (78, .iconst 1, [], []), (79, .ireturn, [1], [])]
set_option maxRecDepth 100000 in
def wb_k_M_swaps : List wb_E := [(0, .aload_n 0, [], []), (1, .getfield 113, [11, 48, 2, 1325, 1], []), (4, .iload_n 1, [], []), (5, .iaload, [], []), (6, .istore_n 3, [], []), (7, .aload_n 0, [], []), (8, .getfield 113, [11, 48, 2, 1325, 1], []), (11, .iload_n 1, [], []), (12, .aload_n 0, [], []), (13, .getfield 113, [11, 48, 2, 1325, 1], []), (16, .iload_n 2, [], []), (17, .iaload, [], []), (18, .iastore, [], []), (19, .aload_n 0, [], []), (20, .getfield 113, [11, 48, 2, 1325, 1], []), (23, .iload_n 2, [], []), (24, .iload_n 3, [], []), (25, .iastore, [], []), (26, .return_, [0], [])]
set_option maxRecDepth 100000 in
def wb_k_M_swap : List wb_E := [(0, .aload_n 0, [], []), (1, .iload_n 1, [], []), (2, .invokevirtual 403, [185, 2, 1, 11, 1590, 1593, 134, 1592, 74, 0], []), (5, .ifCond .eq 16, [21], []), (8, .aload_n 0, [], []), (9, .iload_n 2, [], []), (10, .invokevirtual 403, [185, 2, 1, 11, 1590, 1593, 134, 1592, 74, 0], []), (13, .ifCond .eq 8, [21], []), (16, .iload_n 1, [], []), (17, .iload_n 2, [], []), (18, .if_icmp .ne 5, [23], []), (21, .iconst 0, [], [0, 1, 2]), (22, .ireturn, [1], []), (23, .aload_n 0, [], []), (24, .invokevirtual 406, [189, 1, 0, 11, 1597, 1600, 134, 1599, 75, 0], []), (27, .aload_n 0, [], []), (28, .iload_n 1, [], []), (29, .iload_n 2, [], []), (30, .invokevirtual 415, [225, 3, 0, 11, 1725, 1728, 134, 1727, 102, 0], []), (33, .aload_n 0, [], []), (34, .invokevirtual 412, [222, 1, 0, 11, 1713, 1716, 134, 1715, 101, 0], []), (37, .iconst 1, [], []), (38, .ireturn, [1], [])]
set_option maxRecDepth 100000 in
def wb_k_M_habit : List wb_E := [(0, .aload_n 0, [], []), (1, .iload_n 1, [], []), (2, .invokevirtual 403, [185, 2, 1, 11, 1590, 1593, 134, 1592, 74, 0], []), (5, .ifCond .eq 30, [35], []), (8, .iload_n 2, [], []), (9, .iconst (-1), [], []), (10, .iconst 5, [], []), (11, .invokestatic 306, [183, 3, 1, 200, 1594, 1596, 134, 1595, 0, 0], []), (14, .ifCond .eq 21, [35], []), (17, .iload_n 2, [], []), (18, .iconst 3, [], []), (19, .if_icmp .eq 16, [35], []), (22, .aload_n 0, [], []), (23, .getfield 110, [11, 47, 2, 1324, 1], []), (26, .bipush 6, [], []), (28, .iload_n 1, [], []), (29, .iadd, [], []), (30, .iaload, [], []), (31, .iload_n 2, [], []), (32, .if_icmp .ne 5, [37], []), (35, .iconst 0, [], [0, 1, 2]), (36, .ireturn, [1], []), (37, .aload_n 0, [], []), (38, .invokevirtual 406, [189, 1, 0, 11, 1597, 1600, 134, 1599, 75, 0], []), (41, .aload_n 0, [], []), (42, .getfield 113, [11, 48, 2, 1325, 1], []), (45, .bipush 6, [], []), (47, .iload_n 1, [], []), (48, .iadd, [], []), (49, .iload_n 2, [], []), (50, .iastore, [], []), (51, .aload_n 0, [], []), (52, .invokevirtual 412, [222, 1, 0, 11, 1713, 1716, 134, 1715, 101, 0], []), (55, .iconst 1, [], []), (56, .ireturn, [1], [])]
set_option maxRecDepth 100000 in
def wb_k_M_undo : List wb_E := [(0, .aload_n 0, [], []), (1, .getfield 251, [11, 54, 0, 1331, 0], []), (4, .ifCond .ne 5, [9], []), (7, .iconst 0, [], []), (8, .ireturn, [1], []), (9, .aload_n 0, [], [1]), (10, .dup, [], []), (11, .getfield 251, [11, 54, 0, 1331, 0], []), (14, .iconst 1, [], []), (15, .isub, [], []), (16, .putfield 251, [11, 54, 0, 1331, 0], []), (19, .iconst 0, [], []), (20, .istore_n 1, [], []), (21, .iload_n 1, [], []), (22, .bipush 48, [], []), (24, .if_icmp .ge 29, [53], []), (27, .aload_n 0, [], []), (28, .getfield 110, [11, 47, 2, 1324, 1], []), (31, .iload_n 1, [], []), (32, .aload_n 0, [], []), (33, .getfield 125, [11, 55, 2, 1332, 1], []), (36, .bipush 48, [], []), (38, .aload_n 0, [], []), (39, .getfield 251, [11, 54, 0, 1331, 0], []), (42, .imul, [], []), (43, .iload_n 1, [], []), (44, .iadd, [], []), (45, .iaload, [], []), (46, .iastore, [], []), (47, .iinc 1 1, [], []), (50, .goto (-29), [21], []), (53, .iconst 1, [], [0, 1]), (54, .ireturn, [1], [])]
set_option maxRecDepth 100000 in
def wb_k_M_isRow : List wb_E := [(0, .iload_n 0, [], []), (1, .iconst 0, [], []), (2, .sipush 728, [], []), (5, .invokestatic 306, [183, 3, 1, 200, 1594, 1596, 134, 1595, 0, 0], []), (8, .ireturn, [1], [])]
set_option maxRecDepth 100000 in
def wb_k_M_setsAhead : List wb_E := [(0, .iload_n 1, [], []), (1, .istore_n 2, [], []), (2, .iconst 0, [], []), (3, .istore_n 3, [], []), (4, .iload_n 3, [], [1]), (5, .bipush 6, [], []), (7, .if_icmp .ge 22, [29], []), (10, .aload_n 0, [], []), (11, .getfield 122, [11, 53, 2, 1330, 1], []), (14, .iload_n 3, [], []), (15, .iload_n 2, [], []), (16, .iconst 3, [], []), (17, .irem, [], []), (18, .iastore, [], []), (19, .iload_n 2, [], []), (20, .iconst 3, [], []), (21, .idiv, [], []), (22, .istore_n 2, [], []), (23, .iinc 3 1, [], []), (26, .goto (-22), [4], []), (29, .return_, [0], [0, 1, 2, 3])]
set_option maxRecDepth 100000 in
def wb_k_M_lays : List wb_E := [(0, .aload_n 0, [], []), (1, .invokevirtual 406, [189, 1, 0, 11, 1597, 1600, 134, 1599, 75, 0], []), (4, .aload_n 0, [], []), (5, .invokevirtual 384, [208, 1, 0, 11, 1621, 1624, 134, 1623, 79, 0], []), (8, .return_, [0], [])]
set_option maxRecDepth 100000 in
def wb_k_M_puts : List wb_E := [(0, .aload_n 0, [], []), (1, .iload_n 1, [], []), (2, .invokevirtual 403, [185, 2, 1, 11, 1590, 1593, 134, 1592, 74, 0], []), (5, .ifCond .eq 10, [15], []), (8, .iload_n 3, [], []), (9, .invokestatic 418, [229, 1, 1, 200, 1741, 1743, 134, 1742, 0, 0], []), (12, .ifCond .ne 5, [17], []), (15, .iconst (-1), [], [0, 1, 2, 3]), (16, .ireturn, [0], []), (17, .aload_n 0, [], []), (18, .invokevirtual 421, [231, 1, 0, 11, 1744, 1747, 134, 1746, 103, 0], []), (21, .aload_n 0, [], []), (22, .iload_n 3, [], []), (23, .invokevirtual 424, [230, 2, 0, 11, 1748, 1751, 134, 1750, 104, 0], []), (26, .aload_n 0, [], []), (27, .iload_n 1, [], []), (28, .iload_n 2, [], []), (29, .invokevirtual 378, [205, 3, 1, 11, 1649, 1652, 134, 1651, 86, 0], []), (32, .ireturn, [0], [])]
set_option maxRecDepth 100000 in
def wb_k_M_chance : List wb_E := [(0, .aload_n 0, [], []), (1, .iload_n 1, [], []), (2, .invokevirtual 403, [185, 2, 1, 11, 1590, 1593, 134, 1592, 74, 0], []), (5, .ifCond .ne 5, [10], []), (8, .iconst (-1), [], []), (9, .ireturn, [0], []), (10, .aload_n 0, [], []), (11, .invokevirtual 421, [231, 1, 0, 11, 1744, 1747, 134, 1746, 103, 0], []), (14, .aload_n 0, [], []), (15, .iload_n 1, [], []), (16, .invokevirtual 427, [212, 2, 1, 11, 1756, 1759, 134, 1758, 105, 0], []), (19, .aload_n 0, [], []), (20, .invokevirtual 430, [211, 1, 1, 11, 1760, 1763, 134, 1762, 106, 0], []), (23, .iload_n 2, [], []), (24, .invokestatic 433, [215, 3, 1, 200, 1764, 1766, 134, 1765, 0, 0], []), (27, .ireturn, [0], [])]
set_option maxRecDepth 100000 in
def wb_k_M_street : List wb_E := [(0, .iload_n 1, [], []), (1, .iconst 0, [], []), (2, .bipush 6, [], []), (4, .invokestatic 306, [183, 3, 1, 200, 1594, 1596, 134, 1595, 0, 0], []), (7, .ifCond .ne 5, [12], []), (10, .iconst (-1), [], []), (11, .ireturn, [0], []), (12, .aload_n 0, [], [3, 4]), (13, .invokevirtual 421, [231, 1, 0, 11, 1744, 1747, 134, 1746, 103, 0], []), (16, .iconst 0, [], []), (17, .istore_n 3, [], []), (18, .iconst 0, [], []), (19, .istore 4, [], []), (21, .iload 4, [], []), (23, .aload_n 0, [], []), (24, .invokevirtual 322, [194, 1, 1, 11, 1629, 1632, 134, 1631, 81, 0], []), (27, .if_icmp .ge 29, [56], []), (30, .aload_n 0, [], []), (31, .iload 4, [], []), (33, .invokevirtual 387, [210, 2, 1, 11, 1705, 1708, 134, 1707, 99, 0], []), (36, .iload_n 1, [], []), (37, .if_icmp .ne 13, [50], []), (40, .iload_n 3, [], []), (41, .aload_n 0, [], []), (42, .getfield 119, [11, 52, 2, 1329, 1], []), (45, .iload 4, [], []), (47, .iaload, [], []), (48, .iadd, [], []), (49, .istore_n 3, [], []), (50, .iinc 4 1, [], []), (53, .goto (-32), [21], []), (56, .iload_n 3, [], [1, 4]), (57, .aload_n 0, [], []), (58, .invokevirtual 430, [211, 1, 1, 11, 1760, 1763, 134, 1762, 106, 0], []), (61, .iload_n 2, [], []), (62, .invokestatic 433, [215, 3, 1, 200, 1764, 1766, 134, 1765, 0, 0], []), (65, .ireturn, [0], [])]
set_option maxRecDepth 100000 in
def wb_k_M_mean : List wb_E := [(0, .aload_n 0, [], []), (1, .invokevirtual 406, [189, 1, 0, 11, 1597, 1600, 134, 1599, 75, 0], []), (4, .aload_n 0, [], []), (5, .invokevirtual 436, [213, 1, 1, 11, 1778, 1781, 134, 1780, 107, 0], []), (8, .aload_n 0, [], []), (9, .invokevirtual 430, [211, 1, 1, 11, 1760, 1763, 134, 1762, 106, 0], []), (12, .iload_n 1, [], []), (13, .invokestatic 433, [215, 3, 1, 200, 1764, 1766, 134, 1765, 0, 0], []), (16, .ireturn, [0], [])]
set_option maxRecDepth 100000 in
def wb_k_M_pays : List wb_E := [(0, .aload_n 0, [], []), (1, .invokevirtual 421, [231, 1, 0, 11, 1744, 1747, 134, 1746, 103, 0], []), (4, .iconst 0, [], []), (5, .istore_n 2, [], []), (6, .iconst 0, [], []), (7, .istore_n 3, [], []), (8, .iload_n 3, [], [4, 5]), (9, .aload_n 0, [], []), (10, .invokevirtual 322, [194, 1, 1, 11, 1629, 1632, 134, 1631, 81, 0], []), (13, .if_icmp .ge 91, [104], []), (16, .aload_n 0, [], []), (17, .getfield 67, [11, 29, 2, 1306, 1], []), (20, .aload_n 0, [], []), (21, .getfield 236, [11, 18, 0, 1295, 0], []), (24, .iaload, [], []), (25, .aload_n 0, [], []), (26, .iload_n 3, [], []), (27, .invokevirtual 387, [210, 2, 1, 11, 1705, 1708, 134, 1707, 99, 0], []), (30, .imul, [], []), (31, .istore 4, [], []), (33, .iconst 0, [], []), (34, .istore 5, [], []), (36, .iload 5, [], []), (38, .aload_n 0, [], []), (39, .getfield 43, [11, 21, 2, 1298, 1], []), (42, .aload_n 0, [], []), (43, .getfield 236, [11, 18, 0, 1295, 0], []), (46, .iaload, [], []), (47, .if_icmp .ge 39, [86], []), (50, .aload_n 0, [], []), (51, .getfield 116, [11, 51, 2, 1328, 1], []), (54, .bipush 6, [], []), (56, .iload_n 3, [], []), (57, .imul, [], []), (58, .iload 5, [], []), (60, .iadd, [], []), (61, .iaload, [], []), (62, .iconst 2, [], []), (63, .if_icmp .ne 17, [80], []), (66, .iload 4, [], []), (68, .aload_n 0, [], []), (69, .getfield 70, [11, 30, 2, 1307, 1], []), (72, .aload_n 0, [], []), (73, .getfield 236, [11, 18, 0, 1295, 0], []), (76, .iaload, [], []), (77, .iadd, [], []), (78, .istore 4, [], []), (80, .iinc 5 1, [], []), (83, .goto (-47), [36], []), (86, .iload_n 2, [], [5]), (87, .aload_n 0, [], []), (88, .getfield 119, [11, 52, 2, 1329, 1], []), (91, .iload_n 3, [], []), (92, .iaload, [], []), (93, .iload 4, [], []), (95, .imul, [], []), (96, .iadd, [], []), (97, .istore_n 2, [], []), (98, .iinc 3 1, [], []), (101, .goto (-93), [8], []), (104, .iload_n 2, [], [3, 4, 5]), (105, .aload_n 0, [], []), (106, .invokevirtual 430, [211, 1, 1, 11, 1760, 1763, 134, 1762, 106, 0], []), (109, .iload_n 1, [], []), (110, .invokestatic 433, [215, 3, 1, 200, 1764, 1766, 134, 1765, 0, 0], []), (113, .ireturn, [0], [])]
set_option maxRecDepth 100000 in
def wb_k_M_tells : List wb_E := [(0, .iload_n 1, [], []), (1, .invokestatic 418, [229, 1, 1, 200, 1741, 1743, 134, 1742, 0, 0], []), (4, .ifCond .ne 5, [9], []), (7, .iconst (-1), [], []), (8, .ireturn, [0], []), (9, .aload_n 0, [], [3, 4, 5, 6, 7]), (10, .invokevirtual 421, [231, 1, 0, 11, 1744, 1747, 134, 1746, 103, 0], []), (13, .aload_n 0, [], []), (14, .iload_n 1, [], []), (15, .invokevirtual 424, [230, 2, 0, 11, 1748, 1751, 134, 1750, 104, 0], []), (18, .iconst 0, [], []), (19, .istore_n 3, [], []), (20, .iconst 0, [], []), (21, .istore 4, [], []), (23, .iconst 0, [], []), (24, .istore 5, [], []), (26, .iload 5, [], [1, 6, 7]), (28, .aload_n 0, [], []), (29, .invokevirtual 322, [194, 1, 1, 11, 1629, 1632, 134, 1631, 81, 0], []), (32, .if_icmp .ge 99, [131], []), (35, .iconst 1, [], []), (36, .istore 6, [], []), (38, .iconst 0, [], []), (39, .istore 7, [], []), (41, .iload 7, [], [1]), (43, .aload_n 0, [], []), (44, .getfield 43, [11, 21, 2, 1298, 1], []), (47, .aload_n 0, [], []), (48, .getfield 236, [11, 18, 0, 1295, 0], []), (51, .iaload, [], []), (52, .if_icmp .ge 35, [87], []), (55, .aload_n 0, [], []), (56, .getfield 116, [11, 51, 2, 1328, 1], []), (59, .bipush 6, [], []), (61, .iload 5, [], []), (63, .imul, [], []), (64, .iload 7, [], []), (66, .iadd, [], []), (67, .iaload, [], []), (68, .aload_n 0, [], []), (69, .getfield 122, [11, 53, 2, 1330, 1], []), (72, .iload 7, [], []), (74, .iaload, [], []), (75, .if_icmp .eq 6, [81], []), (78, .iconst 0, [], []), (79, .istore 6, [], []), (81, .iinc 7 1, [], [1]), (84, .goto (-43), [41], []), (87, .iload 6, [], [1, 7]), (89, .ifCond .ne 6, [95], []), (92, .goto 33, [125], []), (95, .iload_n 3, [], [1, 6, 7]), (96, .aload_n 0, [], []), (97, .getfield 119, [11, 52, 2, 1329, 1], []), (100, .iload 5, [], []), (102, .iaload, [], []), (103, .iadd, [], []), (104, .istore_n 3, [], []), (105, .iload 5, [], []), (107, .iconst 1, [], []), (108, .iand, [], []), (109, .iconst 1, [], []), (110, .if_icmp .ne 15, [125], []), (113, .iload 4, [], []), (115, .aload_n 0, [], []), (116, .getfield 119, [11, 52, 2, 1329, 1], []), (119, .iload 5, [], []), (121, .iaload, [], []), (122, .iadd, [], []), (123, .istore 4, [], []), (125, .iinc 5 1, [], [1, 6, 7]), (128, .goto (-102), [26], []), (131, .iload_n 3, [], [0, 1, 5, 6, 7]), (132, .ifCond .ne 8, [140], []), (135, .bipush (-2), [], []), (137, .goto 10, [147], []), (140, .iload 4, [], [0, 1, 5, 6, 7]), (142, .iload_n 3, [], []), (143, .iload_n 2, [], []), (144, .invokestatic 433, [215, 3, 1, 200, 1764, 1766, 134, 1765, 0, 0], []), (147, .ireturn, [0], [0, 1, 2, 3, 4, 5, 6, 7])]
set_option maxRecDepth 100000 in
def wb_k_M_herd : List wb_E := [(0, .iload_n 1, [], []), (1, .invokestatic 418, [229, 1, 1, 200, 1741, 1743, 134, 1742, 0, 0], []), (4, .ifCond .ne 5, [9], []), (7, .iconst (-1), [], []), (8, .ireturn, [0], []), (9, .aload_n 0, [], [2]), (10, .invokevirtual 421, [231, 1, 0, 11, 1744, 1747, 134, 1746, 103, 0], []), (13, .aload_n 0, [], []), (14, .iload_n 1, [], []), (15, .invokevirtual 424, [230, 2, 0, 11, 1748, 1751, 134, 1750, 104, 0], []), (18, .aload_n 0, [], []), (19, .getfield 43, [11, 21, 2, 1298, 1], []), (22, .aload_n 0, [], []), (23, .getfield 236, [11, 18, 0, 1295, 0], []), (26, .iaload, [], []), (27, .istore_n 2, [], []), (28, .iload_n 2, [], [1]), (29, .ifCond .le 36, [65], []), (32, .aload_n 0, [], []), (33, .aload_n 0, [], []), (34, .iload_n 2, [], []), (35, .iconst 1, [], []), (36, .isub, [], []), (37, .invokevirtual 372, [193, 2, 1, 11, 1637, 1640, 134, 1639, 83, 0], []), (40, .iconst 1, [], []), (41, .invokevirtual 378, [205, 3, 1, 11, 1649, 1652, 134, 1651, 86, 0], []), (44, .aload_n 0, [], []), (45, .aload_n 0, [], []), (46, .iload_n 2, [], []), (47, .iconst 1, [], []), (48, .isub, [], []), (49, .invokevirtual 372, [193, 2, 1, 11, 1637, 1640, 134, 1639, 83, 0], []), (52, .iconst 0, [], []), (53, .invokevirtual 378, [205, 3, 1, 11, 1649, 1652, 134, 1651, 86, 0], []), (56, .if_icmp .ne 9, [65], []), (59, .iinc 2 (-1), [], []), (62, .goto (-34), [28], []), (65, .iload_n 2, [], [1]), (66, .aload_n 0, [], []), (67, .getfield 43, [11, 21, 2, 1298, 1], []), (70, .aload_n 0, [], []), (71, .getfield 236, [11, 18, 0, 1295, 0], []), (74, .iaload, [], []), (75, .if_icmp .ne 8, [83], []), (78, .bipush (-2), [], []), (80, .goto 4, [84], []), (83, .iload_n 2, [], [0, 1]), (84, .ireturn, [0], [0, 1, 2])]
set_option maxRecDepth 100000 in
def wb_k_M_meanWith : List wb_E := [(0, .aload_n 0, [], []), (1, .invokevirtual 406, [189, 1, 0, 11, 1597, 1600, 134, 1599, 75, 0], []), (4, .aload_n 0, [], []), (5, .getfield 113, [11, 48, 2, 1325, 1], []), (8, .bipush 12, [], []), (10, .dup2, [], []), (11, .iaload, [], []), (12, .iload_n 1, [], []), (13, .ior, [], []), (14, .iastore, [], []), (15, .aload_n 0, [], []), (16, .invokevirtual 436, [213, 1, 1, 11, 1778, 1781, 134, 1780, 107, 0], []), (19, .ireturn, [0], [])]
set_option maxRecDepth 100000 in
def wb_k_M_allHouses : List wb_E := [(0, .iconst 1, [], []), (1, .aload_n 0, [], []), (2, .getfield 43, [11, 21, 2, 1298, 1], []), (5, .aload_n 0, [], []), (6, .getfield 236, [11, 18, 0, 1295, 0], []), (9, .iaload, [], []), (10, .ishl, [], []), (11, .iconst 1, [], []), (12, .isub, [], []), (13, .ireturn, [0], [])]
set_option maxRecDepth 100000 in
def wb_k_M_bestLeaflets : List wb_E := [(0, .aload_n 0, [], []), (1, .invokevirtual 439, [240, 1, 1, 11, 1802, 1805, 134, 1804, 109, 0], []), (4, .aload_n 0, [], []), (5, .getfield 110, [11, 47, 2, 1324, 1], []), (8, .bipush 12, [], []), (10, .iaload, [], []), (11, .iconst (-1), [], []), (12, .ixor, [], []), (13, .iand, [], []), (14, .istore_n 2, [], []), (15, .bipush (-2), [], []), (17, .istore_n 3, [], []), (18, .iconst 0, [], []), (19, .istore 4, [], []), (21, .iconst 0, [], []), (22, .istore 5, [], []), (24, .iload 5, [], [6]), (26, .iload_n 2, [], []), (27, .if_icmp .gt 59, [86], []), (30, .iload 5, [], []), (32, .iload_n 2, [], []), (33, .iconst (-1), [], []), (34, .ixor, [], []), (35, .iand, [], []), (36, .ifCond .ne 44, [80], []), (39, .iload 5, [], []), (41, .invokestatic 442, [184, 1, 1, 200, 1806, 1808, 134, 1807, 0, 0], []), (44, .iload_n 1, [], []), (45, .if_icmp .eq 6, [51], []), (48, .goto 32, [80], []), (51, .aload_n 0, [], [6]), (52, .iload 5, [], []), (54, .invokevirtual 445, [239, 2, 1, 11, 1809, 1812, 134, 1811, 110, 0], []), (57, .istore 6, [], []), (59, .iload_n 3, [], []), (60, .ifCond .lt 13, [73], []), (63, .iload 6, [], []), (65, .iload 4, [], []), (67, .if_icmp .lt 6, [73], []), (70, .goto 10, [80], []), (73, .iload 5, [], [3, 4]), (75, .istore_n 3, [], []), (76, .iload 6, [], []), (78, .istore 4, [], []), (80, .iinc 5 1, [], [6]), (83, .goto (-59), [24], []), (86, .iload_n 3, [], [0, 1, 2, 4, 5, 6]), (87, .ireturn, [0], [])]
set_option maxRecDepth 100000 in
def wb_k_M_whom : List wb_E := [(0, .iload_n 1, [], []), (1, .iconst 0, [], []), (2, .bipush 6, [], []), (4, .invokestatic 306, [183, 3, 1, 200, 1594, 1596, 134, 1595, 0, 0], []), (7, .ifCond .eq 11, [18], []), (10, .aload_n 0, [], []), (11, .iload_n 1, [], []), (12, .invokevirtual 448, [241, 2, 1, 11, 1798, 1801, 134, 1800, 108, 0], []), (15, .goto 4, [19], []), (18, .iconst (-1), [], [0, 1]), (19, .ireturn, [0], [0, 1])]
set_option maxRecDepth 100000 in
def wb_k_M_worth : List wb_E := [(0, .aload_n 0, [], []), (1, .iload_n 1, [], []), (2, .invokevirtual 403, [185, 2, 1, 11, 1590, 1593, 134, 1592, 74, 0], []), (5, .ifCond .ne 5, [10], []), (8, .iconst (-1), [], []), (9, .ireturn, [0], []), (10, .aload_n 0, [], []), (11, .iconst 0, [], []), (12, .invokevirtual 445, [239, 2, 1, 11, 1809, 1812, 134, 1811, 110, 0], []), (15, .aload_n 0, [], []), (16, .iconst 1, [], []), (17, .iload_n 1, [], []), (18, .ishl, [], []), (19, .invokevirtual 445, [239, 2, 1, 11, 1809, 1812, 134, 1811, 110, 0], []), (22, .isub, [], []), (23, .aload_n 0, [], []), (24, .invokevirtual 430, [211, 1, 1, 11, 1760, 1763, 134, 1762, 106, 0], []), (27, .iload_n 2, [], []), (28, .invokestatic 433, [215, 3, 1, 200, 1764, 1766, 134, 1765, 0, 0], []), (31, .ireturn, [0], [])]
set_option maxRecDepth 100000 in
def wb_k_M_fewest : List wb_E := [(0, .iload_n 1, [], []), (1, .iconst 0, [], []), (2, .bipush 60, [], []), (4, .invokestatic 306, [183, 3, 1, 200, 1594, 1596, 134, 1595, 0, 0], []), (7, .ifCond .ne 5, [12], []), (10, .iconst (-1), [], []), (11, .ireturn, [0], []), (12, .iconst 0, [], [2]), (13, .istore_n 2, [], []), (14, .aload_n 0, [], []), (15, .aload_n 0, [], []), (16, .iload_n 2, [], []), (17, .invokevirtual 448, [241, 2, 1, 11, 1798, 1801, 134, 1800, 108, 0], []), (20, .invokevirtual 445, [239, 2, 1, 11, 1809, 1812, 134, 1811, 110, 0], []), (23, .aload_n 0, [], []), (24, .invokevirtual 430, [211, 1, 1, 11, 1760, 1763, 134, 1762, 106, 0], []), (27, .bipush 10, [], []), (29, .idiv, [], []), (30, .iload_n 1, [], []), (31, .imul, [], []), (32, .if_icmp .le 9, [41], []), (35, .iinc 2 1, [], []), (38, .goto (-24), [14], []), (41, .iload_n 2, [], [0, 1]), (42, .ireturn, [0], [])]
set_option maxRecDepth 100000 in
def wb_k_M_bestSwap : List wb_E := [(0, .aload_n 0, [], []), (1, .invokevirtual 406, [189, 1, 0, 11, 1597, 1600, 134, 1599, 75, 0], []), (4, .aload_n 0, [], []), (5, .invokevirtual 436, [213, 1, 1, 11, 1778, 1781, 134, 1780, 107, 0], []), (8, .istore_n 1, [], []), (9, .bipush (-2), [], []), (11, .istore_n 2, [], []), (12, .iconst 0, [], []), (13, .istore_n 3, [], []), (14, .iload_n 3, [], [4, 5]), (15, .aload_n 0, [], []), (16, .getfield 43, [11, 21, 2, 1298, 1], []), (19, .aload_n 0, [], []), (20, .getfield 236, [11, 18, 0, 1295, 0], []), (23, .iaload, [], []), (24, .if_icmp .ge 71, [95], []), (27, .iload_n 3, [], []), (28, .iconst 1, [], []), (29, .iadd, [], []), (30, .istore 4, [], []), (32, .iload 4, [], [5]), (34, .aload_n 0, [], []), (35, .getfield 43, [11, 21, 2, 1298, 1], []), (38, .aload_n 0, [], []), (39, .getfield 236, [11, 18, 0, 1295, 0], []), (42, .iaload, [], []), (43, .if_icmp .ge 46, [89], []), (46, .aload_n 0, [], []), (47, .invokevirtual 406, [189, 1, 0, 11, 1597, 1600, 134, 1599, 75, 0], []), (50, .aload_n 0, [], []), (51, .iload_n 3, [], []), (52, .iload 4, [], []), (54, .invokevirtual 415, [225, 3, 0, 11, 1725, 1728, 134, 1727, 102, 0], []), (57, .aload_n 0, [], []), (58, .invokevirtual 436, [213, 1, 1, 11, 1778, 1781, 134, 1780, 107, 0], []), (61, .istore 5, [], []), (63, .iload 5, [], []), (65, .iload_n 1, [], []), (66, .if_icmp .lt 6, [72], []), (69, .goto 14, [83], []), (72, .iload 5, [], [1, 2]), (74, .istore_n 1, [], []), (75, .bipush 10, [], []), (77, .iload_n 3, [], []), (78, .imul, [], []), (79, .iload 4, [], []), (81, .iadd, [], []), (82, .istore_n 2, [], []), (83, .iinc 4 1, [], [5]), (86, .goto (-54), [32], []), (89, .iinc 3 1, [], [4, 5]), (92, .goto (-78), [14], []), (95, .iload_n 2, [], [0, 1, 3, 4, 5]), (96, .ireturn, [0], [])]
set_option maxRecDepth 100000 in
def wb_k_M_meanFrom : List wb_E := [(0, .aload_n 0, [], []), (1, .invokevirtual 406, [189, 1, 0, 11, 1597, 1600, 134, 1599, 75, 0], []), (4, .aload_n 0, [], []), (5, .iload_n 1, [], []), (6, .putfield 316, [11, 50, 0, 1327, 0], []), (9, .aload_n 0, [], []), (10, .invokevirtual 436, [213, 1, 1, 11, 1778, 1781, 134, 1780, 107, 0], []), (13, .ireturn, [0], [])]
set_option maxRecDepth 100000 in
def wb_k_M_hour : List wb_E := [(0, .iload_n 1, [], []), (1, .iconst 0, [], []), (2, .aload_n 0, [], []), (3, .getfield 43, [11, 21, 2, 1298, 1], []), (6, .aload_n 0, [], []), (7, .getfield 236, [11, 18, 0, 1295, 0], []), (10, .iaload, [], []), (11, .invokestatic 306, [183, 3, 1, 200, 1594, 1596, 134, 1595, 0, 0], []), (14, .ifCond .eq 19, [33], []), (17, .aload_n 0, [], []), (18, .iload_n 1, [], []), (19, .invokevirtual 451, [246, 2, 1, 11, 1829, 1832, 134, 1831, 111, 0], []), (22, .aload_n 0, [], []), (23, .invokevirtual 430, [211, 1, 1, 11, 1760, 1763, 134, 1762, 106, 0], []), (26, .iload_n 2, [], []), (27, .invokestatic 433, [215, 3, 1, 200, 1764, 1766, 134, 1765, 0, 0], []), (30, .goto 4, [34], []), (33, .iconst (-1), [], [0, 1, 2]), (34, .ireturn, [0], [0, 1, 2])]
set_option maxRecDepth 100000 in
def wb_k_M_bestHour : List wb_E := [(0, .iconst 0, [], []), (1, .istore_n 1, [], []), (2, .iconst 1, [], []), (3, .istore_n 2, [], []), (4, .iload_n 2, [], []), (5, .aload_n 0, [], []), (6, .getfield 43, [11, 21, 2, 1298, 1], []), (9, .aload_n 0, [], []), (10, .getfield 236, [11, 18, 0, 1295, 0], []), (13, .iaload, [], []), (14, .if_icmp .gt 24, [38], []), (17, .aload_n 0, [], []), (18, .iload_n 2, [], []), (19, .invokevirtual 451, [246, 2, 1, 11, 1829, 1832, 134, 1831, 111, 0], []), (22, .aload_n 0, [], []), (23, .iload_n 1, [], []), (24, .invokevirtual 451, [246, 2, 1, 11, 1829, 1832, 134, 1831, 111, 0], []), (27, .if_icmp .ge 5, [32], []), (30, .iload_n 2, [], []), (31, .istore_n 1, [], []), (32, .iinc 2 1, [], []), (35, .goto (-31), [4], []), (38, .iload_n 1, [], [0, 2]), (39, .ireturn, [0], [])]
set_option maxRecDepth 100000 in
def wb_k_M_two : List wb_E := [(0, .aload_n 0, [], []), (1, .invokevirtual 421, [231, 1, 0, 11, 1744, 1747, 134, 1746, 103, 0], []), (4, .iconst 0, [], []), (5, .istore_n 1, [], []), (6, .iconst 0, [], []), (7, .istore_n 2, [], []), (8, .iload_n 2, [], []), (9, .aload_n 0, [], []), (10, .getfield 43, [11, 21, 2, 1298, 1], []), (13, .aload_n 0, [], []), (14, .getfield 236, [11, 18, 0, 1295, 0], []), (17, .iaload, [], []), (18, .if_icmp .ge 47, [65], []), (21, .aload_n 0, [], []), (22, .iload_n 2, [], []), (23, .invokevirtual 427, [212, 2, 1, 11, 1756, 1759, 134, 1758, 105, 0], []), (26, .aload_n 0, [], []), (27, .getfield 67, [11, 29, 2, 1306, 1], []), (30, .aload_n 0, [], []), (31, .getfield 236, [11, 18, 0, 1295, 0], []), (34, .iaload, [], []), (35, .imul, [], []), (36, .aload_n 0, [], []), (37, .getfield 70, [11, 30, 2, 1307, 1], []), (40, .aload_n 0, [], []), (41, .getfield 236, [11, 18, 0, 1295, 0], []), (44, .iaload, [], []), (45, .aload_n 0, [], []), (46, .invokevirtual 430, [211, 1, 1, 11, 1760, 1763, 134, 1762, 106, 0], []), (49, .imul, [], []), (50, .if_icmp .le 9, [59], []), (53, .iload_n 1, [], []), (54, .iconst 1, [], []), (55, .iload_n 2, [], []), (56, .ishl, [], []), (57, .ior, [], []), (58, .istore_n 1, [], []), (59, .iinc 2 1, [], []), (62, .goto (-54), [8], []), (65, .iload_n 1, [], [0, 2]), (66, .ireturn, [0], [])]
set_option maxRecDepth 100000 in
def wb_k_M_chanceNow : List wb_E := [(0, .aload_n 0, [], []), (1, .invokevirtual 384, [208, 1, 0, 11, 1621, 1624, 134, 1623, 79, 0], []), (4, .aload_n 0, [], []), (5, .iload_n 1, [], []), (6, .invokevirtual 427, [212, 2, 1, 11, 1756, 1759, 134, 1758, 105, 0], []), (9, .ireturn, [0], [])]
set_option maxRecDepth 100000 in
def wb_k_M_better : List wb_E := [(0, .iconst 0, [], []), (1, .istore_n 1, [], []), (2, .iconst 0, [], []), (3, .istore_n 2, [], []), (4, .iload_n 2, [], [3]), (5, .aload_n 0, [], []), (6, .getfield 43, [11, 21, 2, 1298, 1], []), (9, .aload_n 0, [], []), (10, .getfield 236, [11, 18, 0, 1295, 0], []), (13, .iaload, [], []), (14, .if_icmp .ge 44, [58], []), (17, .aload_n 0, [], []), (18, .invokevirtual 406, [189, 1, 0, 11, 1597, 1600, 134, 1599, 75, 0], []), (21, .aload_n 0, [], []), (22, .iload_n 2, [], []), (23, .invokevirtual 454, [250, 2, 1, 11, 1845, 1848, 134, 1847, 112, 0], []), (26, .istore_n 3, [], []), (27, .aload_n 0, [], []), (28, .getfield 113, [11, 48, 2, 1325, 1], []), (31, .bipush 6, [], []), (33, .iload_n 2, [], []), (34, .iadd, [], []), (35, .iconst 0, [], []), (36, .iastore, [], []), (37, .aload_n 0, [], []), (38, .iload_n 2, [], []), (39, .invokevirtual 454, [250, 2, 1, 11, 1845, 1848, 134, 1847, 112, 0], []), (42, .iload_n 3, [], []), (43, .if_icmp .ge 9, [52], []), (46, .iload_n 1, [], []), (47, .iconst 1, [], []), (48, .iload_n 2, [], []), (49, .ishl, [], []), (50, .ior, [], []), (51, .istore_n 1, [], []), (52, .iinc 2 1, [], [3]), (55, .goto (-51), [4], []), (58, .iload_n 1, [], [0, 2, 3]), (59, .ireturn, [0], [])]
set_option maxRecDepth 100000 in
def wb_k_M_fillsChances : List wb_E := [(0, .iconst 0, [], []), (1, .istore_n 1, [], []), (2, .iload_n 1, [], [2]), (3, .aload_n 0, [], []), (4, .invokevirtual 439, [240, 1, 1, 11, 1802, 1805, 134, 1804, 109, 0], []), (7, .if_icmp .gt 94, [101], []), (10, .aload_n 0, [], []), (11, .invokevirtual 406, [189, 1, 0, 11, 1597, 1600, 134, 1599, 75, 0], []), (14, .iconst 0, [], []), (15, .istore_n 2, [], []), (16, .iload_n 2, [], []), (17, .aload_n 0, [], []), (18, .getfield 43, [11, 21, 2, 1298, 1], []), (21, .aload_n 0, [], []), (22, .getfield 236, [11, 18, 0, 1295, 0], []), (25, .iaload, [], []), (26, .if_icmp .ge 28, [54], []), (29, .iload_n 1, [], []), (30, .iload_n 2, [], []), (31, .ishr, [], []), (32, .iconst 1, [], []), (33, .iand, [], []), (34, .iconst 1, [], []), (35, .if_icmp .ne 13, [48], []), (38, .aload_n 0, [], []), (39, .getfield 113, [11, 48, 2, 1325, 1], []), (42, .bipush 6, [], []), (44, .iload_n 2, [], []), (45, .iadd, [], []), (46, .iconst 0, [], []), (47, .iastore, [], []), (48, .iinc 2 1, [], []), (51, .goto (-35), [16], []), (54, .aload_n 0, [], [2]), (55, .invokevirtual 384, [208, 1, 0, 11, 1621, 1624, 134, 1623, 79, 0], []), (58, .iconst 0, [], []), (59, .istore_n 2, [], []), (60, .iload_n 2, [], []), (61, .aload_n 0, [], []), (62, .getfield 43, [11, 21, 2, 1298, 1], []), (65, .aload_n 0, [], []), (66, .getfield 236, [11, 18, 0, 1295, 0], []), (69, .iaload, [], []), (70, .if_icmp .ge 25, [95], []), (73, .aload_n 0, [], []), (74, .getfield 128, [11, 56, 2, 1333, 1], []), (77, .bipush 6, [], []), (79, .iload_n 1, [], []), (80, .imul, [], []), (81, .iload_n 2, [], []), (82, .iadd, [], []), (83, .aload_n 0, [], []), (84, .iload_n 2, [], []), (85, .invokevirtual 427, [212, 2, 1, 11, 1756, 1759, 134, 1758, 105, 0], []), (88, .iastore, [], []), (89, .iinc 2 1, [], []), (92, .goto (-32), [60], []), (95, .iinc 1 1, [], [2]), (98, .goto (-96), [2], []), (101, .return_, [0], [0, 1, 2])]
set_option maxRecDepth 100000 in
def wb_k_M_isResting : List wb_E := [(0, .iconst 0, [], []), (1, .istore_n 2, [], []), (2, .iload_n 2, [], []), (3, .aload_n 0, [], []), (4, .getfield 43, [11, 21, 2, 1298, 1], []), (7, .aload_n 0, [], []), (8, .getfield 236, [11, 18, 0, 1295, 0], []), (11, .iaload, [], []), (12, .if_icmp .ge 54, [66], []), (15, .aload_n 0, [], []), (16, .getfield 110, [11, 47, 2, 1324, 1], []), (19, .bipush 12, [], []), (21, .iaload, [], []), (22, .iload_n 2, [], []), (23, .ishr, [], []), (24, .iconst 1, [], []), (25, .iand, [], []), (26, .ifCond .ne 34, [60], []), (29, .aload_n 0, [], []), (30, .getfield 128, [11, 56, 2, 1333, 1], []), (33, .bipush 6, [], []), (35, .iload_n 1, [], []), (36, .iconst 1, [], []), (37, .iload_n 2, [], []), (38, .ishl, [], []), (39, .ixor, [], []), (40, .imul, [], []), (41, .iload_n 2, [], []), (42, .iadd, [], []), (43, .iaload, [], []), (44, .aload_n 0, [], []), (45, .getfield 128, [11, 56, 2, 1333, 1], []), (48, .bipush 6, [], []), (50, .iload_n 1, [], []), (51, .imul, [], []), (52, .iload_n 2, [], []), (53, .iadd, [], []), (54, .iaload, [], []), (55, .if_icmp .ge 5, [60], []), (58, .iconst 0, [], []), (59, .ireturn, [1], []), (60, .iinc 2 1, [], []), (63, .goto (-61), [2], []), (66, .iconst 1, [], [0, 1, 2]), (67, .ireturn, [1], [])]
set_option maxRecDepth 100000 in
def wb_k_M_rests : List wb_E := [(0, .iload_n 1, [], []), (1, .iconst (-1), [], []), (2, .if_icmp .ge 5, [7], []), (5, .iconst (-1), [], []), (6, .ireturn, [0], []), (7, .aload_n 0, [], [2, 3]), (8, .invokevirtual 457, [252, 1, 0, 11, 1853, 1856, 134, 1855, 113, 0], []), (11, .iconst 0, [], []), (12, .istore_n 2, [], []), (13, .iconst 0, [], []), (14, .istore_n 3, [], []), (15, .iload_n 3, [], []), (16, .aload_n 0, [], []), (17, .invokevirtual 439, [240, 1, 1, 11, 1802, 1805, 134, 1804, 109, 0], []), (20, .if_icmp .gt 42, [62], []), (23, .iload_n 3, [], []), (24, .aload_n 0, [], []), (25, .getfield 110, [11, 47, 2, 1324, 1], []), (28, .bipush 12, [], []), (30, .iaload, [], []), (31, .iand, [], []), (32, .ifCond .ne 24, [56], []), (35, .aload_n 0, [], []), (36, .iload_n 3, [], []), (37, .invokevirtual 460, [253, 2, 1, 11, 1857, 1860, 134, 1859, 114, 0], []), (40, .ifCond .ne 6, [46], []), (43, .goto 13, [56], []), (46, .iload_n 2, [], []), (47, .iload_n 1, [], []), (48, .if_icmp .ne 5, [53], []), (51, .iload_n 3, [], []), (52, .ireturn, [0], []), (53, .iinc 2 1, [], []), (56, .iinc 3 1, [], []), (59, .goto (-44), [15], []), (62, .iload_n 1, [], [0, 3]), (63, .iconst (-1), [], []), (64, .if_icmp .ne 7, [71], []), (67, .iload_n 2, [], []), (68, .goto 4, [72], []), (71, .iconst (-1), [], [0, 1, 2, 3]), (72, .ireturn, [0], [0, 1, 2, 3])]
set_option maxRecDepth 100000 in
def wb_k_M_looksOver : List wb_E := [(0, .iconst 0, [], []), (1, .istore_n 1, [], []), (2, .iconst 0, [], []), (3, .istore_n 2, [], []), (4, .iload_n 2, [], [3]), (5, .aload_n 0, [], []), (6, .getfield 43, [11, 21, 2, 1298, 1], []), (9, .aload_n 0, [], []), (10, .getfield 236, [11, 18, 0, 1295, 0], []), (13, .iaload, [], []), (14, .if_icmp .ge 117, [131], []), (17, .iload_n 2, [], []), (18, .ifCond .le 53, [71], []), (21, .iload_n 2, [], []), (22, .iconst 1, [], []), (23, .iadd, [], []), (24, .aload_n 0, [], []), (25, .getfield 43, [11, 21, 2, 1298, 1], []), (28, .aload_n 0, [], []), (29, .getfield 236, [11, 18, 0, 1295, 0], []), (32, .iaload, [], []), (33, .if_icmp .ge 38, [71], []), (36, .aload_n 0, [], []), (37, .getfield 131, [11, 57, 2, 1334, 1], []), (40, .iload_n 2, [], []), (41, .iconst 1, [], []), (42, .isub, [], []), (43, .iaload, [], []), (44, .aload_n 0, [], []), (45, .getfield 131, [11, 57, 2, 1334, 1], []), (48, .iload_n 2, [], []), (49, .iconst 1, [], []), (50, .iadd, [], []), (51, .iaload, [], []), (52, .if_icmp .ne 19, [71], []), (55, .aload_n 0, [], []), (56, .getfield 131, [11, 57, 2, 1334, 1], []), (59, .iload_n 2, [], []), (60, .iconst 1, [], []), (61, .isub, [], []), (62, .iaload, [], []), (63, .iconst 2, [], []), (64, .if_icmp .ge 7, [71], []), (67, .iconst 1, [], []), (68, .goto 4, [72], []), (71, .iconst 0, [], [3]), (72, .istore_n 3, [], [3]), (73, .aload_n 0, [], []), (74, .getfield 134, [11, 58, 2, 1335, 1], []), (77, .iload_n 2, [], []), (78, .iload_n 3, [], []), (79, .ifCond .eq 14, [93], []), (82, .aload_n 0, [], []), (83, .getfield 131, [11, 57, 2, 1334, 1], []), (86, .iload_n 2, [], []), (87, .iconst 1, [], []), (88, .isub, [], []), (89, .iaload, [], []), (90, .goto 9, [99], []), (93, .aload_n 0, [], [3]), (94, .getfield 131, [11, 57, 2, 1334, 1], []), (97, .iload_n 2, [], []), (98, .iaload, [], []), (99, .iastore, [], [3]), (100, .iload_n 1, [], []), (101, .ifCond .ne 18, [119], []), (104, .aload_n 0, [], []), (105, .getfield 134, [11, 58, 2, 1335, 1], []), (108, .iload_n 2, [], []), (109, .iaload, [], []), (110, .aload_n 0, [], []), (111, .getfield 131, [11, 57, 2, 1334, 1], []), (114, .iload_n 2, [], []), (115, .iaload, [], []), (116, .if_icmp .eq 7, [123], []), (119, .iconst 1, [], [1, 3]), (120, .goto 4, [124], []), (123, .iconst 0, [], [1, 3]), (124, .istore_n 1, [], [1, 3]), (125, .iinc 2 1, [], []), (128, .goto (-124), [4], []), (131, .iconst 0, [], [2, 3]), (132, .istore_n 2, [], []), (133, .iload_n 2, [], [3]), (134, .aload_n 0, [], []), (135, .getfield 43, [11, 21, 2, 1298, 1], []), (138, .aload_n 0, [], []), (139, .getfield 236, [11, 18, 0, 1295, 0], []), (142, .iaload, [], []), (143, .if_icmp .ge 21, [164], []), (146, .aload_n 0, [], []), (147, .getfield 131, [11, 57, 2, 1334, 1], []), (150, .iload_n 2, [], []), (151, .aload_n 0, [], []), (152, .getfield 134, [11, 58, 2, 1335, 1], []), (155, .iload_n 2, [], []), (156, .iaload, [], []), (157, .iastore, [], []), (158, .iinc 2 1, [], []), (161, .goto (-28), [133], []), (164, .iload_n 1, [], [0, 2, 3]), (165, .ireturn, [1], [])]
set_option maxRecDepth 100000 in
def wb_k_M_fence : List wb_E := [(0, .iload_n 1, [], []), (1, .iconst 0, [], []), (2, .iconst 1, [], []), (3, .invokestatic 306, [183, 3, 1, 200, 1594, 1596, 134, 1595, 0, 0], []), (6, .ifCond .ne 5, [11], []), (9, .iconst (-1), [], []), (10, .ireturn, [0], []), (11, .aload_n 0, [], [2, 3, 4]), (12, .getfield 110, [11, 47, 2, 1324, 1], []), (15, .bipush 16, [], []), (17, .iaload, [], []), (18, .ifCond .ne 6, [24], []), (21, .bipush (-2), [], []), (23, .ireturn, [0], []), (24, .iconst 0, [], [2, 3, 4]), (25, .istore_n 2, [], []), (26, .iload_n 2, [], [3, 4]), (27, .aload_n 0, [], []), (28, .getfield 43, [11, 21, 2, 1298, 1], []), (31, .aload_n 0, [], []), (32, .getfield 236, [11, 18, 0, 1295, 0], []), (35, .iaload, [], []), (36, .if_icmp .ge 29, [65], []), (39, .aload_n 0, [], []), (40, .getfield 131, [11, 57, 2, 1334, 1], []), (43, .aload_n 0, [], []), (44, .getfield 110, [11, 47, 2, 1324, 1], []), (47, .iload_n 2, [], []), (48, .iaload, [], []), (49, .aload_n 0, [], []), (50, .getfield 110, [11, 47, 2, 1324, 1], []), (53, .bipush 20, [], []), (55, .iload_n 2, [], []), (56, .iadd, [], []), (57, .iaload, [], []), (58, .iastore, [], []), (59, .iinc 2 1, [], []), (62, .goto (-36), [26], []), (65, .iconst 0, [], [2, 3, 4]), (66, .istore_n 2, [], []), (67, .iload_n 2, [], [3, 4]), (68, .bipush 20, [], []), (70, .if_icmp .ge 16, [86], []), (73, .aload_n 0, [], []), (74, .invokevirtual 463, [255, 1, 1, 11, 1865, 1868, 134, 1867, 115, 0], []), (77, .ifCond .eq 9, [86], []), (80, .iinc 2 1, [], []), (83, .goto (-16), [67], []), (86, .iload_n 1, [], [3, 4]), (87, .ifCond .ne 5, [92], []), (90, .iload_n 2, [], []), (91, .ireturn, [0], []), (92, .iconst 0, [], [1, 2, 3, 4]), (93, .istore_n 3, [], []), (94, .aload_n 0, [], []), (95, .getfield 43, [11, 21, 2, 1298, 1], []), (98, .aload_n 0, [], []), (99, .getfield 236, [11, 18, 0, 1295, 0], []), (102, .iaload, [], []), (103, .iconst 1, [], []), (104, .isub, [], []), (105, .istore 4, [], []), (107, .iload 4, [], [1, 2]), (109, .ifCond .lt 21, [130], []), (112, .iconst 3, [], []), (113, .iload_n 3, [], []), (114, .imul, [], []), (115, .aload_n 0, [], []), (116, .getfield 131, [11, 57, 2, 1334, 1], []), (119, .iload 4, [], []), (121, .iaload, [], []), (122, .iadd, [], []), (123, .istore_n 3, [], []), (124, .iinc 4 (-1), [], []), (127, .goto (-20), [107], []), (130, .iload_n 3, [], [0, 1, 2, 4]), (131, .ireturn, [0], [])]
set_option maxRecDepth 100000 in
def wb_k_M_year : List wb_E := [(0, .iload_n 1, [], []), (1, .iconst 1, [], []), (2, .bipush 50, [], []), (4, .invokestatic 306, [183, 3, 1, 200, 1594, 1596, 134, 1595, 0, 0], []), (7, .ifCond .eq 13, [20], []), (10, .iload_n 2, [], []), (11, .iconst 1, [], []), (12, .bipush 10, [], []), (14, .invokestatic 306, [183, 3, 1, 200, 1594, 1596, 134, 1595, 0, 0], []), (17, .ifCond .ne 5, [22], []), (20, .iconst (-1), [], [0, 1, 2, 3, 4, 5]), (21, .ireturn, [0], []), (22, .iconst 0, [], [3, 4, 5]), (23, .istore_n 3, [], []), (24, .iconst 0, [], []), (25, .istore 4, [], []), (27, .iload 4, [], [5]), (29, .iload_n 2, [], []), (30, .if_icmp .ge 61, [91], []), (33, .aload_n 0, [], []), (34, .invokevirtual 421, [231, 1, 0, 11, 1744, 1747, 134, 1746, 103, 0], []), (37, .aload_n 0, [], []), (38, .dup, [], []), (39, .getfield 313, [11, 49, 0, 1326, 0], []), (42, .iload 4, [], []), (44, .iadd, [], []), (45, .putfield 313, [11, 49, 0, 1326, 0], []), (48, .iconst 0, [], []), (49, .istore 5, [], []), (51, .iload 5, [], []), (53, .iload_n 1, [], []), (54, .if_icmp .ge 13, [67], []), (57, .aload_n 0, [], []), (58, .invokevirtual 409, [219, 1, 0, 11, 1689, 1692, 134, 1691, 96, 0], []), (61, .iinc 5 1, [], []), (64, .goto (-13), [51], []), (67, .iload_n 3, [], [5]), (68, .aload_n 0, [], []), (69, .getfield 113, [11, 48, 2, 1325, 1], []), (72, .bipush 15, [], []), (74, .iaload, [], []), (75, .aload_n 0, [], []), (76, .getfield 110, [11, 47, 2, 1324, 1], []), (79, .bipush 15, [], []), (81, .iaload, [], []), (82, .isub, [], []), (83, .iadd, [], []), (84, .istore_n 3, [], []), (85, .iinc 4 1, [], []), (88, .goto (-61), [27], []), (91, .iload_n 3, [], [0, 1, 2, 4, 5]), (92, .ireturn, [0], [])]
set_option maxRecDepth 100000 in
def wb_k_M_tell : List wb_E := [(0, .aload_n 0, [], []), (1, .getfield 254, [11, 59, 0, 1336, 0], []), (4, .bipush 20, [], []), (6, .if_icmp .eq 32, [38], []), (9, .aload_n 0, [], []), (10, .iload_n 1, [], []), (11, .invokevirtual 403, [185, 2, 1, 11, 1590, 1593, 134, 1592, 74, 0], []), (14, .ifCond .eq 24, [38], []), (17, .iload_n 3, [], []), (18, .iconst 0, [], []), (19, .bipush 6, [], []), (21, .invokestatic 306, [183, 3, 1, 200, 1594, 1596, 134, 1595, 0, 0], []), (24, .ifCond .eq 14, [38], []), (27, .iload 4, [], []), (29, .iconst 0, [], []), (30, .bipush 6, [], []), (32, .invokestatic 306, [183, 3, 1, 200, 1594, 1596, 134, 1595, 0, 0], []), (35, .ifCond .ne 5, [40], []), (38, .iconst (-1), [], [0, 1, 2, 3, 4, 5, 6]), (39, .ireturn, [0], []), (40, .aload_n 0, [], []), (41, .getfield 137, [11, 60, 2, 1337, 1], []), (44, .aload_n 0, [], []), (45, .getfield 254, [11, 59, 0, 1336, 0], []), (48, .iload_n 1, [], []), (49, .iastore, [], []), (50, .aload_n 0, [], []), (51, .getfield 140, [11, 61, 2, 1338, 1], []), (54, .aload_n 0, [], []), (55, .getfield 254, [11, 59, 0, 1336, 0], []), (58, .iload_n 3, [], []), (59, .iastore, [], []), (60, .aload_n 0, [], []), (61, .getfield 143, [11, 62, 2, 1339, 1], []), (64, .aload_n 0, [], []), (65, .getfield 254, [11, 59, 0, 1336, 0], []), (68, .iload 4, [], []), (70, .iastore, [], []), (71, .aload_n 0, [], []), (72, .getfield 146, [11, 63, 2, 1340, 1], []), (75, .aload_n 0, [], []), (76, .getfield 254, [11, 59, 0, 1336, 0], []), (79, .aload_n 0, [], []), (80, .iload_n 2, [], []), (81, .invokevirtual 332, [197, 2, 1, 11, 1653, 1656, 134, 1655, 87, 0], []), (84, .iconst 2, [], []), (85, .aload_n 0, [], []), (86, .iload 5, [], []), (88, .invokevirtual 332, [197, 2, 1, 11, 1653, 1656, 134, 1655, 87, 0], []), (91, .imul, [], []), (92, .iadd, [], []), (93, .iconst 4, [], []), (94, .aload_n 0, [], []), (95, .iload 6, [], []), (97, .invokevirtual 332, [197, 2, 1, 11, 1653, 1656, 134, 1655, 87, 0], []), (100, .imul, [], []), (101, .iadd, [], []), (102, .iastore, [], []), (103, .aload_n 0, [], []), (104, .dup, [], []), (105, .getfield 254, [11, 59, 0, 1336, 0], []), (108, .iconst 1, [], []), (109, .iadd, [], []), (110, .putfield 254, [11, 59, 0, 1336, 0], []), (113, .aload_n 0, [], []), (114, .getfield 254, [11, 59, 0, 1336, 0], []), (117, .iconst 1, [], []), (118, .isub, [], []), (119, .ireturn, [0], [])]
set_option maxRecDepth 100000 in
def wb_k_M_forget : List wb_E := [(0, .aload_n 0, [], []), (1, .getfield 254, [11, 59, 0, 1336, 0], []), (4, .istore_n 1, [], []), (5, .aload_n 0, [], []), (6, .iconst 0, [], []), (7, .putfield 254, [11, 59, 0, 1336, 0], []), (10, .iload_n 1, [], []), (11, .ireturn, [0], [])]
set_option maxRecDepth 100000 in
def wb_k_M_putBy : List wb_E := [(0, .aload_n 0, [], []), (1, .getfield 146, [11, 63, 2, 1340, 1], []), (4, .iload_n 2, [], []), (5, .iaload, [], []), (6, .iconst 1, [], []), (7, .iand, [], []), (8, .istore_n 3, [], []), (9, .aload_n 0, [], []), (10, .getfield 140, [11, 61, 2, 1338, 1], []), (13, .iload_n 2, [], []), (14, .iaload, [], []), (15, .aload_n 0, [], []), (16, .getfield 143, [11, 62, 2, 1339, 1], []), (19, .iload_n 2, [], []), (20, .iaload, [], []), (21, .isub, [], []), (22, .istore 4, [], []), (24, .iload_n 1, [], []), (25, .tableswitch 68 0 3 #[31, 33, 53, 64], [31, 93, 56, 58, 78, 89], []), (56, .iload_n 3, [], [0, 1, 2, 4]), (57, .ireturn, [0], []), (58, .iload 4, [], [0, 1, 2]), (60, .ifCond .ne 7, [67], []), (63, .iload_n 3, [], []), (64, .goto 13, [77], []), (67, .iload 4, [], [0, 1, 2, 3]), (69, .ifCond .le 7, [76], []), (72, .iconst 1, [], []), (73, .goto 4, [77], []), (76, .iconst 0, [], [0, 1, 2, 3, 4]), (77, .ireturn, [0], [0, 1, 2, 3, 4]), (78, .aload_n 0, [], [1, 3, 4]), (79, .getfield 146, [11, 63, 2, 1340, 1], []), (82, .iload_n 2, [], []), (83, .iaload, [], []), (84, .iconst 1, [], []), (85, .ishr, [], []), (86, .iconst 1, [], []), (87, .iand, [], []), (88, .ireturn, [0], []), (89, .iconst 1, [], [0, 1, 2, 4]), (90, .iload_n 3, [], []), (91, .isub, [], []), (92, .ireturn, [0], []), (93, .iload 4, [], [0, 1, 2]), (95, .ifCond .ne 7, [102], []), (98, .iload_n 3, [], []), (99, .goto 13, [112], []), (102, .iload 4, [], [0, 1, 2, 3]), (104, .ifCond .ge 7, [111], []), (107, .iconst 1, [], []), (108, .goto 4, [112], []), (111, .iconst 0, [], [0, 1, 2, 3, 4]), (112, .ireturn, [0], [0, 1, 2, 3, 4])]
set_option maxRecDepth 100000 in
def wb_k_M_fits : List wb_E := [(0, .aload_n 0, [], []), (1, .iload_n 1, [], []), (2, .invokevirtual 403, [185, 2, 1, 11, 1590, 1593, 134, 1592, 74, 0], []), (5, .ifCond .eq 15, [20], []), (8, .iload_n 2, [], []), (9, .iconst 0, [], []), (10, .aload_n 0, [], []), (11, .getfield 254, [11, 59, 0, 1336, 0], []), (14, .invokestatic 306, [183, 3, 1, 200, 1594, 1596, 134, 1595, 0, 0], []), (17, .ifCond .ne 5, [22], []), (20, .iconst (-1), [], [0, 1, 2, 3, 4, 5]), (21, .ireturn, [0], []), (22, .bipush 31, [], [3, 4, 5]), (24, .istore_n 3, [], []), (25, .iconst 0, [], []), (26, .istore 4, [], []), (28, .iload 4, [], [5]), (30, .iload_n 2, [], []), (31, .if_icmp .ge 64, [95], []), (34, .iconst 0, [], []), (35, .istore 5, [], []), (37, .iload 5, [], []), (39, .iconst 5, [], []), (40, .if_icmp .ge 49, [89], []), (43, .aload_n 0, [], []), (44, .getfield 137, [11, 60, 2, 1337, 1], []), (47, .iload 4, [], []), (49, .iaload, [], []), (50, .iload_n 1, [], []), (51, .if_icmp .ne 32, [83], []), (54, .aload_n 0, [], []), (55, .iload 5, [], []), (57, .iload 4, [], []), (59, .invokevirtual 467, [260, 3, 1, 11, 1885, 1888, 134, 1887, 116, 0], []), (62, .aload_n 0, [], []), (63, .getfield 146, [11, 63, 2, 1340, 1], []), (66, .iload 4, [], []), (68, .iaload, [], []), (69, .iconst 2, [], []), (70, .ishr, [], []), (71, .if_icmp .eq 12, [83], []), (74, .iload_n 3, [], []), (75, .iconst 1, [], []), (76, .iload 5, [], []), (78, .ishl, [], []), (79, .iconst (-1), [], []), (80, .ixor, [], []), (81, .iand, [], []), (82, .istore_n 3, [], []), (83, .iinc 5 1, [], []), (86, .goto (-49), [37], []), (89, .iinc 4 1, [], [5]), (92, .goto (-64), [28], []), (95, .iload_n 3, [], [0, 1, 2, 4, 5]), (96, .ireturn, [0], [])]
set_option maxRecDepth 100000 in
def wb_k_M_hold : List wb_E := [(0, .iload_n 1, [], []), (1, .iconst 0, [], []), (2, .iconst 2, [], []), (3, .invokestatic 306, [183, 3, 1, 200, 1594, 1596, 134, 1595, 0, 0], []), (6, .ifCond .ne 5, [11], []), (9, .iconst 0, [], []), (10, .ireturn, [1], []), (11, .aload_n 0, [], [2]), (12, .getfield 149, [11, 64, 2, 1341, 1], []), (15, .iload_n 1, [], []), (16, .iconst 1, [], []), (17, .bastore, [], []), (18, .iconst 0, [], []), (19, .istore_n 2, [], []), (20, .iload_n 2, [], []), (21, .bipush 48, [], []), (23, .if_icmp .ge 26, [49], []), (26, .aload_n 0, [], []), (27, .getfield 152, [11, 65, 2, 1342, 1], []), (30, .bipush 48, [], []), (32, .iload_n 1, [], []), (33, .imul, [], []), (34, .iload_n 2, [], []), (35, .iadd, [], []), (36, .aload_n 0, [], []), (37, .getfield 110, [11, 47, 2, 1324, 1], []), (40, .iload_n 2, [], []), (41, .iaload, [], []), (42, .iastore, [], []), (43, .iinc 2 1, [], []), (46, .goto (-26), [20], []), (49, .iconst 1, [], [0, 1, 2]), (50, .ireturn, [1], [])]
set_option maxRecDepth 100000 in
def wb_k_M_restore : List wb_E := [(0, .iload_n 1, [], []), (1, .iconst 0, [], []), (2, .iconst 2, [], []), (3, .invokestatic 306, [183, 3, 1, 200, 1594, 1596, 134, 1595, 0, 0], []), (6, .ifCond .eq 12, [18], []), (9, .aload_n 0, [], []), (10, .getfield 149, [11, 64, 2, 1341, 1], []), (13, .iload_n 1, [], []), (14, .baload, [], []), (15, .ifCond .ne 5, [20], []), (18, .iconst 0, [], [0, 1, 2]), (19, .ireturn, [1], []), (20, .iconst 0, [], [2]), (21, .istore_n 2, [], []), (22, .iload_n 2, [], []), (23, .bipush 48, [], []), (25, .if_icmp .ge 26, [51], []), (28, .aload_n 0, [], []), (29, .getfield 110, [11, 47, 2, 1324, 1], []), (32, .iload_n 2, [], []), (33, .aload_n 0, [], []), (34, .getfield 152, [11, 65, 2, 1342, 1], []), (37, .bipush 48, [], []), (39, .iload_n 1, [], []), (40, .imul, [], []), (41, .iload_n 2, [], []), (42, .iadd, [], []), (43, .iaload, [], []), (44, .iastore, [], []), (45, .iinc 2 1, [], []), (48, .goto (-26), [22], []), (51, .aload_n 0, [], [1, 2]), (52, .iconst 0, [], []), (53, .putfield 251, [11, 54, 0, 1331, 0], []), (56, .iconst 1, [], []), (57, .ireturn, [1], [])]
set_option maxRecDepth 100000 in
def wb_k_M_count : List wb_E := [(0, .iload_n 1, [], []), (1, .tableswitch 209 0 12 #[67, 77, 85, 93, 101, 109, 119, 129, 139, 144, 149, 154, 199], [67, 210, 68, 78, 86, 94, 102, 110, 120, 130, 140, 145, 150, 155, 200], []), (68, .aload_n 0, [], [1]), (69, .getfield 43, [11, 21, 2, 1298, 1], []), (72, .aload_n 0, [], []), (73, .getfield 236, [11, 18, 0, 1295, 0], []), (76, .iaload, [], []), (77, .ireturn, [0], []), (78, .aload_n 0, [], [1]), (79, .getfield 110, [11, 47, 2, 1324, 1], []), (82, .bipush 13, [], []), (84, .iaload, [], []), (85, .ireturn, [0], []), (86, .aload_n 0, [], [1]), (87, .getfield 110, [11, 47, 2, 1324, 1], []), (90, .bipush 14, [], []), (92, .iaload, [], []), (93, .ireturn, [0], []), (94, .aload_n 0, [], [1]), (95, .getfield 110, [11, 47, 2, 1324, 1], []), (98, .bipush 12, [], []), (100, .iaload, [], []), (101, .ireturn, [0], []), (102, .aload_n 0, [], [1]), (103, .getfield 110, [11, 47, 2, 1324, 1], []), (106, .bipush 15, [], []), (108, .iaload, [], []), (109, .ireturn, [0], []), (110, .aload_n 0, [], [1]), (111, .getfield 64, [11, 28, 2, 1305, 1], []), (114, .aload_n 0, [], []), (115, .getfield 236, [11, 18, 0, 1295, 0], []), (118, .iaload, [], []), (119, .ireturn, [0], []), (120, .aload_n 0, [], [1]), (121, .getfield 67, [11, 29, 2, 1306, 1], []), (124, .aload_n 0, [], []), (125, .getfield 236, [11, 18, 0, 1295, 0], []), (128, .iaload, [], []), (129, .ireturn, [0], []), (130, .aload_n 0, [], [1]), (131, .getfield 70, [11, 30, 2, 1307, 1], []), (134, .aload_n 0, [], []), (135, .getfield 236, [11, 18, 0, 1295, 0], []), (138, .iaload, [], []), (139, .ireturn, [0], []), (140, .aload_n 0, [], [1]), (141, .getfield 169, [11, 2, 0, 1279, 0], []), (144, .ireturn, [0], []), (145, .aload_n 0, [], [1]), (146, .getfield 251, [11, 54, 0, 1331, 0], []), (149, .ireturn, [0], []), (150, .aload_n 0, [], [1]), (151, .getfield 254, [11, 59, 0, 1336, 0], []), (154, .ireturn, [0], []), (155, .aload_n 0, [], [1]), (156, .getfield 149, [11, 64, 2, 1341, 1], []), (159, .iconst 0, [], []), (160, .baload, [], []), (161, .ifCond .eq 7, [168], []), (164, .iconst 1, [], []), (165, .goto 4, [169], []), (168, .iconst 0, [], [1]), (169, .aload_n 0, [], [1]), (170, .getfield 149, [11, 64, 2, 1341, 1], []), (173, .iconst 1, [], []), (174, .baload, [], []), (175, .ifCond .eq 7, [182], []), (178, .iconst 1, [], []), (179, .goto 4, [183], []), (182, .iconst 0, [], [1]), (183, .iadd, [], [1]), (184, .aload_n 0, [], []), (185, .getfield 149, [11, 64, 2, 1341, 1], []), (188, .iconst 2, [], []), (189, .baload, [], []), (190, .ifCond .eq 7, [197], []), (193, .iconst 1, [], []), (194, .goto 4, [198], []), (197, .iconst 0, [], [0, 1]), (198, .iadd, [], [0, 1]), (199, .ireturn, [0], []), (200, .aload_n 0, [], [1]), (201, .getfield 73, [11, 31, 2, 1308, 1], []), (204, .aload_n 0, [], []), (205, .getfield 236, [11, 18, 0, 1295, 0], []), (208, .iaload, [], []), (209, .ireturn, [0], []), (210, .iconst (-1), [], [0, 1]), (211, .ireturn, [0], [])]
set_option maxRecDepth 100000 in
def wb_k_JInteger_bitCount : List wb_E := [(0, .iload_n 0, [], []), (1, .iload_n 0, [], []), (2, .iconst 1, [], []), (3, .iushr, [], []), (4, .ldc_w 265, [0, 1431655765, 1138], []), (7, .iand, [], []), (8, .isub, [], []), (9, .istore_n 0, [], []), (10, .iload_n 0, [], []), (11, .ldc_w 266, [0, 858993459, 1139], []), (14, .iand, [], []), (15, .iload_n 0, [], []), (16, .iconst 2, [], []), (17, .iushr, [], []), (18, .ldc_w 266, [0, 858993459, 1139], []), (21, .iand, [], []), (22, .iadd, [], []), (23, .istore_n 0, [], []), (24, .iload_n 0, [], []), (25, .iload_n 0, [], []), (26, .iconst 4, [], []), (27, .iushr, [], []), (28, .iadd, [], []), (29, .ldc_w 267, [0, 252645135, 1140], []), (32, .iand, [], []), (33, .istore_n 0, [], []), (34, .iload_n 0, [], []), (35, .iload_n 0, [], []), (36, .bipush 8, [], []), (38, .iushr, [], []), (39, .iadd, [], []), (40, .istore_n 0, [], []), (41, .iload_n 0, [], []), (42, .iload_n 0, [], []), (43, .bipush 16, [], []), (45, .iushr, [], []), (46, .iadd, [], []), (47, .istore_n 0, [], []), (48, .iload_n 0, [], []), (49, .bipush 63, [], []), (51, .iand, [], []), (52, .ireturn, [0], [])]
set_option maxRecDepth 100000 in
def wb_k_JMath_abs : List wb_E := [(0, .lload_n 0, [], []), (1, .lconst 0, [], []), (2, .lcmp, [], []), (3, .ifCond .ge 8, [11], []), (6, .lload_n 0, [], []), (7, .lneg, [], []), (8, .goto 4, [12], []), (11, .lload_n 0, [], [1]), (12, .lreturn, [0], [0, 1])]
set_option maxRecDepth 100000 in
def wb_k_JMath_max : List wb_E := [(0, .iload_n 0, [], []), (1, .iload_n 1, [], []), (2, .if_icmp .lt 7, [9], []), (5, .iload_n 0, [], []), (6, .goto 4, [10], []), (9, .iload_n 1, [], [0]), (10, .ireturn, [0], [0, 1])]
set_option maxRecDepth 100000 in
def wb_k_JMath_min : List wb_E := [(0, .iload_n 0, [], []), (1, .iload_n 1, [], []), (2, .if_icmp .gt 7, [9], []), (5, .iload_n 0, [], []), (6, .goto 4, [10], []), (9, .iload_n 1, [], [0]), (10, .ireturn, [0], [0, 1])]
set_option maxRecDepth 100000 in
def wb_k_JString_length : List wb_E := [(0, .aload_n 0, [], []), (1, .getfield 9, [100, 0, 0, 1901], []), (4, .arraylength, [], []), (5, .aload_n 0, [], []), (6, .invokevirtual 335, [273, 1, 1, 100, 180, 183, 122, 181, 182, 0], []), (9, .ishr, [], []), (10, .ireturn, [0], [])]
set_option maxRecDepth 100000 in
def wb_k_JString_charAt : List wb_E := [(0, .aload_n 0, [], []), (1, .invokevirtual 492, [274, 1, 1, 100, 190, 193, 122, 191, 192, 0], []), (4, .ifCond .eq 12, [16], []), (7, .aload_n 0, [], []), (8, .getfield 9, [100, 0, 0, 1901], []), (11, .iload_n 1, [], []), (12, .invokestatic 495, [276, 2, 1, 200, 194, 196, 123, 195, 0, 0], []), (15, .ireturn, [2], []), (16, .aload_n 0, [], []), (17, .getfield 9, [100, 0, 0, 1901], []), (20, .iload_n 1, [], []), (24, .ireturn, [2], [])]
set_option maxRecDepth 100000 in
def wb_k_JString_indexOf1 : List wb_E := [(0, .aload_n 0, [], []), (1, .iload_n 1, [], []), (2, .iconst 0, [], []), (3, .invokevirtual 633, [272, 3, 1, 100, 716, 719, 122, 717, 718, 0], []), (6, .ireturn, [0], [])]
set_option maxRecDepth 100000 in
def wb_k_JString_indexOf2 : List wb_E := [(0, .aload_n 0, [], []), (1, .invokevirtual 492, [274, 1, 1, 100, 190, 193, 122, 191, 192, 0], []), (4, .ifCond .eq 19, [23], []), (7, .aload_n 0, [], []), (8, .getfield 9, [100, 0, 0, 1901], []), (11, .iload_n 1, [], []), (12, .iload_n 2, [], []), (13, .aload_n 0, [], []), (14, .invokevirtual 505, [269, 1, 1, 100, 720, 179, 122, 177, 178, 0], []), (17, .invokestatic 637, [278, 4, 1, 200, 721, 723, 123, 722, 0, 0], []), (20, .goto 16, [36], []), (23, .aload_n 0, [], []), (24, .getfield 9, [100, 0, 0, 1901], []), (27, .iload_n 1, [], []), (28, .iload_n 2, [], []), (29, .aload_n 0, [], []), (30, .invokevirtual 505, [269, 1, 1, 100, 720, 179, 122, 177, 178, 0], []), (36, .ireturn, [0], [0, 1, 2])]
set_option maxRecDepth 100000 in
def wb_k_JString_coder : List wb_E := [(0, .getstatic 38, [1, 1, 184, 0], []), (3, .ifCond .eq 10, [13], []), (6, .aload_n 0, [], []), (7, .getfield 15, [100, 1, 0, 1902], []), (10, .goto 4, [14], []), (13, .iconst 1, [], [0]), (14, .ireturn, [3], [0])]
set_option maxRecDepth 100000 in
def wb_k_JString_isLatin1 : List wb_E := [(0, .getstatic 38, [1, 1, 184, 0], []), (3, .ifCond .eq 14, [17], []), (6, .aload_n 0, [], []), (7, .getfield 15, [100, 1, 0, 1902], []), (10, .ifCond .ne 7, [17], []), (13, .iconst 1, [], []), (14, .goto 4, [18], []), (17, .iconst 0, [], [0]), (18, .ireturn, [1], [0])]
set_option maxRecDepth 100000 in
def wb_k_JString_checkIndex : List wb_E := [(0, .iload_n 0, [], []), (1, .iload_n 1, [], []), (2, .getstatic 1053, [0, 9, 200, 0], []), (5, .invokestatic 1059, [283, 3, 1, 200, 202, 204, 124, 203, 0, 0], []), (8, .pop, [], []), (9, .return_, [0], [])]
set_option maxRecDepth 100000 in
def wb_k_JStringLatin1_charAt : List wb_E := [(0, .iload_n 1, [], []), (1, .aload_n 0, [], []), (2, .arraylength, [], []), (3, .invokestatic 9, [275, 2, 0, 200, 197, 199, 122, 198, 0, 0], []), (6, .aload_n 0, [], []), (7, .iload_n 1, [], []), (8, .baload, [], []), (9, .sipush 255, [], []), (12, .iand, [], []), (13, .i2c, [], []), (14, .ireturn, [2], [])]
set_option maxRecDepth 100000 in
def wb_k_JStringLatin1_canEncode : List wb_E := [(0, .iload_n 0, [], []), (1, .ifCond .lt 14, [15], []), (4, .iload_n 0, [], []), (5, .sipush 255, [], []), (8, .if_icmp .gt 7, [15], []), (11, .iconst 1, [], []), (12, .goto 4, [16], []), (15, .iconst 0, [], [0]), (16, .ireturn, [1], [0])]
set_option maxRecDepth 100000 in
def wb_k_JStringLatin1_indexOf : List wb_E := [(0, .iload_n 1, [], []), (1, .invokestatic 88, [277, 1, 1, 200, 724, 726, 123, 725, 0, 0], []), (4, .ifCond .ne 5, [9], []), (7, .iconst (-1), [], []), (8, .ireturn, [0], []), (9, .iload_n 2, [], []), (10, .iconst 0, [], []), (11, .invokestatic 92, [267, 2, 1, 200, 727, 729, 135, 728, 0, 0], []), (14, .istore_n 2, [], []), (15, .iload_n 3, [], []), (16, .aload_n 0, [], []), (17, .arraylength, [], []), (18, .invokestatic 38, [268, 2, 1, 200, 730, 732, 135, 731, 0, 0], []), (21, .istore_n 3, [], []), (22, .iload_n 2, [], []), (23, .iload_n 3, [], []), (24, .if_icmp .lt 5, [29], []), (27, .iconst (-1), [], []), (28, .ireturn, [0], []), (29, .aload_n 0, [], []), (30, .iload_n 1, [], []), (31, .iload_n 2, [], []), (32, .iload_n 3, [], []), (33, .invokestatic 95, [279, 4, 1, 200, 733, 735, 123, 734, 0, 0], []), (36, .ireturn, [0], [])]
set_option maxRecDepth 100000 in
def wb_k_JStringLatin1_indexOfChar : List wb_E := [(0, .iload_n 1, [], []), (1, .i2b, [], []), (2, .istore 4, [], []), (4, .iload_n 2, [], []), (5, .istore 5, [], []), (7, .iload 5, [], [1, 2]), (9, .iload_n 3, [], []), (10, .if_icmp .ge 21, [31], []), (13, .aload_n 0, [], []), (14, .iload 5, [], []), (16, .baload, [], []), (17, .iload 4, [], []), (19, .if_icmp .ne 6, [25], []), (22, .iload 5, [], []), (24, .ireturn, [0], []), (25, .iinc 5 1, [], [1, 2]), (28, .goto (-21), [7], []), (31, .iconst (-1), [], [0, 1, 2, 3, 4, 5]), (32, .ireturn, [0], [])]
set_option maxRecDepth 100000 in
def wb_k_JArrays_rangeCheck : List wb_E := [(0, .iload_n 1, [], []), (1, .iload_n 2, [], []), (2, .if_icmp .le 44, [46], []), (8, .dup, [], []), (12, .dup, [], []), (21, .iload_n 1, [], []), (30, .iload_n 2, [], []), (45, .athrow, [], []), (46, .iload_n 1, [], []), (47, .ifCond .ge 12, [59], []), (53, .dup, [], []), (54, .iload_n 1, [], []), (58, .athrow, [], []), (59, .iload_n 2, [], [1]), (60, .iload_n 0, [], []), (61, .if_icmp .le 12, [73], []), (67, .dup, [], []), (68, .iload_n 2, [], []), (72, .athrow, [], []), (73, .return_, [0], [0, 1, 2])]
set_option maxRecDepth 100000 in
def wb_k_JArrays_fill2 : List wb_E := [(0, .iconst 0, [], []), (1, .istore_n 2, [], []), (2, .aload_n 0, [], []), (3, .arraylength, [], []), (4, .istore_n 3, [], []), (5, .iload_n 2, [], []), (6, .iload_n 3, [], []), (7, .if_icmp .ge 13, [20], []), (10, .aload_n 0, [], []), (11, .iload_n 2, [], []), (12, .iload_n 1, [], []), (13, .iastore, [], []), (14, .iinc 2 1, [], []), (17, .goto (-12), [5], []), (20, .return_, [0], [0, 1, 2, 3])]
set_option maxRecDepth 100000 in
def wb_k_JArrays_fill4 : List wb_E := [(0, .aload_n 0, [], []), (1, .arraylength, [], []), (2, .iload_n 1, [], []), (3, .iload_n 2, [], []), (4, .invokestatic 13, [280, 3, 0, 200, 948, 950, 133, 949, 0, 0], []), (7, .iload_n 1, [], []), (8, .istore 4, [], []), (10, .iload 4, [], [1]), (12, .iload_n 2, [], []), (13, .if_icmp .ge 14, [27], []), (16, .aload_n 0, [], []), (17, .iload 4, [], []), (19, .iload_n 3, [], []), (20, .iastore, [], []), (21, .iinc 4 1, [], []), (24, .goto (-14), [10], []), (27, .return_, [0], [0, 1, 2, 3, 4])]
set_option maxRecDepth 100000 in
def wb_k_JPreconditions_checkIndex : List wb_E := [(0, .iload_n 0, [], []), (1, .ifCond .lt 8, [9], []), (4, .iload_n 0, [], []), (5, .iload_n 1, [], []), (6, .if_icmp .lt 10, [16], []), (9, .aload_n 2, [], []), (10, .iload_n 0, [], []), (11, .iload_n 1, [], []), (15, .athrow, [], []), (16, .iload_n 0, [], [1, 2]), (17, .ireturn, [0], [])]
set_option maxRecDepth 100000 in
def wb_k_WhichBinLaw_law : List wb_E := [(0, .new 7, [20, 139, 140, 118], []), (3, .dup, [], []), (4, .invokespecial 9, [94, 1, 0, 201, 141, 143, 118, 142, 0, 0], []), (7, .astore_n 1, [], []), (8, .new 10, [21, 1249, 1250, 134], []), (11, .dup, [], []), (12, .invokespecial 12, [150, 1, 0, 201, 1251, 1253, 134, 1252, 0, 0], []), (15, .astore_n 2, [], []), (16, .iconst 0, [], []), (17, .istore_n 3, [], []), (18, .iload_n 3, [], []), (19, .aload_n 0, [], []), (20, .arraylength, [], []), (21, .bipush 7, [], []), (23, .isub, [], []), (24, .if_icmp .gt 1309, [1333], []), (27, .aload_n 0, [], []), (28, .iload_n 3, [], []), (29, .iaload, [], []), (30, .bipush 63, [], []), (32, .iand, [], []), (33, .tableswitch 1294 0 34 #[155, 218, 241, 254, 267, 300, 323, 346, 395, 428, 461, 474, 533, 582, 631, 670, 709, 758, 781, 804, 853, 876, 889, 938, 951, 964, 977, 1000, 1023, 1056, 1179, 1192, 1225, 1248, 1271], [155, 1327, 188, 251, 274, 287, 300, 333, 356, 379, 428, 461, 494, 507, 566, 615, 664, 703, 742, 791, 814, 837, 886, 909, 922, 971, 984, 997, 1010, 1033, 1056, 1089, 1212, 1225, 1258, 1281, 1304], []), (188, .aload_n 1, [], []), (189, .aload_n 0, [], []), (190, .iload_n 3, [], []), (191, .iconst 1, [], []), (192, .iadd, [], []), (193, .iaload, [], []), (194, .aload_n 0, [], []), (195, .iload_n 3, [], []), (196, .iconst 2, [], []), (197, .iadd, [], []), (198, .iaload, [], []), (199, .aload_n 0, [], []), (200, .iload_n 3, [], []), (201, .iconst 3, [], []), (202, .iadd, [], []), (203, .iaload, [], []), (204, .aload_n 0, [], []), (205, .iload_n 3, [], []), (206, .iconst 4, [], []), (207, .iadd, [], []), (208, .iaload, [], []), (209, .aload_n 0, [], []), (210, .iload_n 3, [], []), (211, .iconst 5, [], []), (212, .iadd, [], []), (213, .iaload, [], []), (214, .invokevirtual 13, [95, 6, 1, 10, 644, 647, 118, 645, 646, 0], []), (217, .aload_n 2, [], []), (218, .aload_n 0, [], []), (219, .iload_n 3, [], []), (220, .iconst 1, [], []), (221, .iadd, [], []), (222, .iaload, [], []), (223, .aload_n 0, [], []), (224, .iload_n 3, [], []), (225, .iconst 2, [], []), (226, .iadd, [], []), (227, .iaload, [], []), (228, .aload_n 0, [], []), (229, .iload_n 3, [], []), (230, .iconst 3, [], []), (231, .iadd, [], []), (232, .iaload, [], []), (233, .aload_n 0, [], []), (234, .iload_n 3, [], []), (235, .iconst 4, [], []), (236, .iadd, [], []), (237, .iaload, [], []), (238, .aload_n 0, [], []), (239, .iload_n 3, [], []), (240, .iconst 5, [], []), (241, .iadd, [], []), (242, .iaload, [], []), (243, .invokevirtual 17, [151, 6, 1, 11, 1476, 1479, 134, 1477, 1478, 0], []), (246, .if_icmp .eq 1081, [1327], []), (249, .iconst 0, [], []), (250, .ireturn, [1], []), (251, .aload_n 1, [], []), (252, .aload_n 0, [], []), (253, .iload_n 3, [], []), (254, .iconst 1, [], []), (255, .iadd, [], []), (256, .iaload, [], []), (257, .invokevirtual 18, [96, 2, 1, 10, 656, 659, 118, 657, 658, 0], []), (260, .aload_n 2, [], []), (261, .aload_n 0, [], []), (262, .iload_n 3, [], []), (263, .iconst 1, [], []), (264, .iadd, [], []), (265, .iaload, [], []), (266, .invokevirtual 22, [153, 2, 1, 11, 1484, 1487, 134, 1485, 1486, 0], []), (269, .if_icmp .eq 1058, [1327], []), (272, .iconst 0, [], []), (273, .ireturn, [1], []), (274, .aload_n 1, [], []), (275, .invokevirtual 23, [97, 1, 1, 10, 660, 663, 118, 661, 662, 0], []), (278, .aload_n 2, [], []), (279, .invokevirtual 27, [168, 1, 1, 11, 1488, 1491, 134, 1489, 1490, 0], []), (282, .if_icmp .eq 1045, [1327], []), (285, .iconst 0, [], []), (286, .ireturn, [1], []), (287, .aload_n 1, [], []), (288, .invokevirtual 28, [98, 1, 1, 10, 867, 870, 118, 868, 869, 0], []), (291, .aload_n 2, [], []), (292, .invokevirtual 31, [169, 1, 1, 11, 1582, 1585, 134, 1583, 1584, 0], []), (295, .if_icmp .eq 1032, [1327], []), (298, .iconst 0, [], []), (299, .ireturn, [1], []), (300, .aload_n 1, [], []), (301, .aload_n 0, [], []), (302, .iload_n 3, [], []), (303, .iconst 1, [], []), (304, .iadd, [], []), (305, .iaload, [], []), (306, .aload_n 0, [], []), (307, .iload_n 3, [], []), (308, .iconst 2, [], []), (309, .iadd, [], []), (310, .iaload, [], []), (311, .invokevirtual 32, [101, 3, 1, 10, 871, 874, 118, 872, 873, 0], []), (314, .aload_n 2, [], []), (315, .aload_n 0, [], []), (316, .iload_n 3, [], []), (317, .iconst 1, [], []), (318, .iadd, [], []), (319, .iaload, [], []), (320, .aload_n 0, [], []), (321, .iload_n 3, [], []), (322, .iconst 2, [], []), (323, .iadd, [], []), (324, .iaload, [], []), (325, .invokevirtual 36, [220, 3, 1, 11, 1586, 1589, 134, 1587, 1588, 0], []), (328, .if_icmp .eq 999, [1327], []), (331, .iconst 0, [], []), (332, .ireturn, [1], []), (333, .aload_n 1, [], []), (334, .aload_n 0, [], []), (335, .iload_n 3, [], []), (336, .iconst 1, [], []), (337, .iadd, [], []), (338, .iaload, [], []), (339, .invokevirtual 37, [102, 2, 1, 10, 894, 897, 118, 895, 896, 0], []), (342, .aload_n 2, [], []), (343, .aload_n 0, [], []), (344, .iload_n 3, [], []), (345, .iconst 1, [], []), (346, .iadd, [], []), (347, .iaload, [], []), (348, .invokevirtual 40, [221, 2, 1, 11, 1613, 1616, 134, 1614, 1615, 0], []), (351, .if_icmp .eq 976, [1327], []), (354, .iconst 0, [], []), (355, .ireturn, [1], []), (356, .aload_n 1, [], []), (357, .aload_n 0, [], []), (358, .iload_n 3, [], []), (359, .iconst 1, [], []), (360, .iadd, [], []), (361, .iaload, [], []), (362, .invokevirtual 41, [109, 2, 1, 10, 906, 909, 118, 907, 908, 0], []), (365, .aload_n 2, [], []), (366, .aload_n 0, [], []), (367, .iload_n 3, [], []), (368, .iconst 1, [], []), (369, .iadd, [], []), (370, .iaload, [], []), (371, .invokevirtual 44, [223, 2, 1, 11, 1617, 1620, 134, 1618, 1619, 0], []), (374, .if_icmp .eq 953, [1327], []), (377, .iconst 0, [], []), (378, .ireturn, [1], []), (379, .aload_n 1, [], []), (380, .aload_n 0, [], []), (381, .iload_n 3, [], []), (382, .iconst 1, [], []), (383, .iadd, [], []), (384, .iaload, [], []), (385, .aload_n 0, [], []), (386, .iload_n 3, [], []), (387, .iconst 2, [], []), (388, .iadd, [], []), (389, .iaload, [], []), (390, .ifCond .eq 7, [397], []), (393, .iconst 1, [], []), (394, .goto 4, [398], []), (397, .iconst 0, [], []), (398, .invokevirtual 45, [110, 3, 1, 10, 1027, 1030, 118, 1028, 1029, 0], []), (401, .aload_n 2, [], []), (402, .aload_n 0, [], []), (403, .iload_n 3, [], []), (404, .iconst 1, [], []), (405, .iadd, [], []), (406, .iaload, [], []), (407, .aload_n 0, [], []), (408, .iload_n 3, [], []), (409, .iconst 2, [], []), (410, .iadd, [], []), (411, .iaload, [], []), (412, .ifCond .eq 7, [419], []), (415, .iconst 1, [], []), (416, .goto 4, [420], []), (419, .iconst 0, [], []), (420, .invokevirtual 49, [224, 3, 1, 11, 1717, 1720, 134, 1718, 1719, 0], []), (423, .if_icmp .eq 904, [1327], []), (426, .iconst 0, [], []), (427, .ireturn, [1], []), (428, .aload_n 1, [], []), (429, .aload_n 0, [], []), (430, .iload_n 3, [], []), (431, .iconst 1, [], []), (432, .iadd, [], []), (433, .iaload, [], []), (434, .aload_n 0, [], []), (435, .iload_n 3, [], []), (436, .iconst 2, [], []), (437, .iadd, [], []), (438, .iaload, [], []), (439, .invokevirtual 50, [111, 3, 1, 10, 1031, 1034, 118, 1032, 1033, 0], []), (442, .aload_n 2, [], []), (443, .aload_n 0, [], []), (444, .iload_n 3, [], []), (445, .iconst 1, [], []), (446, .iadd, [], []), (447, .iaload, [], []), (448, .aload_n 0, [], []), (449, .iload_n 3, [], []), (450, .iconst 2, [], []), (451, .iadd, [], []), (452, .iaload, [], []), (453, .invokevirtual 54, [226, 3, 1, 11, 1721, 1724, 134, 1722, 1723, 0], []), (456, .if_icmp .eq 871, [1327], []), (459, .iconst 0, [], []), (460, .ireturn, [1], []), (461, .aload_n 1, [], []), (462, .aload_n 0, [], []), (463, .iload_n 3, [], []), (464, .iconst 1, [], []), (465, .iadd, [], []), (466, .iaload, [], []), (467, .aload_n 0, [], []), (468, .iload_n 3, [], []), (469, .iconst 2, [], []), (470, .iadd, [], []), (471, .iaload, [], []), (472, .invokevirtual 55, [112, 3, 1, 10, 1036, 1039, 118, 1037, 1038, 0], []), (475, .aload_n 2, [], []), (476, .aload_n 0, [], []), (477, .iload_n 3, [], []), (478, .iconst 1, [], []), (479, .iadd, [], []), (480, .iaload, [], []), (481, .aload_n 0, [], []), (482, .iload_n 3, [], []), (483, .iconst 2, [], []), (484, .iadd, [], []), (485, .iaload, [], []), (486, .invokevirtual 58, [227, 3, 1, 11, 1729, 1732, 134, 1730, 1731, 0], []), (489, .if_icmp .eq 838, [1327], []), (492, .iconst 0, [], []), (493, .ireturn, [1], []), (494, .aload_n 1, [], []), (495, .invokevirtual 59, [114, 1, 1, 10, 1043, 1046, 118, 1044, 1045, 0], []), (498, .aload_n 2, [], []), (499, .invokevirtual 63, [228, 1, 1, 11, 1733, 1736, 134, 1734, 1735, 0], []), (502, .if_icmp .eq 825, [1327], []), (505, .iconst 0, [], []), (506, .ireturn, [1], []), (507, .aload_n 1, [], []), (508, .aload_n 0, [], []), (509, .iload_n 3, [], []), (510, .iconst 1, [], []), (511, .iadd, [], []), (512, .iaload, [], []), (513, .aload_n 0, [], []), (514, .iload_n 3, [], []), (515, .iconst 2, [], []), (516, .iadd, [], []), (517, .iaload, [], []), (518, .ifCond .eq 7, [525], []), (521, .iconst 1, [], []), (522, .goto 4, [526], []), (525, .iconst 0, [], []), (526, .aload_n 0, [], []), (527, .iload_n 3, [], []), (528, .iconst 3, [], []), (529, .iadd, [], []), (530, .iaload, [], []), (531, .invokevirtual 64, [118, 4, 1, 10, 1063, 1066, 118, 1064, 1065, 0], []), (534, .aload_n 2, [], []), (535, .aload_n 0, [], []), (536, .iload_n 3, [], []), (537, .iconst 1, [], []), (538, .iadd, [], []), (539, .iaload, [], []), (540, .aload_n 0, [], []), (541, .iload_n 3, [], []), (542, .iconst 2, [], []), (543, .iadd, [], []), (544, .iaload, [], []), (545, .ifCond .eq 7, [552], []), (548, .iconst 1, [], []), (549, .goto 4, [553], []), (552, .iconst 0, [], []), (553, .aload_n 0, [], []), (554, .iload_n 3, [], []), (555, .iconst 3, [], []), (556, .iadd, [], []), (557, .iaload, [], []), (558, .invokevirtual 68, [232, 4, 1, 11, 1737, 1740, 134, 1738, 1739, 0], []), (561, .if_icmp .eq 766, [1327], []), (564, .iconst 0, [], []), (565, .ireturn, [1], []), (566, .aload_n 1, [], []), (567, .aload_n 0, [], []), (568, .iload_n 3, [], []), (569, .iconst 1, [], []), (570, .iadd, [], []), (571, .iaload, [], []), (572, .aload_n 0, [], []), (573, .iload_n 3, [], []), (574, .iconst 2, [], []), (575, .iadd, [], []), (576, .iaload, [], []), (577, .ifCond .eq 7, [584], []), (580, .iconst 1, [], []), (581, .goto 4, [585], []), (584, .iconst 0, [], []), (585, .invokevirtual 69, [119, 3, 1, 10, 1072, 1075, 118, 1073, 1074, 0], []), (588, .aload_n 2, [], []), (589, .aload_n 0, [], []), (590, .iload_n 3, [], []), (591, .iconst 1, [], []), (592, .iadd, [], []), (593, .iaload, [], []), (594, .aload_n 0, [], []), (595, .iload_n 3, [], []), (596, .iconst 2, [], []), (597, .iadd, [], []), (598, .iaload, [], []), (599, .ifCond .eq 7, [606], []), (602, .iconst 1, [], []), (603, .goto 4, [607], []), (606, .iconst 0, [], []), (607, .invokevirtual 73, [233, 3, 1, 11, 1752, 1755, 134, 1753, 1754, 0], []), (610, .if_icmp .eq 717, [1327], []), (613, .iconst 0, [], []), (614, .ireturn, [1], []), (615, .aload_n 1, [], []), (616, .aload_n 0, [], []), (617, .iload_n 3, [], []), (618, .iconst 1, [], []), (619, .iadd, [], []), (620, .iaload, [], []), (621, .aload_n 0, [], []), (622, .iload_n 3, [], []), (623, .iconst 2, [], []), (624, .iadd, [], []), (625, .iaload, [], []), (626, .ifCond .eq 7, [633], []), (629, .iconst 1, [], []), (630, .goto 4, [634], []), (633, .iconst 0, [], []), (634, .invokevirtual 74, [120, 3, 1, 10, 1091, 1094, 118, 1092, 1093, 0], []), (637, .aload_n 2, [], []), (638, .aload_n 0, [], []), (639, .iload_n 3, [], []), (640, .iconst 1, [], []), (641, .iadd, [], []), (642, .iaload, [], []), (643, .aload_n 0, [], []), (644, .iload_n 3, [], []), (645, .iconst 2, [], []), (646, .iadd, [], []), (647, .iaload, [], []), (648, .ifCond .eq 7, [655], []), (651, .iconst 1, [], []), (652, .goto 4, [656], []), (655, .iconst 0, [], []), (656, .invokevirtual 77, [234, 3, 1, 11, 1770, 1773, 134, 1771, 1772, 0], []), (659, .if_icmp .eq 668, [1327], []), (662, .iconst 0, [], []), (663, .ireturn, [1], []), (664, .aload_n 1, [], []), (665, .aload_n 0, [], []), (666, .iload_n 3, [], []), (667, .iconst 1, [], []), (668, .iadd, [], []), (669, .iaload, [], []), (670, .ifCond .eq 7, [677], []), (673, .iconst 1, [], []), (674, .goto 4, [678], []), (677, .iconst 0, [], []), (678, .invokevirtual 78, [121, 2, 1, 10, 1099, 1102, 118, 1100, 1101, 0], []), (681, .aload_n 2, [], []), (682, .aload_n 0, [], []), (683, .iload_n 3, [], []), (684, .iconst 1, [], []), (685, .iadd, [], []), (686, .iaload, [], []), (687, .ifCond .eq 7, [694], []), (690, .iconst 1, [], []), (691, .goto 4, [695], []), (694, .iconst 0, [], []), (695, .invokevirtual 82, [235, 2, 1, 11, 1774, 1777, 134, 1775, 1776, 0], []), (698, .if_icmp .eq 629, [1327], []), (701, .iconst 0, [], []), (702, .ireturn, [1], []), (703, .aload_n 1, [], []), (704, .aload_n 0, [], []), (705, .iload_n 3, [], []), (706, .iconst 1, [], []), (707, .iadd, [], []), (708, .iaload, [], []), (709, .ifCond .eq 7, [716], []), (712, .iconst 1, [], []), (713, .goto 4, [717], []), (716, .iconst 0, [], []), (717, .invokevirtual 83, [122, 2, 1, 10, 1111, 1114, 118, 1112, 1113, 0], []), (720, .aload_n 2, [], []), (721, .aload_n 0, [], []), (722, .iload_n 3, [], []), (723, .iconst 1, [], []), (724, .iadd, [], []), (725, .iaload, [], []), (726, .ifCond .eq 7, [733], []), (729, .iconst 1, [], []), (730, .goto 4, [734], []), (733, .iconst 0, [], []), (734, .invokevirtual 86, [236, 2, 1, 11, 1782, 1785, 134, 1783, 1784, 0], []), (737, .if_icmp .eq 590, [1327], []), (740, .iconst 0, [], []), (741, .ireturn, [1], []), (742, .aload_n 1, [], []), (743, .aload_n 0, [], []), (744, .iload_n 3, [], []), (745, .iconst 1, [], []), (746, .iadd, [], []), (747, .iaload, [], []), (748, .aload_n 0, [], []), (749, .iload_n 3, [], []), (750, .iconst 2, [], []), (751, .iadd, [], []), (752, .iaload, [], []), (753, .ifCond .eq 7, [760], []), (756, .iconst 1, [], []), (757, .goto 4, [761], []), (760, .iconst 0, [], []), (761, .invokevirtual 87, [123, 3, 1, 10, 1115, 1118, 118, 1116, 1117, 0], []), (764, .aload_n 2, [], []), (765, .aload_n 0, [], []), (766, .iload_n 3, [], []), (767, .iconst 1, [], []), (768, .iadd, [], []), (769, .iaload, [], []), (770, .aload_n 0, [], []), (771, .iload_n 3, [], []), (772, .iconst 2, [], []), (773, .iadd, [], []), (774, .iaload, [], []), (775, .ifCond .eq 7, [782], []), (778, .iconst 1, [], []), (779, .goto 4, [783], []), (782, .iconst 0, [], []), (783, .invokevirtual 90, [237, 3, 1, 11, 1786, 1789, 134, 1787, 1788, 0], []), (786, .if_icmp .eq 541, [1327], []), (789, .iconst 0, [], []), (790, .ireturn, [1], []), (791, .aload_n 1, [], []), (792, .aload_n 0, [], []), (793, .iload_n 3, [], []), (794, .iconst 1, [], []), (795, .iadd, [], []), (796, .iaload, [], []), (797, .invokevirtual 91, [124, 2, 1, 10, 1123, 1126, 118, 1124, 1125, 0], []), (800, .aload_n 2, [], []), (801, .aload_n 0, [], []), (802, .iload_n 3, [], []), (803, .iconst 1, [], []), (804, .iadd, [], []), (805, .iaload, [], []), (806, .invokevirtual 94, [238, 2, 1, 11, 1790, 1793, 134, 1791, 1792, 0], []), (809, .if_icmp .eq 518, [1327], []), (812, .iconst 0, [], []), (813, .ireturn, [1], []), (814, .aload_n 1, [], []), (815, .aload_n 0, [], []), (816, .iload_n 3, [], []), (817, .iconst 1, [], []), (818, .iadd, [], []), (819, .iaload, [], []), (820, .invokevirtual 95, [125, 2, 1, 10, 1127, 1130, 118, 1128, 1129, 0], []), (823, .aload_n 2, [], []), (824, .aload_n 0, [], []), (825, .iload_n 3, [], []), (826, .iconst 1, [], []), (827, .iadd, [], []), (828, .iaload, [], []), (829, .invokevirtual 98, [242, 2, 1, 11, 1794, 1797, 134, 1795, 1796, 0], []), (832, .if_icmp .eq 495, [1327], []), (835, .iconst 0, [], []), (836, .ireturn, [1], []), (837, .aload_n 1, [], []), (838, .aload_n 0, [], []), (839, .iload_n 3, [], []), (840, .iconst 1, [], []), (841, .iadd, [], []), (842, .iaload, [], []), (843, .aload_n 0, [], []), (844, .iload_n 3, [], []), (845, .iconst 2, [], []), (846, .iadd, [], []), (847, .iaload, [], []), (848, .ifCond .eq 7, [855], []), (851, .iconst 1, [], []), (852, .goto 4, [856], []), (855, .iconst 0, [], []), (856, .invokevirtual 99, [126, 3, 1, 10, 1145, 1148, 118, 1146, 1147, 0], []), (859, .aload_n 2, [], []), (860, .aload_n 0, [], []), (861, .iload_n 3, [], []), (862, .iconst 1, [], []), (863, .iadd, [], []), (864, .iaload, [], []), (865, .aload_n 0, [], []), (866, .iload_n 3, [], []), (867, .iconst 2, [], []), (868, .iadd, [], []), (869, .iaload, [], []), (870, .ifCond .eq 7, [877], []), (873, .iconst 1, [], []), (874, .goto 4, [878], []), (877, .iconst 0, [], []), (878, .invokevirtual 102, [243, 3, 1, 11, 1813, 1816, 134, 1814, 1815, 0], []), (881, .if_icmp .eq 446, [1327], []), (884, .iconst 0, [], []), (885, .ireturn, [1], []), (886, .aload_n 1, [], []), (887, .aload_n 0, [], []), (888, .iload_n 3, [], []), (889, .iconst 1, [], []), (890, .iadd, [], []), (891, .iaload, [], []), (892, .invokevirtual 103, [127, 2, 1, 10, 1149, 1152, 118, 1150, 1151, 0], []), (895, .aload_n 2, [], []), (896, .aload_n 0, [], []), (897, .iload_n 3, [], []), (898, .iconst 1, [], []), (899, .iadd, [], []), (900, .iaload, [], []), (901, .invokevirtual 106, [244, 2, 1, 11, 1817, 1820, 134, 1818, 1819, 0], []), (904, .if_icmp .eq 423, [1327], []), (907, .iconst 0, [], []), (908, .ireturn, [1], []), (909, .aload_n 1, [], []), (910, .invokevirtual 107, [130, 1, 1, 10, 1154, 1157, 118, 1155, 1156, 0], []), (913, .aload_n 2, [], []), (914, .invokevirtual 110, [245, 1, 1, 11, 1821, 1824, 134, 1822, 1823, 0], []), (917, .if_icmp .eq 410, [1327], []), (920, .iconst 0, [], []), (921, .ireturn, [1], []), (922, .aload_n 1, [], []), (923, .aload_n 0, [], []), (924, .iload_n 3, [], []), (925, .iconst 1, [], []), (926, .iadd, [], []), (927, .iaload, [], []), (928, .aload_n 0, [], []), (929, .iload_n 3, [], []), (930, .iconst 2, [], []), (931, .iadd, [], []), (932, .iaload, [], []), (933, .ifCond .eq 7, [940], []), (936, .iconst 1, [], []), (937, .goto 4, [941], []), (940, .iconst 0, [], []), (941, .invokevirtual 111, [132, 3, 1, 10, 1166, 1169, 118, 1167, 1168, 0], []), (944, .aload_n 2, [], []), (945, .aload_n 0, [], []), (946, .iload_n 3, [], []), (947, .iconst 1, [], []), (948, .iadd, [], []), (949, .iaload, [], []), (950, .aload_n 0, [], []), (951, .iload_n 3, [], []), (952, .iconst 2, [], []), (953, .iadd, [], []), (954, .iaload, [], []), (955, .ifCond .eq 7, [962], []), (958, .iconst 1, [], []), (959, .goto 4, [963], []), (962, .iconst 0, [], []), (963, .invokevirtual 114, [247, 3, 1, 11, 1825, 1828, 134, 1826, 1827, 0], []), (966, .if_icmp .eq 361, [1327], []), (969, .iconst 0, [], []), (970, .ireturn, [1], []), (971, .aload_n 1, [], []), (972, .invokevirtual 115, [133, 1, 1, 10, 1174, 1177, 118, 1175, 1176, 0], []), (975, .aload_n 2, [], []), (976, .invokevirtual 118, [248, 1, 1, 11, 1833, 1836, 134, 1834, 1835, 0], []), (979, .if_icmp .eq 348, [1327], []), (982, .iconst 0, [], []), (983, .ireturn, [1], []), (984, .aload_n 1, [], []), (985, .invokevirtual 119, [135, 1, 1, 10, 1178, 1181, 118, 1179, 1180, 0], []), (988, .aload_n 2, [], []), (989, .invokevirtual 122, [249, 1, 1, 11, 1837, 1840, 134, 1838, 1839, 0], []), (992, .if_icmp .eq 335, [1327], []), (995, .iconst 0, [], []), (996, .ireturn, [1], []), (997, .aload_n 1, [], []), (998, .invokevirtual 123, [136, 1, 1, 10, 1182, 1185, 118, 1183, 1184, 0], []), (1001, .aload_n 2, [], []), (1002, .invokevirtual 126, [251, 1, 1, 11, 1841, 1844, 134, 1842, 1843, 0], []), (1005, .if_icmp .eq 322, [1327], []), (1008, .iconst 0, [], []), (1009, .ireturn, [1], []), (1010, .aload_n 1, [], []), (1011, .aload_n 0, [], []), (1012, .iload_n 3, [], []), (1013, .iconst 1, [], []), (1014, .iadd, [], []), (1015, .iaload, [], []), (1016, .invokevirtual 127, [137, 2, 1, 10, 1186, 1189, 118, 1187, 1188, 0], []), (1019, .aload_n 2, [], []), (1020, .aload_n 0, [], []), (1021, .iload_n 3, [], []), (1022, .iconst 1, [], []), (1023, .iadd, [], []), (1024, .iaload, [], []), (1025, .invokevirtual 130, [254, 2, 1, 11, 1849, 1852, 134, 1850, 1851, 0], []), (1028, .if_icmp .eq 299, [1327], []), (1031, .iconst 0, [], []), (1032, .ireturn, [1], []), (1033, .aload_n 1, [], []), (1034, .aload_n 0, [], []), (1035, .iload_n 3, [], []), (1036, .iconst 1, [], []), (1037, .iadd, [], []), (1038, .iaload, [], []), (1039, .invokevirtual 131, [140, 2, 1, 10, 1199, 1202, 118, 1200, 1201, 0], []), (1042, .aload_n 2, [], []), (1043, .aload_n 0, [], []), (1044, .iload_n 3, [], []), (1045, .iconst 1, [], []), (1046, .iadd, [], []), (1047, .iaload, [], []), (1048, .invokevirtual 134, [256, 2, 1, 11, 1861, 1864, 134, 1862, 1863, 0], []), (1051, .if_icmp .eq 276, [1327], []), (1054, .iconst 0, [], []), (1055, .ireturn, [1], []), (1056, .aload_n 1, [], []), (1057, .aload_n 0, [], []), (1058, .iload_n 3, [], []), (1059, .iconst 1, [], []), (1060, .iadd, [], []), (1061, .iaload, [], []), (1062, .aload_n 0, [], []), (1063, .iload_n 3, [], []), (1064, .iconst 2, [], []), (1065, .iadd, [], []), (1066, .iaload, [], []), (1067, .invokevirtual 135, [141, 3, 1, 10, 1214, 1217, 118, 1215, 1216, 0], []), (1070, .aload_n 2, [], []), (1071, .aload_n 0, [], []), (1072, .iload_n 3, [], []), (1073, .iconst 1, [], []), (1074, .iadd, [], []), (1075, .iaload, [], []), (1076, .aload_n 0, [], []), (1077, .iload_n 3, [], []), (1078, .iconst 2, [], []), (1079, .iadd, [], []), (1080, .iaload, [], []), (1081, .invokevirtual 138, [257, 3, 1, 11, 1869, 1872, 134, 1870, 1871, 0], []), (1084, .if_icmp .eq 243, [1327], []), (1087, .iconst 0, [], []), (1088, .ireturn, [1], []), (1089, .aload_n 1, [], []), (1090, .aload_n 0, [], []), (1091, .iload_n 3, [], []), (1092, .iconst 1, [], []), (1093, .iadd, [], []), (1094, .iaload, [], []), (1095, .aload_n 0, [], []), (1096, .iload_n 3, [], []), (1097, .iconst 2, [], []), (1098, .iadd, [], []), (1099, .iaload, [], []), (1100, .ifCond .eq 7, [1107], []), (1103, .iconst 1, [], []), (1104, .goto 4, [1108], []), (1107, .iconst 0, [], []), (1108, .aload_n 0, [], []), (1109, .iload_n 3, [], []), (1110, .iconst 3, [], []), (1111, .iadd, [], []), (1112, .iaload, [], []), (1113, .aload_n 0, [], []), (1114, .iload_n 3, [], []), (1115, .iconst 4, [], []), (1116, .iadd, [], []), (1117, .iaload, [], []), (1118, .aload_n 0, [], []), (1119, .iload_n 3, [], []), (1120, .iconst 5, [], []), (1121, .iadd, [], []), (1122, .iaload, [], []), (1123, .ifCond .eq 7, [1130], []), (1126, .iconst 1, [], []), (1127, .goto 4, [1131], []), (1130, .iconst 0, [], []), (1131, .aload_n 0, [], []), (1132, .iload_n 3, [], []), (1133, .bipush 6, [], []), (1135, .iadd, [], []), (1136, .iaload, [], []), (1137, .ifCond .eq 7, [1144], []), (1140, .iconst 1, [], []), (1141, .goto 4, [1145], []), (1144, .iconst 0, [], []), (1145, .invokevirtual 139, [146, 7, 1, 10, 1218, 1221, 118, 1219, 1220, 0], []), (1148, .aload_n 2, [], []), (1149, .aload_n 0, [], []), (1150, .iload_n 3, [], []), (1151, .iconst 1, [], []), (1152, .iadd, [], []), (1153, .iaload, [], []), (1154, .aload_n 0, [], []), (1155, .iload_n 3, [], []), (1156, .iconst 2, [], []), (1157, .iadd, [], []), (1158, .iaload, [], []), (1159, .ifCond .eq 7, [1166], []), (1162, .iconst 1, [], []), (1163, .goto 4, [1167], []), (1166, .iconst 0, [], []), (1167, .aload_n 0, [], []), (1168, .iload_n 3, [], []), (1169, .iconst 3, [], []), (1170, .iadd, [], []), (1171, .iaload, [], []), (1172, .aload_n 0, [], []), (1173, .iload_n 3, [], []), (1174, .iconst 4, [], []), (1175, .iadd, [], []), (1176, .iaload, [], []), (1177, .aload_n 0, [], []), (1178, .iload_n 3, [], []), (1179, .iconst 5, [], []), (1180, .iadd, [], []), (1181, .iaload, [], []), (1182, .ifCond .eq 7, [1189], []), (1185, .iconst 1, [], []), (1186, .goto 4, [1190], []), (1189, .iconst 0, [], []), (1190, .aload_n 0, [], []), (1191, .iload_n 3, [], []), (1192, .bipush 6, [], []), (1194, .iadd, [], []), (1195, .iaload, [], []), (1196, .ifCond .eq 7, [1203], []), (1199, .iconst 1, [], []), (1200, .goto 4, [1204], []), (1203, .iconst 0, [], []), (1204, .invokevirtual 143, [258, 7, 1, 11, 1873, 1876, 134, 1874, 1875, 0], []), (1207, .if_icmp .eq 120, [1327], []), (1210, .iconst 0, [], []), (1211, .ireturn, [1], []), (1212, .aload_n 1, [], []), (1213, .invokevirtual 144, [148, 1, 1, 10, 1229, 1232, 118, 1230, 1231, 0], []), (1216, .aload_n 2, [], []), (1217, .invokevirtual 147, [259, 1, 1, 11, 1877, 1880, 134, 1878, 1879, 0], []), (1220, .if_icmp .eq 107, [1327], []), (1223, .iconst 0, [], []), (1224, .ireturn, [1], []), (1225, .aload_n 1, [], []), (1226, .aload_n 0, [], []), (1227, .iload_n 3, [], []), (1228, .iconst 1, [], []), (1229, .iadd, [], []), (1230, .iaload, [], []), (1231, .aload_n 0, [], []), (1232, .iload_n 3, [], []), (1233, .iconst 2, [], []), (1234, .iadd, [], []), (1235, .iaload, [], []), (1236, .invokevirtual 148, [149, 3, 1, 10, 1233, 1236, 118, 1234, 1235, 0], []), (1239, .aload_n 2, [], []), (1240, .aload_n 0, [], []), (1241, .iload_n 3, [], []), (1242, .iconst 1, [], []), (1243, .iadd, [], []), (1244, .iaload, [], []), (1245, .aload_n 0, [], []), (1246, .iload_n 3, [], []), (1247, .iconst 2, [], []), (1248, .iadd, [], []), (1249, .iaload, [], []), (1250, .invokevirtual 151, [261, 3, 1, 11, 1881, 1884, 134, 1882, 1883, 0], []), (1253, .if_icmp .eq 74, [1327], []), (1256, .iconst 0, [], []), (1257, .ireturn, [1], []), (1258, .aload_n 1, [], []), (1259, .aload_n 0, [], []), (1260, .iload_n 3, [], []), (1261, .iconst 1, [], []), (1262, .iadd, [], []), (1263, .iaload, [], []), (1264, .invokevirtual 152, [115, 2, 1, 10, 1051, 1054, 118, 1052, 1053, 0], []), (1267, .aload_n 2, [], []), (1268, .aload_n 0, [], []), (1269, .iload_n 3, [], []), (1270, .iconst 1, [], []), (1271, .iadd, [], []), (1272, .iaload, [], []), (1273, .invokevirtual 156, [262, 2, 1, 11, 1889, 1892, 134, 1890, 1891, 0], []), (1276, .if_icmp .eq 51, [1327], []), (1279, .iconst 0, [], []), (1280, .ireturn, [1], []), (1281, .aload_n 1, [], []), (1282, .aload_n 0, [], []), (1283, .iload_n 3, [], []), (1284, .iconst 1, [], []), (1285, .iadd, [], []), (1286, .iaload, [], []), (1287, .invokevirtual 157, [116, 2, 1, 10, 1059, 1062, 118, 1060, 1061, 0], []), (1290, .aload_n 2, [], []), (1291, .aload_n 0, [], []), (1292, .iload_n 3, [], []), (1293, .iconst 1, [], []), (1294, .iadd, [], []), (1295, .iaload, [], []), (1296, .invokevirtual 160, [263, 2, 1, 11, 1893, 1896, 134, 1894, 1895, 0], []), (1299, .if_icmp .eq 28, [1327], []), (1302, .iconst 0, [], []), (1303, .ireturn, [1], []), (1304, .aload_n 1, [], []), (1305, .aload_n 0, [], []), (1306, .iload_n 3, [], []), (1307, .iconst 1, [], []), (1308, .iadd, [], []), (1309, .iaload, [], []), (1310, .invokevirtual 161, [103, 2, 1, 10, 898, 901, 118, 899, 900, 0], []), (1313, .aload_n 2, [], []), (1314, .aload_n 0, [], []), (1315, .iload_n 3, [], []), (1316, .iconst 1, [], []), (1317, .iadd, [], []), (1318, .iaload, [], []), (1319, .invokevirtual 164, [264, 2, 1, 11, 1897, 1900, 134, 1898, 1899, 0], []), (1322, .if_icmp .eq 5, [1327], []), (1325, .iconst 0, [], []), (1326, .ireturn, [1], []), (1327, .iinc 3 7, [], []), (1330, .goto (-1312), [18], []), (1333, .iconst 1, [], [0, 1, 2, 3]), (1334, .ireturn, [1], [])]
def wb_kls : List (List (List wb_E)) := [[[], [], wb_k_Diary_init, wb_k_Diary_clear, wb_k_Diary_add, wb_k_Diary_habitsThatFit, wb_k_Diary_allFit, wb_k_Diary_isBrownBy, wb_k_Evening_init, wb_k_Evening_arrange, wb_k_Evening_changePlaces, wb_k_Evening_moveTo, wb_k_Evening_unfold, wb_k_Evening_putRight, wb_k_Evening_gatherSeen, wb_k_Evening_seenOf],
 [wb_k_Evening_spread, wb_k_Evening_lay, wb_k_Evening_allWrong, wb_k_Evening_weightOfRow, wb_k_Evening_weightOfWrongs, wb_k_Evening_binsOf, wb_k_Evening_binAt, wb_k_Evening_oneBin, wb_k_Evening_binByMost, wb_k_Evening_binOfModel, wb_k_Evening_binByWorlds, wb_k_Evening_binByLaw, wb_k_Evening_goBy, wb_k_Evening_isWrong, wb_k_Evening_lotOfTen, wb_k_Evening_stir],
 [wb_k_Fence_init, wb_k_Fence_settle, wb_k_Fence_lookOver, wb_k_Laws_init, wb_k_Laws_clear, wb_k_Laws_begin, wb_k_Laws_emit, wb_k_Laws_aim, wb_k_Laws_bin, wb_k_Laws_caseOf, wb_k_Laws_reckonCases, wb_k_Laws_reckonSigns, wb_k_Laws_run, wb_k_Laws_reckon, wb_k_Past_init, wb_k_Past_clear],
 [wb_k_Past_remember, wb_k_Past_recall, wb_k_Plan_init, wb_k_Plan_clear, wb_k_Plan_find, wb_k_Plan_reckonLaws, wb_k_Plan_sureOf, wb_k_Plan_habitOf, wb_k_Reader_init, wb_k_Reader_parse, wb_k_Reader_fail, wb_k_Reader_failLater, wb_k_Reader_take, wb_k_Reader_takeInt, wb_k_Reader_parseSetting, wb_k_Reader_parseHouse],
 [wb_k_Reader_parseHabit, wb_k_Reader_parseModel, wb_k_Reader_parseLaw, wb_k_Reader_parseSum, wb_k_Reader_parseUnit, wb_k_Reader_takeAndWait, wb_k_Reader_emitWaiting, wb_k_Reader_bindingOf, wb_k_Standing_init, wb_k_Standing_of, wb_k_Standing_set, wb_k_Standing_clear, wb_k_Standing_copy, wb_k_Standing_record, wb_k_Tape_init, wb_k_Tape_hasRoomFor],
 [wb_k_Tape_add, wb_k_Tape_at, wb_k_Tokens_init, wb_k_Tokens_cut, wb_k_Tokens_cutOne, wb_k_Tokens_cutWord, wb_k_Tokens_cutInt, wb_k_Tokens_cutNoToken, wb_k_Tokens_add, wb_k_Tokens_kindOf, wb_k_Tokens_withLetter, wb_k_Tokens_isBlank, wb_k_Tokens_isLetter, wb_k_Tokens_isDigit, wb_k_X_init, wb_k_X_feed],
 [wb_k_X_back, wb_k_X_read, wb_k_X_place, wb_k_X_startAnew, wb_k_X_forgetAnswers, wb_k_X_house, wb_k_X_night, wb_k_X_count, wb_k_X_heldSlots, wb_k_X_isHouse, wb_k_X_isRow, wb_k_X_hasBit, wb_k_X_allHouses, wb_k_X_nights, wb_k_X_leaflet, wb_k_X_swap],
 [wb_k_X_habit, wb_k_X_canBeSet, wb_k_X_undo, wb_k_X_hold, wb_k_X_restore, wb_k_X_isSlot, wb_k_X_puts, wb_k_X_chance, wb_k_X_street, wb_k_X_mean, wb_k_X_pays, wb_k_X_tells, wb_k_X_herd, wb_k_X_whom, wb_k_X_worth, wb_k_X_fewest],
 [wb_k_X_bestLeaflets, wb_k_X_meanWith, wb_k_X_bestSwap, wb_k_X_meanIfChanged, wb_k_X_hour, wb_k_X_bestHour, wb_k_X_meanIfPutRight, wb_k_X_two, wb_k_X_better, wb_k_X_rests, wb_k_X_findRests, wb_k_X_isResting, wb_k_X_fence, wb_k_X_year, wb_k_X_tonight, wb_k_X_allWeight],
 [wb_k_X_partOfAll, wb_k_X_fraction, wb_k_X_tell, wb_k_X_isSeen, wb_k_X_forget, wb_k_X_fits, wb_k_M_init, wb_k_M_feed, wb_k_M_put, wb_k_M_back, wb_k_M_byteAt, wb_k_M_isDigit, wb_k_M_isLetter, wb_k_M_appends, wb_k_M_word, wb_k_M_token],
 [wb_k_M_cut, wb_k_M_sign, wb_k_M_is, wb_k_M_fail, wb_k_M_wrong, wb_k_M_goesOn, wb_k_M_must, wb_k_M_plain, wb_k_M_read, wb_k_M_place, wb_k_M_tellOne, wb_k_M_setting, wb_k_M_bounded, wb_k_M_named, wb_k_M_tellHouse, wb_k_M_tellHabit],
 [wb_k_M_tellLaw, wb_k_M_term, wb_k_M_emit, wb_k_M_comesOut, wb_k_M_expression, wb_k_M_unit, wb_k_M_termOf, wb_k_M_in, wb_k_M_bits, wb_k_M_isHouse, wb_k_M_begins, wb_k_M_plainly, wb_k_M_keepsRow, wb_k_M_copies, wb_k_M_hasLeaflet, wb_k_M_sureNow],
 [wb_k_M_habitNow, wb_k_M_houseAt, wb_k_M_worlds, wb_k_M_fillsWeights, wb_k_M_signIn, wb_k_M_plainOf, wb_k_M_mostOf, wb_k_M_seenFrom, wb_k_M_seenOf, wb_k_M_asOne, wb_k_M_lawOf, wb_k_M_isSeenAlike, wb_k_M_wiseOf, wb_k_M_putOf, wb_k_M_aheadIn, wb_k_M_rights],
 [wb_k_M_fillsOut, wb_k_M_isWrongIn, wb_k_M_wrongIn, wb_k_M_allWeight, wb_k_M_chanceOf, wb_k_M_meanNow, wb_k_M_common, wb_k_M_lineOf, wb_k_M_mixed, wb_k_M_lotOf, wb_k_M_worldNow, wb_k_M_nightGoes, wb_k_M_house, wb_k_M_night, wb_k_M_keeps, wb_k_M_nights],
 [wb_k_M_leaflet, wb_k_M_swaps, wb_k_M_swap, wb_k_M_habit, wb_k_M_undo, wb_k_M_isRow, wb_k_M_setsAhead, wb_k_M_lays, wb_k_M_puts, wb_k_M_chance, wb_k_M_street, wb_k_M_mean, wb_k_M_pays, wb_k_M_tells, wb_k_M_herd, wb_k_M_meanWith],
 [wb_k_M_allHouses, wb_k_M_bestLeaflets, wb_k_M_whom, wb_k_M_worth, wb_k_M_fewest, wb_k_M_bestSwap, wb_k_M_meanFrom, wb_k_M_hour, wb_k_M_bestHour, wb_k_M_two, wb_k_M_chanceNow, wb_k_M_better, wb_k_M_fillsChances, wb_k_M_isResting, wb_k_M_rests, wb_k_M_looksOver],
 [wb_k_M_fence, wb_k_M_year, wb_k_M_tell, wb_k_M_forget, wb_k_M_putBy, wb_k_M_fits, wb_k_M_hold, wb_k_M_restore, wb_k_M_count, wb_k_JInteger_bitCount, wb_k_JMath_abs, wb_k_JMath_max, wb_k_JMath_min, wb_k_JString_length, wb_k_JString_charAt, wb_k_JString_indexOf1],
 [wb_k_JString_indexOf2, wb_k_JString_coder, wb_k_JString_isLatin1, wb_k_JString_checkIndex, wb_k_JStringLatin1_charAt, wb_k_JStringLatin1_canEncode, wb_k_JStringLatin1_indexOf, wb_k_JStringLatin1_indexOfChar, wb_k_JArrays_rangeCheck, wb_k_JArrays_fill2, wb_k_JArrays_fill4, wb_k_JPreconditions_checkIndex, wb_k_WhichBinLaw_law]]
def wb_code (m : Nat) : List wb_E := (wb_kls.getD (m / 16) []).getD (m % 16) []
set_option maxRecDepth 100000 in
def wb_shl : List (Nat × Nat) := [(9, 0), (9, 0), (9, 0), (9, 0), (9, 0), (9, 0), (9, 0), (9, 0), (9, 0), (9, 0), (0, 0), (0, 1), (0, 2), (0, 3), (0, 4), (0, 5), (0, 6), (0, 7), (0, 8), (0, 9), (0, 10), (0, 11), (1, 20), (1, 20), (3, 20), (3, 20), (3, 20), (1, 6), (1, 6), (1, 6), (1, 6), (1, 6), (1, 1093), (1, 1093), (1, 364), (1, 364), (1, 6), (1, 6), (1, 6), (1, 6), (1, 6), (1, 402), (1, 402), (1, 6), (1, 7), (1, 40), (2, 1296), (5, 40), (4, 6), (1, 6), (1, 6), (1, 6), (1, 6), (1, 400), (1, 30), (2, 2000), (4, 22), (1, 402), (1, 402), (4, 402), (5, 3), (3, 3), (1, 64), (1, 384), (1, 64), (2, 2000), (2, 2000), (1, 403), (1, 403), (1, 403), (4, 403), (4, 22), (4, 6), (1, 2), (1, 12), (1, 12), (1, 12), (1, 12), (1, 12), (1, 12), (1, 2), (1, 2), (1, 2), (1, 2), (1, 2), (3, 260), (1, 260), (1, 260), (1, 260), (1, 260), (1, 840), (1, 840), (1, 64), (1, 7), (1, 400), (1, 48), (1, 48), (1, 768), (1, 128), (1, 6), (1, 1920), (1, 384), (1, 6), (1, 6), (1, 20), (1, 20), (1, 20), (1, 20), (3, 3), (1, 144)]
set_option maxRecDepth 100000 in
def wb_cnl : List Nat := [0, 0, 0, 0, 0, 0, 0, 0, 0, 0, 1, 1, 1, 2, 1, 2, 1, 44, 1, 1, 1, 1, 1, 1, 1, 1, 1, 1, 1, 1, 1, 1, 1, 1, 1, 1, 1, 1, 1, 1, 1, 2, 2, 2, 2, 2, 2, 1, 2, 2, 2, 2, 2, 1, 44, 1, 1, 1, 1, 1, 1, 1, 1, 1, 1, 1, 1, 1, 1, 1, 1, 1, 1, 1, 1, 1, 1, 1, 1, 1, 1, 1, 1, 1, 1, 1, 1, 1, 1, 1, 1, 1, 1, 1, 1, 1, 1, 1, 1, 1, 1, 1, 1, 1, 1, 1, 1, 1, 1, 1]
def wb_NT : Nat := 110
set_option maxRecDepth 100000 in
def wb_rfl : List (List (Nat × (Nat × Nat))) := [[], [], [], [], [], [], [], [], [], [], [(22, 0, 0), (23, 0, 0), (24, 0, 0), (25, 0, 0), (26, 0, 0), (0, 9, 0)], [(15, 2, 0), (0, 9, 0), (27, 0, 0), (28, 0, 0), (29, 0, 0), (30, 0, 0), (31, 0, 0), (32, 0, 0), (33, 0, 0), (34, 0, 0), (35, 0, 0), (36, 0, 0), (0, 9, 0), (0, 9, 0), (37, 0, 0), (38, 0, 0), (0, 9, 0), (0, 9, 0)], [(39, 0, 0), (40, 0, 0), (0, 9, 0), (0, 9, 0)], [(41, 0, 0), (42, 0, 0), (43, 0, 0), (44, 0, 0), (45, 0, 0), (46, 0, 0), (0, 9, 0)], [(47, 0, 0), (0, 9, 0), (0, 9, 0)], [(0, 9, 0), (48, 0, 0), (49, 0, 0), (50, 0, 0), (51, 0, 0), (52, 0, 0), (13, 0, 0), (0, 9, 0), (0, 9, 0), (0, 9, 0), (0, 9, 0), (0, 9, 0)], [(19, 1, 0), (53, 0, 0), (15, 2, 0), (0, 9, 0), (0, 9, 0), (0, 9, 0), (0, 9, 0), (0, 9, 0), (0, 9, 0), (0, 9, 0)], [(54, 0, 0), (0, 9, 0), (0, 9, 0), (0, 9, 0), (0, 9, 0), (0, 9, 0), (0, 9, 0), (0, 9, 0)], [(55, 0, 0), (0, 9, 0)], [(56, 0, 0), (57, 0, 0), (58, 0, 0), (59, 0, 0), (0, 9, 0)], [(18, 1, 0), (16, 1, 0), (15, 2, 0), (15, 2, 0), (17, 1, 0), (14, 1, 0), (60, 0, 0), (61, 0, 0), (10, 1, 0), (11, 1, 0), (12, 1, 0), (62, 0, 0), (63, 0, 0), (64, 0, 0), (0, 9, 0), (0, 9, 0)], [(0, 9, 0), (65, 0, 0), (0, 9, 0), (66, 0, 0), (0, 9, 0), (67, 0, 0), (68, 0, 0), (69, 0, 0), (70, 0, 0), (71, 0, 0), (0, 9, 0), (0, 9, 0), (0, 9, 0), (0, 9, 0), (0, 9, 0), (0, 9, 0), (0, 9, 0), (0, 9, 0), (0, 9, 0), (0, 9, 0), (72, 0, 0), (73, 0, 0), (74, 0, 0), (75, 0, 0), (76, 0, 0), (77, 0, 0), (78, 0, 0), (79, 0, 0), (80, 0, 0), (81, 0, 0), (82, 0, 0), (83, 0, 0), (84, 0, 0), (0, 9, 0), (85, 0, 0), (86, 0, 0), (87, 0, 0), (88, 0, 0), (89, 0, 0), (0, 9, 0), (90, 0, 0), (91, 0, 0), (92, 0, 0), (0, 9, 0), (93, 0, 0), (94, 0, 0), (0, 9, 0), (95, 0, 0), (96, 0, 0), (0, 9, 0), (0, 9, 0), (97, 0, 0), (98, 0, 0), (99, 0, 0), (0, 9, 0), (100, 0, 0), (101, 0, 0), (102, 0, 0), (103, 0, 0), (0, 9, 0), (104, 0, 0), (105, 0, 0), (106, 0, 0), (107, 0, 0), (108, 0, 0), (109, 0, 0)], [], [], [], [], [], [], [], [], [], [], [], [], [], [], [], [], [], [], [], [], [], [], [], [], [], [(17, 3, 1)], [], [], [], [], [], [], [], [], [], [], [], [], [(17, 3, 41)], [], [], [], [], [], [], [], [], [], [], [], [], [], [], [], [], [], [], [], [], [], [], [], [], [], [], [], [], [], [], [], [], [], [], [], [], [], [], [], [], [], [], [], [], [], [], [], [], []]
/-- the kind of each field: 0 int, 1 long, 2 reference, 3 boolean -/
def wb_fkl : List (List Nat) := [[2, 2, 2, 2, 2, 0], [2, 0, 2, 2, 2, 2, 2, 2, 2, 2, 2, 2, 0, 3, 2, 2, 0, 0], [2, 2, 0, 0], [2, 2, 2, 2, 2, 2, 0], [2, 0, 0], [0, 2, 2, 2, 2, 2, 2, 0, 0, 0, 0, 0], [2, 2, 2, 0, 0, 0, 0, 0, 0, 0], [2, 0, 0, 0, 0, 3, 0, 0], [2, 0], [2, 2, 2, 2, 0], [2, 2, 2, 2, 2, 2, 2, 2, 2, 2, 2, 2, 2, 2, 0, 3], [0, 2, 0, 2, 0, 2, 2, 2, 2, 2, 0, 0, 0, 0, 0, 0, 0, 0, 0, 0, 2, 2, 2, 2, 2, 2, 2, 2, 2, 2, 2, 2, 2, 0, 2, 2, 2, 2, 2, 0, 2, 2, 2, 0, 2, 2, 3, 2, 2, 0, 0, 2, 2, 2, 0, 2, 2, 2, 2, 0, 2, 2, 2, 2, 2, 2]]
set_option maxRecDepth 100000 in
def wb_WB : List Int32 := [104, 111, 117, 115, 101, 32, 98, 114, 111, 119, 110, 32, 102, 105, 110, 101, 32, 98, 111, 116, 104, 32, 108, 101, 97, 102, 108, 101, 116, 32, 115, 101, 101, 100, 32, 111, 119, 110, 32, 109, 111, 115, 116, 32, 102, 105, 114, 115, 116, 32, 97, 115, 32, 119, 105, 115, 101, 32, 116, 119, 111, 32, 105, 102, 32, 116, 104, 101, 110, 32, 101, 108, 115, 101, 32, 115, 105, 103, 110, 32, 98, 114, 111, 119, 110, 115, 32, 98, 108, 117, 101, 115, 32, 115, 101, 101, 115, 32, 115, 117, 114, 101, 32, 110, 117, 109, 98, 101, 114, 32, 108, 101, 97, 100, 32]
def wb_SB : List Int32 := [59, 61, 43, 45, 42, 47, 60, 40, 41]
end
section
/-! A plain machine over the code lists: values, objects by tag and instance, one step, runs. -/
abbrev wb_V : Type := Int32 ⊕ (Int64 ⊕ (Nat × Nat))
abbrev wb_L : Type := List (Option wb_V)
abbrev wb_H : Type := (Nat → Nat → Nat → Int32) × ((Nat → Nat → Nat → Int64) × (Nat → Nat → Nat → Nat))
abbrev wb_N : Type := (Nat → Nat) × (Nat × Nat)
abbrev wb_C : Type := Nat × (wb_L × (List wb_V × (wb_H × wb_N)))
abbrev wb_B : Type := List (Bool × Option wb_C) × Option wb_C
abbrev wb_K : Type := (Nat × (List wb_V × (wb_H × wb_N))) × (Bool × (Nat × (Nat × (wb_L × List wb_V))))
abbrev wb_R : Type := Option wb_V × (wb_H × wb_N)
abbrev wb_A : Type := wb_B ⊕ (wb_K ⊕ (Bool × wb_R))
abbrev wb_X : Type := Nat × (Nat → Int32)
def wb_g : wb_L → Nat → Option wb_V
  | [], _ => none
  | a :: _, 0 => a
  | _ :: l, k + 1 => wb_g l k
def wb_s : wb_L → Nat → Option wb_V → wb_L
  | [], _, _ => []
  | _ :: l, 0, v => v :: l
  | a :: l, k + 1, v => a :: wb_s l k v
def wb_kl (ls : wb_L) : Nat → wb_L
  | 0 => ls
  | j + 1 => match wb_g ls j with
    | some (.inr (.inl _)) => wb_s ls j none
    | _ => ls
def wb_s1 (ls : wb_L) (k : Nat) (v : wb_V) : wb_L := wb_s (wb_kl ls k) k (some v)
def wb_s2 (ls : wb_L) (k : Nat) (v : wb_V) : wb_L := wb_s (wb_s (wb_kl ls k) k (some v)) (k + 1) none
def wb_u {α : Type} (f : Nat → Nat → Nat → α) (t o k : Nat) (v : α) : Nat → Nat → Nat → α := fun t' o' k' => if t' = t ∧ o' = o ∧ k' = k then v else f t' o' k'
def wb_z {α : Type} (f : Nat → Nat → Nat → α) (t o : Nat) (v : α) : Nat → Nat → Nat → α := fun t' o' k' => if t' = t ∧ o' = o then v else f t' o' k'
def wb_cp {α : Type} (f : Nat → Nat → Nat → α) (t o sp t2 o2 dp n : Nat) : Nat → Nat → Nat → α := fun t' o' k' => if (t' = t2 ∧ o' = o2) ∧ dp ≤ k' ∧ k' < dp + n then f t o (sp + (k' - dp)) else f t' o' k'
def wb_nth {α : Type} (d : α) : List α → Nat → α
  | [], _ => d
  | a :: _, 0 => a
  | _ :: l, k + 1 => wb_nth d l k
def wb_shp (t : Nat) : Nat × Nat := wb_nth (9, 0) wb_shl t
def wb_cnt (t : Nat) : Nat := wb_nth 0 wb_cnl t
def wb_rf (t k : Nat) : Nat × (Nat × Nat) := wb_nth (0, 9, 0) (wb_nth [] wb_rfl t) k
def wb_fk (ci k : Nat) : Nat := wb_nth 9 (wb_nth [] wb_fkl ci) k
def wb_tab (l : List Int32) : wb_X := (l.length, fun j => wb_nth 0 l j)
/-- the tables that nobody writes, of ints: the script, THREES, TENS, ROWS_FROM -/
def wb_roi (sc : wb_X) : Nat → Option wb_X
  | 1 => some sc
  | 2 => some (wb_tab [1, 3, 9, 27, 81, 243, 729])
  | 3 => some (wb_tab [1, 10, 100, 1000, 10000, 100000, 1000000, 10000000])
  | 4 => some (wb_tab [0, 1, 4, 13, 40, 121, 364, 1093])
  | _ => none
/-- of bytes: the two texts -/
def wb_rob : Nat → Option wb_X
  | 7 => some (wb_tab wb_WB)
  | 8 => some (wb_tab wb_SB)
  | _ => none
def wb_in (i : Int32) (n : Nat) : Bool := !decide (i < 0) && decide (i.toNatClampNeg < n)
def wb_cm (c : ClassFile.Cond) (a b : Int32) : Bool := match c with
  | .eq => decide (a = b)
  | .ne => !decide (a = b)
  | .lt => decide (a < b)
  | .ge => decide (b ≤ a)
  | .gt => decide (b < a)
  | .le => decide (a ≤ b)
def wb_rem (a b : Int32) : Int32 := a - a / b * b
def wb_reml (a b : Int64) : Int64 := a - a / b * b
def wb_wr : wb_A := .inl ([], none)
def wb_nx (p : Nat) (ls : wb_L) (st : List wb_V) (h : wb_H) (n : wb_N) : wb_A := .inl ([], some (p, ls, st, h, n))
def wb_if (b : Bool) (p : Nat) (ls : wb_L) (st : List wb_V) (h : wb_H) (n : wb_N) : wb_A := .inl ([(b, some (p, ls, st, h, n))], none)
def wb_br (b : Bool) (p q : Nat) (ls : wb_L) (st : List wb_V) (h : wb_H) (n : wb_N) : wb_A := .inl ([(b, some (p, ls, st, h, n))], some (q, ls, st, h, n))
def wb_sw (v : Int32) (ls : wb_L) (st : List wb_V) (h : wb_H) (n : wb_N) : Int → List Nat → List (Bool × Option wb_C)
  | _, [] => []
  | z, t :: ts => (decide (v = Int32.ofInt z), some (t, ls, st, h, n)) :: wb_sw v ls st h n (z + 1) ts
def wb_lw (v : Int32) (ls : wb_L) (st : List wb_V) (h : wb_H) (n : wb_N) : List (Int × Int) → List Nat → List (Bool × Option wb_C)
  | z :: zs, t :: ts => (decide (v = Int32.ofInt z.1), some (t, ls, st, h, n)) :: wb_lw v ls st h n zs ts
  | _, _ => []
/-- a reference's static instance, once all is made -/
def wb_si (fz : Bool) (t o k : Nat) : Option Nat := match fz with
  | false => none
  | true => match (wb_rf t k).2 with
    | (0, _) => some o
    | (1, c) => some c
    | _ => none
def wb_sa (fz : Bool) (t k : Nat) : Option Nat := match fz with
  | false => none
  | true => some ((wb_rf t 0).2.2 + k)
def wb_nb (v : Int32) : Bool := decide (v = Int32.ofInt 0) || decide (v = Int32.ofInt 1)
def wb_vok (c : Nat → Nat) : wb_V → Bool
  | .inr (.inr (t, o)) => decide (t < 10) || decide (o < c t)
  | _ => true
def wb_lok (c : Nat → Nat) : wb_L → Bool
  | [] => true
  | none :: l => wb_lok c l
  | some v :: l => wb_vok c v && wb_lok c l
def wb_aok (c : Nat → Nat) : List wb_V → Bool
  | [] => true
  | v :: l => wb_vok c v && wb_aok c l
def wb_fok (fz : Bool) (c : Nat → Nat) (ls : wb_L) (st : List wb_V) : Bool := match fz with
  | true => true
  | false => wb_lok c ls && wb_aok c st
/-- the last arguments of a stack, first argument first, and the rest -/
def wb_pop : Nat → List wb_V → List wb_V → Option (List wb_V × List wb_V)
  | 0, acc, st => some (acc, st)
  | k + 1, acc, v :: st => wb_pop k (v :: acc) st
  | _ + 1, _, [] => none
/-- locals at a method's entry -/
def wb_el : List wb_V → Nat → wb_L
  | _, 0 => []
  | [], n + 1 => none :: wb_el [] n
  | .inl x :: as, n + 1 => some (.inl x) :: wb_el as n
  | .inr (.inr r) :: as, n + 1 => some (.inr (.inr r)) :: wb_el as n
  | .inr (.inl x) :: _, 1 => [some (.inr (.inl x))]
  | .inr (.inl x) :: as, n + 2 => some (.inr (.inl x)) :: none :: wb_el as n
def wb_rw (st : List wb_V) : Nat := (st.map fun v => match v with | .inr (.inl _) => 2 | _ => 1).sum
def wb_iu (h : wb_H) (t o k : Nat) (v : Int32) : wb_H := (wb_u h.1 t o k v, h.2)
def wb_lu (h : wb_H) (t o k : Nat) (v : Int64) : wb_H := (h.1, wb_u h.2.1 t o k v, h.2.2)
def wb_mu (h : wb_H) (t o k : Nat) (v : Nat) : wb_H := (h.1, h.2.1, wb_u h.2.2 t o k v)
def wb_nw (h : wb_H) (t o : Nat) : wb_H := (wb_z h.1 t o 0, wb_z h.2.1 t o 0, wb_z h.2.2 t o 0)
def wb_cu (c : Nat → Nat) (t : Nat) : Nat → Nat := fun t' => if t' = t then c t + 1 else c t'
def wb_str (k : Nat) (t : Nat) : Option wb_V := match k, t with
  | 0, 5 => some (.inr (.inr (7, 0)))
  | 0, 6 => some (.inr (.inr (8, 0)))
  | 1, 5 => some (.inl 0)
  | 1, 6 => some (.inl 0)
  | _, _ => none
def wb_pn (m : Nat) : Nat := (wb_mi m).2.2.1
def wb_mc (m : Nat) : Nat := (wb_mi m).2.2.2.2.2.2.1
def wb_ms (m : Nat) : Nat := (wb_mi m).2.2.2.2.2.2.2
def wb_gf (fz : Bool) (p : Nat) (x : List Nat) (ls : wb_L) (st : List wb_V) (h : wb_H) (n : wb_N) : wb_A := match x, st with
  | 100 :: k :: _, .inr (.inr (t, _)) :: st' => (match wb_str k t with
    | some v => wb_nx (p + 3) ls (v :: st') h n
    | none => wb_wr)
  | ci :: k :: ty :: _, .inr (.inr (t, o)) :: st' => (match Nat.beq (wb_shp t).1 0 && Nat.beq (wb_shp t).2 ci with
    | true => (match ty with
      | 0 => wb_if (decide (o < n.1 t)) (p + 3) ls (.inl (h.1 t o k) :: st') h n
      | 1 => wb_if (decide (o < n.1 t)) (p + 3) ls (.inr (.inl (h.2.1 t o k)) :: st') h n
      | 2 => (match wb_si fz t o k with
        | some j => wb_if (decide (o < n.1 t)) (p + 3) ls (.inr (.inr ((wb_rf t k).1, j)) :: st') h n
        | none => wb_if (decide (o < n.1 t) && decide (0 < h.2.2 t o k)) (p + 3) ls (.inr (.inr ((wb_rf t k).1, h.2.2 t o k - 1)) :: st') h n)
      | _ => wb_wr)
    | false => wb_wr)
  | _, _ => wb_wr
def wb_pf (fz : Bool) (p : Nat) (x : List Nat) (ls : wb_L) (st : List wb_V) (h : wb_H) (n : wb_N) : wb_A := match x, st with
  | ci :: k :: ty :: _, v :: .inr (.inr (t, o)) :: st' => (match Nat.beq (wb_shp t).1 0 && Nat.beq (wb_shp t).2 ci with
    | true => (match ty, v with
      | 0, .inl y => wb_if (decide (o < n.1 t)) (p + 3) ls st' (wb_iu h t o k y) n
      | 3, .inl y => wb_if (decide (o < n.1 t) && wb_nb y) (p + 3) ls st' (wb_iu h t o k y) n
      | 1, .inr (.inl y) => wb_if (decide (o < n.1 t)) (p + 3) ls st' (wb_lu h t o k y) n
      | 2, .inr (.inr (t', o')) => (match Nat.beq (wb_rf t k).1 t', wb_si fz t o k with
        | true, none => wb_if (decide (o < n.1 t) && decide (o' < n.1 t')) (p + 3) ls st' (wb_mu h t o k (o' + 1)) n
        | _, _ => wb_wr)
      | _, _ => wb_wr)
    | false => wb_wr)
  | _, _ => wb_wr
def wb_il (sc : wb_X) (p : Nat) (ls : wb_L) (st : List wb_V) (h : wb_H) (n : wb_N) : wb_A := match st with
  | .inl i :: .inr (.inr (t, o)) :: st' => (match wb_roi sc t with
    | some q => wb_if (wb_in i q.1) (p + 1) ls (.inl (q.2 i.toNatClampNeg) :: st') h n
    | none => (match wb_shp t with
      | (1, len) => wb_if (decide (o < n.1 t) && wb_in i len) (p + 1) ls (.inl (h.1 t o i.toNatClampNeg) :: st') h n
      | _ => wb_wr))
  | _ => wb_wr
def wb_bl (p : Nat) (ls : wb_L) (st : List wb_V) (h : wb_H) (n : wb_N) : wb_A := match st with
  | .inl i :: .inr (.inr (t, o)) :: st' => (match wb_rob t with
    | some q => wb_if (wb_in i q.1) (p + 1) ls (.inl (q.2 i.toNatClampNeg) :: st') h n
    | none => (match wb_shp t with
      | (2, len) => wb_if (decide (o < n.1 t) && wb_in i len) (p + 1) ls (.inl (h.1 t o i.toNatClampNeg) :: st') h n
      | (3, len) => wb_if (decide (o < n.1 t) && wb_in i len) (p + 1) ls (.inl (h.1 t o i.toNatClampNeg) :: st') h n
      | _ => wb_wr))
  | _ => wb_wr
def wb_al (sc : wb_X) (p : Nat) (ls : wb_L) (st : List wb_V) (h : wb_H) (n : wb_N) : wb_A := match st with
  | .inr (.inr (t, o)) :: st' => (match wb_roi sc t with
    | some q => wb_nx (p + 1) ls (.inl (Int32.ofInt (q.1 : Int)) :: st') h n
    | none => (match wb_rob t with
      | some q => wb_nx (p + 1) ls (.inl (Int32.ofInt (q.1 : Int)) :: st') h n
      | none => (match wb_shp t with
        | (k + 1, len) => (match Nat.ble k 4 with
          | true => wb_if (decide (o < n.1 t)) (p + 1) ls (.inl (Int32.ofInt (len : Int)) :: st') h n
          | false => wb_wr)
        | _ => wb_wr)))
  | _ => wb_wr
def wb_is (p : Nat) (ls : wb_L) (st : List wb_V) (h : wb_H) (n : wb_N) : wb_A := match st with
  | .inl y :: .inl i :: .inr (.inr (t, o)) :: st' => (match wb_shp t with
    | (1, len) => wb_if (decide (o < n.1 t) && wb_in i len) (p + 1) ls st' (wb_iu h t o i.toNatClampNeg y) n
    | _ => wb_wr)
  | _ => wb_wr
def wb_bs (p : Nat) (ls : wb_L) (st : List wb_V) (h : wb_H) (n : wb_N) : wb_A := match st with
  | .inl y :: .inl i :: .inr (.inr (t, o)) :: st' => (match wb_shp t with
    | (2, len) => wb_if (decide (o < n.1 t) && wb_in i len) (p + 1) ls st' (wb_iu h t o i.toNatClampNeg (vp_nar .byte y)) n
    | (3, len) => wb_if (decide (o < n.1 t) && wb_in i len && wb_nb y) (p + 1) ls st' (wb_iu h t o i.toNatClampNeg y) n
    | _ => wb_wr)
  | _ => wb_wr
def wb_ll (p : Nat) (ls : wb_L) (st : List wb_V) (h : wb_H) (n : wb_N) : wb_A := match st with
  | .inl i :: .inr (.inr (t, o)) :: st' => (match wb_shp t with
    | (4, len) => wb_if (decide (o < n.1 t) && wb_in i len) (p + 1) ls (.inr (.inl (h.2.1 t o i.toNatClampNeg)) :: st') h n
    | _ => wb_wr)
  | _ => wb_wr
def wb_ls (p : Nat) (ls : wb_L) (st : List wb_V) (h : wb_H) (n : wb_N) : wb_A := match st with
  | .inr (.inl y) :: .inl i :: .inr (.inr (t, o)) :: st' => (match wb_shp t with
    | (4, len) => wb_if (decide (o < n.1 t) && wb_in i len) (p + 1) ls st' (wb_lu h t o i.toNatClampNeg y) n
    | _ => wb_wr)
  | _ => wb_wr
def wb_ql (fz : Bool) (p : Nat) (ls : wb_L) (st : List wb_V) (h : wb_H) (n : wb_N) : wb_A := match st with
  | .inl i :: .inr (.inr (t, o)) :: st' => (match wb_shp t with
    | (5, len) => (match wb_sa fz t i.toNatClampNeg with
      | some j => wb_if (decide (o < n.1 t) && wb_in i len) (p + 1) ls (.inr (.inr ((wb_rf t 0).1, j)) :: st') h n
      | none => wb_if (decide (o < n.1 t) && wb_in i len && decide (0 < h.2.2 t o i.toNatClampNeg)) (p + 1) ls (.inr (.inr ((wb_rf t 0).1, h.2.2 t o i.toNatClampNeg - 1)) :: st') h n)
    | _ => wb_wr)
  | _ => wb_wr
def wb_qs (fz : Bool) (p : Nat) (ls : wb_L) (st : List wb_V) (h : wb_H) (n : wb_N) : wb_A := match fz, st with
  | false, .inr (.inr (t', o')) :: .inl i :: .inr (.inr (t, o)) :: st' => (match wb_shp t with
    | (5, len) => (match Nat.beq (wb_rf t 0).1 t' with
      | true => wb_if (decide (o < n.1 t) && wb_in i len && decide (o' < n.1 t')) (p + 1) ls st' (wb_mu h t o i.toNatClampNeg (o' + 1)) n
      | false => wb_wr)
    | _ => wb_wr)
  | _, _ => wb_wr
/-- a new object or array of a tag that takes k slots -/
def wb_mk (m t k q : Nat) (ls : wb_L) (st : List wb_V) (h : wb_H) (n : wb_N) : wb_A :=
  wb_if (wb_fok false n.1 ls st && decide (n.2.1 + 1 ≤ wb_mc m) && decide (n.2.2 + k ≤ wb_ms m)) q ls (.inr (.inr (t, n.1 t)) :: st) (wb_nw h t (n.1 t)) (wb_cu n.1 t, n.2.1 + 1, n.2.2 + k)
def wb_ne (fz : Bool) (m p : Nat) (x : List Nat) (ls : wb_L) (st : List wb_V) (h : wb_H) (n : wb_N) : wb_A := match fz, x with
  | false, t :: _ => (match wb_shp t with
    | (0, ci) => wb_mk m t (wb_nth [] wb_fkl ci).length (p + 3) ls st h n
    | _ => wb_wr)
  | _, _ => wb_wr
def wb_na (fz : Bool) (m p : Nat) (a : ArrayType) (x : List Nat) (ls : wb_L) (st : List wb_V) (h : wb_H) (n : wb_N) : wb_A := match fz, x, st with
  | false, t :: _, .inl y :: st' => (match decide (y = Int32.ofInt ((wb_shp t).2 : Int)), wb_shp t, a with
    | true, (1, k), .int => wb_mk m t k (p + 2) ls st' h n
    | true, (2, k), .byte => wb_mk m t k (p + 2) ls st' h n
    | true, (3, k), .boolean => wb_mk m t k (p + 2) ls st' h n
    | true, (4, k), .long => wb_mk m t k (p + 2) ls st' h n
    | _, _, _ => wb_wr)
  | _, _, _ => wb_wr
def wb_an (fz : Bool) (m p : Nat) (x : List Nat) (ls : wb_L) (st : List wb_V) (h : wb_H) (n : wb_N) : wb_A := match fz, x, st with
  | false, t :: _, .inl y :: st' => (match decide (y = Int32.ofInt ((wb_shp t).2 : Int)), wb_shp t with
    | true, (5, k) => wb_mk m t k (p + 3) ls st' h n
    | _, _ => wb_wr)
  | _, _, _ => wb_wr
def wb_gs (p : Nat) (x : List Nat) (ls : wb_L) (st : List wb_V) (h : wb_H) (n : wb_N) : wb_A := match x with
  | 0 :: t :: _ => wb_nx (p + 3) ls (.inr (.inr (t, 0)) :: st) h n
  | 1 :: v :: _ => wb_nx (p + 3) ls (.inl (Int32.ofInt (v : Int)) :: st) h n
  | _ => wb_wr
def wb_fo2 (fz : Bool) (c : Nat → Nat) (as : List wb_V) (y : Nat) : Bool := match fz with
  | true => Nat.beq (wb_mc y) 0 && Nat.beq (wb_ms y) 0
  | false => wb_aok c as
/-- the receiver: of a class (12 of them), a text (100), any object (201), none (200) -/
def wb_rc (c : Nat → Nat) (ci : Nat) (as : List wb_V) : Bool := match ci, as with
  | 200, _ => true
  | 100, .inr (.inr (t, _)) :: _ => Nat.beq t 5 || Nat.beq t 6
  | 201, .inr (.inr (t, _)) :: _ => Nat.ble 10 t
  | k, .inr (.inr (t, o)) :: _ => Nat.beq (wb_shp t).1 0 && (Nat.beq (wb_shp t).2 k && decide (o < c t))
  | _, _ => false
/-- calls: 0 is Object's constructor, 1 System.arraycopy over int arrays -/
def wb_ca (fz : Bool) (m p : Nat) (x : List Nat) (ls : wb_L) (st : List wb_V) (h : wb_H) (n : wb_N) : wb_A := match x with
  | 0 :: _ => (match st with
    | .inr (.inr (t, _)) :: st' => (match decide (10 ≤ t) && decide (wb_rw st' ≤ 8) with
      | true => wb_nx (p + 3) ls st' h n
      | false => wb_wr)
    | _ => wb_wr)
  | 1 :: _ => (match st with
    | .inl c :: .inl d :: .inr (.inr (t2, o2)) :: .inl s :: .inr (.inr (t, o)) :: st' => (match wb_shp t, wb_shp t2, decide (wb_rw st' ≤ 8) with
      | (1, l), (1, l2), true => wb_if (decide (o < n.1 t) && decide (o2 < n.1 t2) && (!decide (s < 0) && !decide (d < 0) && !decide (c < 0) && decide (s.toNatClampNeg + c.toNatClampNeg ≤ l) && decide (d.toNatClampNeg + c.toNatClampNeg ≤ l2))) (p + 3) ls st' (wb_cp h.1 t o s.toNatClampNeg t2 o2 d.toNatClampNeg c.toNatClampNeg, h.2) n
      | _, _, _ => wb_wr)
    | _ => wb_wr)
  | y :: k :: kd :: ci :: _ => (match wb_pop k [] st with
    | some (as, st') => (match decide (wb_rw st' ≤ 8) && decide (wb_rw as ≤ wb_pn y) with
      | true => .inr (.inl ((y, as, h, n), (wb_fok fz n.1 ls st' && wb_fo2 fz n.1 as y && decide (n.2.1 + wb_mc y ≤ wb_mc m) && decide (n.2.2 + wb_ms y ≤ wb_ms m)) && wb_rc n.1 ci as, kd, p + 3, ls, st'))
      | false => wb_wr)
    | none => wb_wr)
  | _ => wb_wr
def wb_rok (m : Nat) (n : wb_N) : Bool := decide (n.2.1 ≤ wb_mc m) && decide (n.2.2 ≤ wb_ms m)
def wb_re (b : Bool) (m : Nat) (v : Option wb_V) (h : wb_H) (n : wb_N) : wb_A := .inr (.inr (wb_rok m n && b, v, h, n))
def wb_rt (m : Nat) (x : List Nat) (st : List wb_V) (h : wb_H) (n : wb_N) : wb_A := match x, st with
  | [0], [.inl v] => wb_re true m (some (.inl v)) h n
  | [1], [.inl v] => wb_re (wb_nb v) m (some (.inl v)) h n
  | [2], [.inl v] => wb_re (decide (vp_nar .char v = v)) m (some (.inl v)) h n
  | [3], [.inl v] => wb_re (decide (vp_nar .byte v = v)) m (some (.inl v)) h n
  | _, _ => wb_wr
set_option maxHeartbeats 4000000 in
/-- one instruction -/
def wb_st (fz : Bool) (sc : wb_X) (m p : Nat) (i : Instr) (x : List Nat) (ls : wb_L) (st : List wb_V) (h : wb_H) (n : wb_N) : wb_A := match i with
  | .aload_n k => (match wb_g ls k.val with | some (.inr (.inr r)) => (match Nat.blt 0 r.1 && !Nat.beq r.1 9 with | true => wb_nx (p + 1) ls (.inr (.inr r) :: st) h n | false => wb_wr) | _ => wb_wr)
  | .aload k => (match wb_g ls k with | some (.inr (.inr r)) => (match Nat.blt 0 r.1 && !Nat.beq r.1 9 with | true => wb_nx (p + 2) ls (.inr (.inr r) :: st) h n | false => wb_wr) | _ => wb_wr)
  | .iload_n k => (match wb_g ls k.val with | some (.inl v) => wb_nx (p + 1) ls (.inl v :: st) h n | _ => wb_wr)
  | .iload k => (match wb_g ls k with | some (.inl v) => wb_nx (p + 2) ls (.inl v :: st) h n | _ => wb_wr)
  | .lload_n k => (match wb_g ls k.val with | some (.inr (.inl v)) => wb_nx (p + 1) ls (.inr (.inl v) :: st) h n | _ => wb_wr)
  | .lload k => (match wb_g ls k with | some (.inr (.inl v)) => wb_nx (p + 2) ls (.inr (.inl v) :: st) h n | _ => wb_wr)
  | .astore_n k => (match st with | .inr (.inr r) :: st' => (match Nat.blt 0 r.1 && !Nat.beq r.1 9 with | true => wb_nx (p + 1) (wb_s1 ls k.val (.inr (.inr r))) st' h n | false => wb_wr) | _ => wb_wr)
  | .astore k => (match st with | .inr (.inr r) :: st' => (match Nat.blt 0 r.1 && !Nat.beq r.1 9 with | true => wb_nx (p + 2) (wb_s1 ls k (.inr (.inr r))) st' h n | false => wb_wr) | _ => wb_wr)
  | .istore_n k => (match st with | .inl v :: st' => wb_nx (p + 1) (wb_s1 ls k.val (.inl v)) st' h n | _ => wb_wr)
  | .istore k => (match st with | .inl v :: st' => wb_nx (p + 2) (wb_s1 ls k (.inl v)) st' h n | _ => wb_wr)
  | .lstore_n k => (match st with | .inr (.inl v) :: st' => wb_nx (p + 1) (wb_s2 ls k.val (.inr (.inl v))) st' h n | _ => wb_wr)
  | .lstore k => (match st with | .inr (.inl v) :: st' => wb_nx (p + 2) (wb_s2 ls k (.inr (.inl v))) st' h n | _ => wb_wr)
  | .iconst c => wb_nx (p + 1) ls (.inl (Int32.ofInt c) :: st) h n
  | .bipush c => wb_nx (p + 2) ls (.inl (Int32.ofInt c) :: st) h n
  | .sipush c => wb_nx (p + 3) ls (.inl (Int32.ofInt c) :: st) h n
  | .lconst c => wb_nx (p + 1) ls (.inr (.inl (Int64.ofNat c.val)) :: st) h n
  | .ldc _ => (match x with
    | [0, v, _] => wb_nx (p + 2) ls (.inl (Int32.ofInt (v : Int)) :: st) h n
    | [1, t, _] => wb_nx (p + 2) ls (.inr (.inr (t, 0)) :: st) h n
    | _ => wb_wr)
  | .ldc_w _ => (match x with | [0, v, _] => wb_nx (p + 3) ls (.inl (Int32.ofInt (v : Int)) :: st) h n | _ => wb_wr)
  | .ldc2_w _ => (match x with | [v, _] => wb_nx (p + 3) ls (.inr (.inl (Int64.ofNat v)) :: st) h n | _ => wb_wr)
  | .iinc k c => (match wb_g ls k with | some (.inl v) => wb_nx (p + 3) (wb_s1 ls k (.inl (v + Int32.ofInt c))) st h n | _ => wb_wr)
  | .iadd => (match st with | .inl b :: .inl a :: st' => wb_nx (p + 1) ls (.inl (a + b) :: st') h n | _ => wb_wr)
  | .isub => (match st with | .inl b :: .inl a :: st' => wb_nx (p + 1) ls (.inl (a - b) :: st') h n | _ => wb_wr)
  | .imul => (match st with | .inl b :: .inl a :: st' => wb_nx (p + 1) ls (.inl (a * b) :: st') h n | _ => wb_wr)
  | .iand => (match st with | .inl b :: .inl a :: st' => wb_nx (p + 1) ls (.inl (a &&& b) :: st') h n | _ => wb_wr)
  | .ior => (match st with | .inl b :: .inl a :: st' => wb_nx (p + 1) ls (.inl (a ||| b) :: st') h n | _ => wb_wr)
  | .ixor => (match st with | .inl b :: .inl a :: st' => wb_nx (p + 1) ls (.inl (a ^^^ b) :: st') h n | _ => wb_wr)
  | .ishl => (match st with | .inl b :: .inl a :: st' => wb_nx (p + 1) ls (.inl (a <<< (b &&& 31)) :: st') h n | _ => wb_wr)
  | .ishr => (match st with | .inl b :: .inl a :: st' => wb_nx (p + 1) ls (.inl (a >>> (b &&& 31)) :: st') h n | _ => wb_wr)
  | .iushr => (match st with | .inl b :: .inl a :: st' => wb_nx (p + 1) ls (.inl (a.toUInt32 >>> (b.toUInt32 &&& Int32.toUInt32 31)).toInt32 :: st') h n | _ => wb_wr)
  | .idiv => (match st with | .inl b :: .inl a :: st' => wb_if (!decide (b = 0)) (p + 1) ls (.inl (a / b) :: st') h n | _ => wb_wr)
  | .irem => (match st with | .inl b :: .inl a :: st' => wb_if (!decide (b = 0)) (p + 1) ls (.inl (wb_rem a b) :: st') h n | _ => wb_wr)
  | .ineg => (match st with | .inl a :: st' => wb_nx (p + 1) ls (.inl (-a) :: st') h n | _ => wb_wr)
  | .ladd => (match st with | .inr (.inl b) :: .inr (.inl a) :: st' => wb_nx (p + 1) ls (.inr (.inl (a + b)) :: st') h n | _ => wb_wr)
  | .lsub => (match st with | .inr (.inl b) :: .inr (.inl a) :: st' => wb_nx (p + 1) ls (.inr (.inl (a - b)) :: st') h n | _ => wb_wr)
  | .lmul => (match st with | .inr (.inl b) :: .inr (.inl a) :: st' => wb_nx (p + 1) ls (.inr (.inl (a * b)) :: st') h n | _ => wb_wr)
  | .ldiv => (match st with | .inr (.inl b) :: .inr (.inl a) :: st' => wb_if (!decide (b = 0)) (p + 1) ls (.inr (.inl (a / b)) :: st') h n | _ => wb_wr)
  | .lrem => (match st with | .inr (.inl b) :: .inr (.inl a) :: st' => wb_if (!decide (b = 0)) (p + 1) ls (.inr (.inl (wb_reml a b)) :: st') h n | _ => wb_wr)
  | .lneg => (match st with | .inr (.inl a) :: st' => wb_nx (p + 1) ls (.inr (.inl (-a)) :: st') h n | _ => wb_wr)
  | .lcmp => (match st with | .inr (.inl b) :: .inr (.inl a) :: st' => wb_nx (p + 1) ls (.inl (lg_cmp a b) :: st') h n | _ => wb_wr)
  | .i2l => (match st with | .inl a :: st' => wb_nx (p + 1) ls (.inr (.inl a.toInt64) :: st') h n | _ => wb_wr)
  | .l2i => (match st with | .inr (.inl a) :: st' => wb_nx (p + 1) ls (.inl a.toInt32 :: st') h n | _ => wb_wr)
  | .i2b => (match st with | .inl a :: st' => wb_nx (p + 1) ls (.inl a.toInt8.toInt32 :: st') h n | _ => wb_wr)
  | .i2c => (match st with | .inl a :: st' => wb_nx (p + 1) ls (.inl (a.toUInt32 % 65536).toInt32 :: st') h n | _ => wb_wr)
  | .dup => (match st with
    | .inl a :: st' => wb_nx (p + 1) ls (.inl a :: .inl a :: st') h n
    | .inr (.inr r) :: st' => wb_nx (p + 1) ls (.inr (.inr r) :: .inr (.inr r) :: st') h n
    | _ => wb_wr)
  | .dup2 => (match st with | .inl b :: .inr (.inr r) :: st' => wb_nx (p + 1) ls (.inl b :: .inr (.inr r) :: .inl b :: .inr (.inr r) :: st') h n | _ => wb_wr)
  | .pop => (match st with | .inl _ :: st' => wb_nx (p + 1) ls st' h n | _ => wb_wr)
  | .if_icmp c _ => (match x, st with | [t], .inl b :: .inl a :: st' => wb_br (wb_cm c a b) t (p + 3) ls st' h n | _, _ => wb_wr)
  | .ifCond c _ => (match x, st with | [t], .inl a :: st' => wb_br (wb_cm c a (Int32.ofInt 0)) t (p + 3) ls st' h n | _, _ => wb_wr)
  | .goto _ => (match x with | [t] => wb_nx t ls st h n | _ => wb_wr)
  | .tableswitch _ lo _ _ => (match x, st with | _ :: d :: ts, .inl v :: st' => .inl (wb_sw v ls st' h n lo ts, some (d, ls, st', h, n)) | _, _ => wb_wr)
  | .lookupswitch _ ps => (match x, st with | _ :: d :: ts, .inl v :: st' => .inl (wb_lw v ls st' h n ps.toList ts, some (d, ls, st', h, n)) | _, _ => wb_wr)
  | .getfield _ => wb_gf fz p x ls st h n
  | .putfield _ => wb_pf fz p x ls st h n
  | .getstatic _ => wb_gs p x ls st h n
  | .iaload => wb_il sc p ls st h n
  | .baload => wb_bl p ls st h n
  | .laload => wb_ll p ls st h n
  | .aaload => wb_ql fz p ls st h n
  | .iastore => wb_is p ls st h n
  | .bastore => wb_bs p ls st h n
  | .lastore => wb_ls p ls st h n
  | .aastore => wb_qs fz p ls st h n
  | .arraylength => wb_al sc p ls st h n
  | .new _ => wb_ne fz m p x ls st h n
  | .newarray a => wb_na fz m p a x ls st h n
  | .anewarray _ => wb_an fz m p x ls st h n
  | .invokevirtual _ => wb_ca fz m p x ls st h n
  | .invokestatic _ => wb_ca fz m p x ls st h n
  | .invokespecial _ => wb_ca fz m p x ls st h n
  | .ireturn => wb_rt m x st h n
  | .lreturn => (match st with | [.inr (.inl v)] => wb_re true m (some (.inr (.inl v))) h n | _ => wb_wr)
  | .areturn => (match st with | [.inr (.inr r)] => wb_re (decide (10 ≤ r.1)) m (some (.inr (.inr r))) h n | _ => wb_wr)
  | .return_ => (match st with | [] => wb_re true m none h n | _ => wb_wr)
  | _ => wb_wr
def wb_ft : List wb_E → Nat → Option wb_E
  | [], _ => none
  | e :: l, p => bif Nat.beq e.1 p then some e else wb_ft l p
def wb_dr (ls : wb_L) : List Nat → wb_L
  | [] => ls
  | k :: ks => wb_dr (wb_s ls k none) ks
/-- what is done at a place of a code list (dead locals are dropped) -/
def wb_ac (fz : Bool) (sc : wb_X) (m : Nat) (cl : List wb_E) (c : wb_C) : wb_A := match wb_ft cl c.1 with
  | some e => wb_st fz sc m e.1 e.2.1 e.2.2.1 (wb_dr c.2.1 e.2.2.2) c.2.2.1 c.2.2.2.1 c.2.2.2.2
  | none => wb_wr
def wb_ib {ρ : Type} (K : wb_C → Option ρ) : List (Bool × Option wb_C) → Option wb_C → Option ρ
  | [], none => none
  | [], some c => K c
  | (b, none) :: l, d => bif b then none else wb_ib K l d
  | (b, some c) :: l, d => bif b then K c else wb_ib K l d
def wb_nn (fz : Bool) (n n' : wb_N) (y : Nat) : wb_N := match fz with
  | true => n
  | false => (n'.1, n.2.1 + wb_mc y, n.2.2 + wb_ms y)
def wb_rk (kd : Nat) (v : Option wb_V) (st : List wb_V) : Option (List wb_V) := match kd, v with
  | 0, none => some st
  | 1, some (.inl x) => some (.inl x :: st)
  | 2, some (.inr (.inl x)) => some (.inr (.inl x) :: st)
  | k + 3, some (.inr (.inr r)) => bif Nat.beq r.1 k && Nat.beq r.2 0 then some (.inr (.inr (k, 0)) :: st) else none
  | _, _ => none
def wb_en (y : Nat) (as : List wb_V) (h : wb_H) (n : wb_N) : wb_C := (0, wb_el as (wb_pn y), [], h, (n.1, 0, 0))
/-- one step with what comes after it, and calls -/
def wb_ex (fz : Bool) (K : wb_C → Option wb_R) (D : Nat → wb_C → Option wb_R) : wb_A → Option wb_R
  | .inl b => wb_ib K b.1 b.2
  | .inr (.inl ((y, as, h, n), b, kd, p, ls, st)) => bif b then (D y (wb_en y as h n)).bind (fun r => (wb_rk kd r.1 st).bind (fun st' => K (p, ls, st', r.2.1, wb_nn fz n r.2.2 y))) else none
  | .inr (.inr (b, r)) => bif b then some r else none
/-- a run of at most k steps and calls within one another -/
def wb_ru (fz : Bool) (sc : wb_X) : Nat → Nat → wb_C → Option wb_R
  | 0, _, _ => none
  | k + 1, m, c => wb_ex fz (wb_ru fz sc k m) (wb_ru fz sc k) (wb_ac fz sc m (wb_code m) c)
end
section
/-! The plain machine's values, locals, objects in the JVM's state. -/
def wb_TB : List Cond := lw_tbl.filter goodWord
def wb_y (m : Nat) : MethodName := (wb_mi m).1
def wb_b (m : Nat) : ByteArray := (wb_mi m).2.1
def wb_r (m : Nat) : Option FieldType := (wb_mi m).2.2.2.1
def wb_nf (m : Nat) : Nat := (wb_mi m).2.2.2.2.1
def wb_nl (m : Nat) : Nat := (wb_mi m).2.2.2.2.2.1
def wb_tv (rv : Nat → Value) (adr : Nat → Nat → Nat) : wb_V → Value
  | .inl x => .int x
  | .inr (.inl x) => .long x
  | .inr (.inr (t, o)) => if t < 10 then rv t else .ref (adr t o)
def wb_rq (fz : Bool) (h : wb_H) (t o k : Nat) : Option Nat := match wb_si fz t o k with
  | some j => some j
  | none => if h.2.2 t o k = 0 then none else some (h.2.2 t o k - 1)
def wb_sq (fz : Bool) (h : wb_H) (t o k : Nat) : Option Nat := match wb_sa fz t k with
  | some j => some j
  | none => if h.2.2 t o k = 0 then none else some (h.2.2 t o k - 1)
def wb_fv (fz : Bool) (adr : Nat → Nat → Nat) (h : wb_H) (ci t o k : Nat) : Value := match wb_fk ci k with
  | 1 => .long (h.2.1 t o k)
  | 2 => va_rf ((wb_rq fz h t o k).map (adr (wb_rf t k).1))
  | _ => .int (h.1 t o k)
def wb_nfd (ci : Nat) : Nat := (wb_nth [] wb_fkl ci).length
def wb_ent (fz : Bool) (adr : Nat → Nat → Nat) (cA : Nat → Nat → ClassId) (h : wb_H) (t o : Nat) : va_E := match wb_shp t with
  | (0, ci) => .inr (ci, (List.range (wb_nfd ci)).map (wb_fv fz adr h ci t o))
  | (4, len) => .inl (cA t o, len, .inr (.inl (h.2.1 t o)))
  | (5, len) => .inl (cA t o, len, .inr (.inr (.inr (.inr (fun j => (wb_sq fz h t o j).map (adr (wb_rf t 0).1))))))
  | (_, len) => .inl (cA t o, len, .inl (h.1 t o))
def wb_wd (fz : Bool) (adr : Nat → Nat → Nat) (cA : Nat → Nat → ClassId) (h : wb_H) (L : List (Nat × Nat)) : va_W := L.map (fun q => (adr q.1 q.2, wb_ent fz adr cA h q.1 q.2))
def wb_ty : Nat → FieldType
  | 1 => .int
  | 2 => .byte
  | 3 => .boolean
  | 4 => .long
  | _ => .object "WhichBin$Standing"
def wb_KA (s : State) (cA : Nat → Nat → ClassId) (L : List (Nat × Nat)) : Prop := ∀ t o, (t, o) ∈ L → (wb_shp t).1 ≠ 0 → ArrOfT s (cA t o) (wb_ty (wb_shp t).1) ∧ va_RA s (cA t o) (wb_ty (wb_shp t).1)
/-- the tag of what a reference field (or an element) holds -/
def wb_tg (t k : Nat) : Nat := if (wb_shp t).1 = 5 then (wb_rf t 0).1 else (wb_rf t k).1
def wb_ok (fz : Bool) (L : List (Nat × Nat)) (cn : Nat → Nat) (h : wb_H) : Prop := L.Nodup ∧ (∀ t o, (t, o) ∈ L ↔ 10 ≤ t ∧ o < cn t) ∧ (fz = false → ∀ t o k, (t, o) ∈ L → h.2.2 t o k ≠ 0 → (wb_tg t k, h.2.2 t o k - 1) ∈ L)
def wb_rep (fz : Bool) (D : va_G) (adr : Nat → Nat → Nat) (cA : Nat → Nat → ClassId) (L : List (Nat × Nat)) (cn : Nat → Nat) (h : wb_H) (A : Nat → Prop) (H : Heap) (s : State) : Prop :=
  wb_ok fz L cn h ∧ va_P D wb_cls (wb_wd fz adr cA h L) H ∧ va_D A (wb_wd fz adr cA h L) ∧ va_K D wb_cls [] s ∧ wb_KA s cA L
def wb_lc (tv : wb_V → Value) (ls : wb_L) (J : Array Slot) (nL : Nat) : Prop := J.size = nL ∧ lv_wf J ∧ ∀ k v, wb_g ls k = some v → J[k]? = some (.val (tv v))
def wb_isN : Cond → Bool
  | .fieldLinkNest _ _ _ _ _ _ => true
  | .methodLinkNest _ _ _ _ => true
  | _ => false
theorem wb_Nw_warm {w : Cond} {s U : State} (hw : wb_isN w = true) (hW : s.WarmedH U.vm) (h : va_Nw w s) : va_Nw w U := by
  cases w <;> first | exact va_Nw.warmF hW h | exact va_Nw.warmM hW h | cases hw
theorem wb_Nw_same {w : Cond} {s U : State} (hw : wb_isN w = true) (hv : s.vm = U.vm) (h : va_Nw w s) : va_Nw w U := by
  cases w <;> first | exact va_Nw.same rfl hv h | cases hw
theorem wb_Nw_use {w : Cond} {s : State} {args : Array Value} (hw : wb_isN w = true) (h : va_Nw w s) : w.before args s = true := by
  cases w <;> first | exact va_Nw.use rfl h | cases hw
/-- the tables, texts and statics that nobody writes -/
def wb_RO (sc : wb_X) (rv : Nat → Value) (A : Nat → Prop) (s : State) : Prop :=
  (∀ t, rv t = .null ∨ ∃ a, rv t = .ref a) ∧
  (∀ t q, wb_roi sc t = some q → ∃ a, rv t = .ref a ∧ va_T .int a q.1 (fun j => .int (q.2 j)) A s s.heap) ∧
  (∀ t q, wb_rob t = some q → ∃ a, rv t = .ref a ∧ va_T .byte a q.1 (fun j => .int (q.2 j)) A s s.heap) ∧
  (∀ t, t = 5 ∨ t = 6 → ∃ a, rv t = .ref a ∧ va_O "java/lang/String" a A s s.heap ∧ va_OF "java/lang/String" "value" "[B" (rv (t + 2)) a A s s.heap ∧ va_OF "java/lang/String" "coder" "B" (.int 0) a A s s.heap) ∧
  (∀ a, rv 5 = .ref a → vk_R "WhichBin$Tokens" 23 "house brown fine both leaflet seed own most first as wise two if then else sign browns blues sees sure number lead " a s) ∧
  (∀ a, rv 6 = .ref a → vk_R "WhichBin$Tokens" 75 ";=+-*/<()" a s) ∧
  va_Z "WhichBin" "THREES" "[I" (rv 2) A s s.heap ∧ va_Z "WhichBin" "TENS" "[I" (rv 3) A s s.heap ∧ va_Z "WhichBin$Evening" "ROWS_FROM" "[I" (rv 4) A s s.heap ∧
  va_Z "java/lang/String" "COMPACT_STRINGS" "Z" (.int 1) A s s.heap ∧ va_Z "jdk/internal/util/Preconditions" "SIOOBE_FORMATTER" "Ljava/util/function/BiFunction;" (rv 9) A s s.heap ∧
  (∀ w ∈ lw_tbl, wb_isN w = true → va_Nw w s) ∧ va_AO "WhichBin$Standing" s
theorem wb_RO.call {sc : wb_X} {rv : Nat → Value} {A B : Nat → Prop} {s U : State} {H : Heap} {locs : List Loc} (h : wb_RO sc rv A s) (hS : va_S A s.heap H locs) (hU : U.heap = H) (hW : s.WarmedH U.vm) (hAB : ∀ q, B q → A q) : wb_RO sc rv B U := by
  have hq : ∀ a : Nat, a < s.heap.size → ¬ A a → H[a]? = s.heap[a]? := hS.2.1
  have hv := hW.alike
  obtain ⟨h0, h1, h2, h3, h4, h5, h6, h7, h8, h9, h10, h11, h12⟩ := h
  subst hU
  refine ⟨h0, fun t q h => ?_, fun t q h => ?_, fun t ht => ?_, fun a ha => (h4 a ha).warm hW, fun a ha => (h5 a ha).warm hW, ((h6.kept hq).moved hv).narrow hAB, ((h7.kept hq).moved hv).narrow hAB, ((h8.kept hq).moved hv).narrow hAB, ((h9.kept hq).moved hv).narrow hAB, ((h10.kept hq).moved hv).narrow hAB, fun w hw hn => wb_Nw_warm hn hW (h11 w hw hn), h12.moved hv⟩
  · obtain ⟨a, e, g⟩ := h1 t q h
    exact ⟨a, e, ((g.kept hq).moved hv).narrow hAB⟩
  · obtain ⟨a, e, g⟩ := h2 t q h
    exact ⟨a, e, ((g.kept hq).moved hv).narrow hAB⟩
  · obtain ⟨a, e, g1, g2, g3⟩ := h3 t ht
    exact ⟨a, e, ((g1.kept hq).moved hv).narrow hAB, ((g2.kept hq).moved hv).narrow hAB, ((g3.kept hq).moved hv).narrow hAB⟩
theorem wb_tv_cat {rv : Nat → Value} {adr : Nat → Nat → Nat} (h : ∀ t, rv t = .null ∨ ∃ a, rv t = .ref a) (v : wb_V) : (wb_tv rv adr v).category = 2 → ∃ x, v = .inr (.inl x) := by
  intro hc
  match v with
  | .inl x => cases hc
  | .inr (.inl x) => exact ⟨x, rfl⟩
  | .inr (.inr (t, o)) =>
    exfalso
    simp only [wb_tv] at hc
    split at hc
    · rcases h t with e | ⟨a, e⟩ <;> rw [e] at hc <;> cases hc
    · cases hc
theorem wb_g_s_self : ∀ (ls : wb_L) (k : Nat) (v w : wb_V), wb_g (wb_s ls k (some v)) k = some w → w = v
  | [], k, v, w, h => by simp [wb_s, wb_g] at h
  | a :: l, 0, v, w, h => by simp [wb_s, wb_g] at h; exact h.symm
  | a :: l, k + 1, v, w, h => wb_g_s_self l k v w (by simpa [wb_s, wb_g] using h)
theorem wb_g_s_none : ∀ (ls : wb_L) (k : Nat), wb_g (wb_s ls k none) k = none
  | [], k => by simp [wb_s, wb_g]
  | a :: l, 0 => by simp [wb_s, wb_g]
  | a :: l, k + 1 => by simpa [wb_s, wb_g] using wb_g_s_none l k
theorem wb_g_s_ne : ∀ (ls : wb_L) (k j : Nat) (v : Option wb_V), j ≠ k → wb_g (wb_s ls k v) j = wb_g ls j
  | [], k, j, v, h => by simp [wb_s]
  | a :: l, 0, 0, v, h => absurd rfl h
  | a :: l, 0, j + 1, v, h => by simp [wb_s, wb_g]
  | a :: l, k + 1, 0, v, h => by simp [wb_s, wb_g]
  | a :: l, k + 1, j + 1, v, h => by simpa [wb_s, wb_g] using wb_g_s_ne l k j v (fun e => h (by rw [e]))
theorem wb_g_kl {ls : wb_L} {k j : Nat} {w : wb_V} (h : wb_g (wb_kl ls k) j = some w) : wb_g ls j = some w ∧ ¬ (j + 1 = k ∧ ∃ x, w = .inr (.inl x)) := by
  cases k with
  | zero => exact ⟨h, fun q => by omega⟩
  | succ i =>
    simp only [wb_kl] at h
    split at h
    · rename_i x hx
      by_cases hj : j = i
      · subst hj; rw [wb_g_s_none] at h; cases h
      · rw [wb_g_s_ne _ _ _ _ hj] at h
        exact ⟨h, fun q => hj (by omega)⟩
    · rename_i hx
      refine ⟨h, fun q => ?_⟩
      obtain ⟨q1, x, rfl⟩ := q
      have : j = i := by omega
      subst this
      exact hx x h
def wb_as (tv : wb_V → Value) (ls : wb_L) (n : Nat) : List (Nat × Value) := (List.range n).filterMap fun i => (wb_g ls i).map fun v => (i, tv v)
theorem wb_as_mem {tv : wb_V → Value} {ls : wb_L} {n i : Nat} {v : wb_V} (hi : i < n) (h : wb_g ls i = some v) : (i, tv v) ∈ wb_as tv ls n :=
  List.mem_filterMap.mpr ⟨i, List.mem_range.mpr hi, by rw [h]; rfl⟩
theorem wb_as_has {tv : wb_V → Value} {ls : wb_L} {J : Array Slot} {n : Nat} (h : wb_lc tv ls J n) : lv_has J n (wb_as tv ls n) := by
  refine ⟨h.1, h.2.1, fun q hq => ?_⟩
  obtain ⟨i, -, hi⟩ := List.mem_filterMap.mp hq
  cases hg : wb_g ls i with
  | none => rw [hg] at hi; cases hi
  | some v => rw [hg] at hi; cases hi; exact h.2.2 i v hg
theorem wb_lc_lt {tv : wb_V → Value} {ls : wb_L} {J : Array Slot} {n k : Nat} {v : wb_V} (h : wb_lc tv ls J n) (hg : wb_g ls k = some v) : k < n := by
  have := (Array.getElem?_eq_some_iff.mp (h.2.2 k v hg)).1
  rw [h.1] at this; exact this
theorem wb_lc_s1 {tv : wb_V → Value} (hc : ∀ v, (tv v).category = 2 → ∃ x, v = .inr (.inl x)) {ls : wb_L} {J J' : Array Slot} {n k : Nat} {v : wb_V} (h : wb_lc tv ls J n)
    (h' : lv_has J' n ((k, tv v) :: (wb_as tv ls n).filter (fun q => !(q.1 == k) && !(q.1 + 1 == k && q.2.category == 2)))) : wb_lc tv (wb_s1 ls k v) J' n := by
  refine ⟨h'.1, h'.2.1, fun j w hw => ?_⟩
  by_cases hj : j = k
  · subst hj
    rw [wb_g_s_self _ _ _ _ hw]
    exact h'.2.2 (j, tv v) List.mem_cons_self
  · rw [wb_s1, wb_g_s_ne _ _ _ _ hj] at hw
    obtain ⟨g1, g2⟩ := wb_g_kl hw
    refine h'.2.2 (j, tv w) (List.mem_cons_of_mem _ (List.mem_filter.mpr ⟨wb_as_mem (wb_lc_lt h g1) g1, ?_⟩))
    simp only [Bool.and_eq_true, Bool.not_eq_true', beq_eq_false_iff_ne, Bool.and_eq_false_iff, ne_eq]
    refine ⟨hj, ?_⟩
    by_cases q : j + 1 = k
    · exact Or.inr (fun e => g2 ⟨q, hc w e⟩)
    · exact Or.inl q
theorem wb_lc_s2 {tv : wb_V → Value} (hc : ∀ v, (tv v).category = 2 → ∃ x, v = .inr (.inl x)) {ls : wb_L} {J J' : Array Slot} {n k : Nat} {v : wb_V} (h : wb_lc tv ls J n)
    (h' : lv_has J' n ((k, tv v) :: (wb_as tv ls n).filter (fun q => !(q.1 == k) && (!(q.1 == k + 1) && !(q.1 + 1 == k && q.2.category == 2))))) : wb_lc tv (wb_s2 ls k v) J' n := by
  refine ⟨h'.1, h'.2.1, fun j w hw => ?_⟩
  rw [wb_s2] at hw
  by_cases hj1 : j = k + 1
  · subst hj1; rw [wb_g_s_none] at hw; cases hw
  rw [wb_g_s_ne _ _ _ _ hj1] at hw
  by_cases hj : j = k
  · subst hj
    rw [wb_g_s_self _ _ _ _ hw]
    exact h'.2.2 (j, tv v) List.mem_cons_self
  · rw [wb_g_s_ne _ _ _ _ hj] at hw
    obtain ⟨g1, g2⟩ := wb_g_kl hw
    refine h'.2.2 (j, tv w) (List.mem_cons_of_mem _ (List.mem_filter.mpr ⟨wb_as_mem (wb_lc_lt h g1) g1, ?_⟩))
    simp only [Bool.and_eq_true, Bool.not_eq_true', beq_eq_false_iff_ne, Bool.and_eq_false_iff, ne_eq]
    refine ⟨hj, hj1, ?_⟩
    by_cases q : j + 1 = k
    · exact Or.inr (fun e => g2 ⟨q, hc w e⟩)
    · exact Or.inl q
theorem wb_TB_in {w : Cond} (h : w ∈ wb_TB) : w ∈ lw_tbl ∧ goodWord w = true := List.mem_filter.mp h
def wb_pick : List (Bool × Option wb_C) → Option wb_C → Option wb_C
  | [], d => d
  | (b, c) :: l, d => bif b then c else wb_pick l d
theorem wb_ib_pick {ρ : Type} (K : wb_C → Option ρ) : ∀ (l : List (Bool × Option wb_C)) (d : Option wb_C), wb_ib K l d = (wb_pick l d).bind K
  | [], none => rfl
  | [], some c => rfl
  | (b, none) :: l, d => by cases b <;> simp [wb_ib, wb_pick, wb_ib_pick K l d]
  | (b, some c) :: l, d => by cases b <;> simp [wb_ib, wb_pick, wb_ib_pick K l d]
def wb_pk : wb_A → Option wb_C
  | .inl b => wb_pick b.1 b.2
  | _ => none
theorem wb_pk_wr {c : wb_C} (h : wb_pk wb_wr = some c) : False := by cases h
theorem wb_pk_if {b : Bool} {p : Nat} {ls : wb_L} {st : List wb_V} {h : wb_H} {n : wb_N} {c : wb_C} (q : wb_pk (wb_if b p ls st h n) = some c) : b = true ∧ c = (p, ls, st, h, n) := by
  cases b with
  | true => exact ⟨rfl, (Option.some.inj q).symm⟩
  | false => cases q
theorem wb_pk_br {b : Bool} {p p2 : Nat} {ls : wb_L} {st : List wb_V} {h : wb_H} {n : wb_N} {c : wb_C} (q : wb_pk (wb_br b p p2 ls st h n) = some c) : (b = true ∧ c = (p, ls, st, h, n)) ∨ (b = false ∧ c = (p2, ls, st, h, n)) := by
  cases b with
  | true => exact Or.inl ⟨rfl, (Option.some.inj q).symm⟩
  | false => exact Or.inr ⟨rfl, (Option.some.inj q).symm⟩
section WBF
variable {p : Program} {l : Launch} {e : Env} {R : Room} {s : State} {mth : MethodId} {args : Array Value} {below : List Frame} {meth : Method} {c : Code} {Q : State → Prop}
def wb_fr (p : Program) (R : Room) (s : State) (mth : MethodId) (args : Array Value) (meth : Method) (c : Code) (m : Nat) (A : Nat → Prop) : Prop :=
  p.tables.exec = Jvm.exec ∧ c.code = wb_b m ∧ (∀ w ∈ wb_TB, w.before args s = true) ∧ s.vm.findClass (wb_y m).cls = some mth.cls ∧ c.maxLocals = wb_pn m ∧ (∀ q, s.heap.size ≤ q → A q) ∧ ((wb_y m).name = "<init>" → meth.name = "<init>") ∧ wb_nf m ≤ R.frames ∧ wb_nl m ≤ R.locals ∧ wb_mc m ≤ R.cells ∧ wb_ms m ≤ R.slots
def wb_G (p : Program) (l : Launch) (e : Env) (R : Room) (s : State) (mth : MethodId) (args : Array Value) (below : List Frame) (meth : Method) (c : Code) (Q : State → Prop) (fz : Bool) (m : Nat) (rv : Nat → Value) (A : Nat → Prop) (D : va_G) (adr0 : Nat → Nat → Nat) (L0 : List (Nat × Nat)) (x : wb_C) : Prop :=
  ∀ (adr : Nat → Nat → Nat) (cA : Nat → Nat → ClassId) (L : List (Nat × Nat)) (H : Heap) (locs : List Loc) (J : Array Slot),
    wb_rep fz D adr cA L x.2.2.2.2.1 x.2.2.2.1 A H s → ((∀ q ∈ L0, q ∈ L ∧ adr q.1 q.2 = adr0 q.1 q.2) ∧ (fz = true → adr = adr0)) → wb_lc (wb_tv rv adr) x.2.1 J (wb_pn m) → va_S A s.heap H locs →
    W p l e R s mth args below meth c H locs x.2.2.2.2.2.1 x.2.2.2.2.2.2 Q (F0 mth x.1 J (x.2.2.1.map (wb_tv rv adr)))
end WBF
end
section
/-! Pure instructions: each row of the plain machine is a row of the kit. -/
section WBP
variable {p : Program} {l : Launch} {e : Env} {R : Room} {s : State} {mth : MethodId} {args : Array Value} {below : List Frame} {meth : Method} {c : Code} {Q : State → Prop}
variable {fz : Bool} {sc : wb_X} {m pc : Nat} {rv : Nat → Value} {A : Nat → Prop} {D : va_G} {adr0 : Nat → Nat → Nat} {L0 : List (Nat × Nat)} {x : List Nat} {ls : wb_L} {st : List wb_V} {h : wb_H} {n : wb_N} {c' : wb_C}

theorem wb_o_iload_n {k : Fin 4} (F : wb_fr p R s mth args meth c m A) (hd : decode (wb_b m) pc = .ok (.iload_n k, 1)) (hp : wb_pk (wb_st fz sc m pc (.iload_n k) x ls st h n) = some c') (G : wb_G p l e R s mth args below meth c Q fz m rv A D adr0 L0 c') : wb_G p l e R s mth args below meth c Q fz m rv A D adr0 L0 (pc, ls, st, h, n) := by
  obtain ⟨hx, hb, hts, hown, hml, hA, hin, hnf, hnl, hnc, hns⟩ := F
  simp only [wb_st] at hp
  intro adr cA L H locs J hR hxt hl hS
  split at hp
  · rename_i x hv
    cases hp
    have hj := hl.2.2 _ _ hv
    exact lv_iload_n hx hb hd rfl hj (G adr cA L H locs J hR hxt hl hS)
  · cases hp
theorem wb_o_iload {k : Nat} (F : wb_fr p R s mth args meth c m A) (hd : decode (wb_b m) pc = .ok (.iload k, 2)) (hp : wb_pk (wb_st fz sc m pc (.iload k) x ls st h n) = some c') (G : wb_G p l e R s mth args below meth c Q fz m rv A D adr0 L0 c') : wb_G p l e R s mth args below meth c Q fz m rv A D adr0 L0 (pc, ls, st, h, n) := by
  obtain ⟨hx, hb, hts, hown, hml, hA, hin, hnf, hnl, hnc, hns⟩ := F
  simp only [wb_st] at hp
  intro adr cA L H locs J hR hxt hl hS
  split at hp
  · rename_i x hv
    cases hp
    have hj := hl.2.2 _ _ hv
    exact lv_iload hx hb hd  hj (G adr cA L H locs J hR hxt hl hS)
  · cases hp
theorem wb_o_lload_n {k : Fin 4} (F : wb_fr p R s mth args meth c m A) (hd : decode (wb_b m) pc = .ok (.lload_n k, 1)) (hp : wb_pk (wb_st fz sc m pc (.lload_n k) x ls st h n) = some c') (G : wb_G p l e R s mth args below meth c Q fz m rv A D adr0 L0 c') : wb_G p l e R s mth args below meth c Q fz m rv A D adr0 L0 (pc, ls, st, h, n) := by
  obtain ⟨hx, hb, hts, hown, hml, hA, hin, hnf, hnl, hnc, hns⟩ := F
  simp only [wb_st] at hp
  intro adr cA L H locs J hR hxt hl hS
  split at hp
  · rename_i x hv
    cases hp
    have hj := hl.2.2 _ _ hv
    exact lv_lload_n hx hb hd rfl hj (G adr cA L H locs J hR hxt hl hS)
  · cases hp
theorem wb_o_lload {k : Nat} (F : wb_fr p R s mth args meth c m A) (hd : decode (wb_b m) pc = .ok (.lload k, 2)) (hp : wb_pk (wb_st fz sc m pc (.lload k) x ls st h n) = some c') (G : wb_G p l e R s mth args below meth c Q fz m rv A D adr0 L0 c') : wb_G p l e R s mth args below meth c Q fz m rv A D adr0 L0 (pc, ls, st, h, n) := by
  obtain ⟨hx, hb, hts, hown, hml, hA, hin, hnf, hnl, hnc, hns⟩ := F
  simp only [wb_st] at hp
  intro adr cA L H locs J hR hxt hl hS
  split at hp
  · rename_i x hv
    cases hp
    have hj := hl.2.2 _ _ hv
    exact lv_lload hx hb hd  hj (G adr cA L H locs J hR hxt hl hS)
  · cases hp
theorem wb_o_aload_n {k : Fin 4} (F : wb_fr p R s mth args meth c m A) (hd : decode (wb_b m) pc = .ok (.aload_n k, 1)) (hrv : ∀ t, 1 ≤ t → t ≠ 9 → t < 10 → ∃ a, rv t = .ref a) (hp : wb_pk (wb_st fz sc m pc (.aload_n k) x ls st h n) = some c') (G : wb_G p l e R s mth args below meth c Q fz m rv A D adr0 L0 c') : wb_G p l e R s mth args below meth c Q fz m rv A D adr0 L0 (pc, ls, st, h, n) := by
  obtain ⟨hx, hb, hts, hown, hml, hA, hin, hnf, hnl, hnc, hns⟩ := F
  simp only [wb_st] at hp
  intro adr cA L H locs J hR hxt hl hS
  split at hp
  · rename_i r hv
    split at hp
    · rename_i hr0
      cases hp
      have hr : ∃ a, wb_tv rv adr (.inr (.inr r)) = .ref a := by
        obtain ⟨t, o⟩ := r
        have h1 : 1 ≤ t := by
          cases t with
          | zero => cases hr0
          | succ t => exact Nat.succ_le_succ (Nat.zero_le _)
        have h9 : t ≠ 9 := fun z => by subst z; cases hr0
        simp only [wb_tv]
        split
        · exact hrv t h1 h9 (by assumption)
        · exact ⟨_, rfl⟩
      obtain ⟨a, ha⟩ := hr
      have hj := hl.2.2 _ _ hv
      rw [ha] at hj
      have G1 := G adr cA L H locs J hR hxt hl hS
      simp only [List.map_cons, ha] at G1
      exact lv_aload_n hx hb hd rfl hj G1
    · cases hp
  · cases hp
theorem wb_o_aload {k : Nat} (F : wb_fr p R s mth args meth c m A) (hd : decode (wb_b m) pc = .ok (.aload k, 2)) (hrv : ∀ t, 1 ≤ t → t ≠ 9 → t < 10 → ∃ a, rv t = .ref a) (hp : wb_pk (wb_st fz sc m pc (.aload k) x ls st h n) = some c') (G : wb_G p l e R s mth args below meth c Q fz m rv A D adr0 L0 c') : wb_G p l e R s mth args below meth c Q fz m rv A D adr0 L0 (pc, ls, st, h, n) := by
  obtain ⟨hx, hb, hts, hown, hml, hA, hin, hnf, hnl, hnc, hns⟩ := F
  simp only [wb_st] at hp
  intro adr cA L H locs J hR hxt hl hS
  split at hp
  · rename_i r hv
    split at hp
    · rename_i hr0
      cases hp
      have hr : ∃ a, wb_tv rv adr (.inr (.inr r)) = .ref a := by
        obtain ⟨t, o⟩ := r
        have h1 : 1 ≤ t := by
          cases t with
          | zero => cases hr0
          | succ t => exact Nat.succ_le_succ (Nat.zero_le _)
        have h9 : t ≠ 9 := fun z => by subst z; cases hr0
        simp only [wb_tv]
        split
        · exact hrv t h1 h9 (by assumption)
        · exact ⟨_, rfl⟩
      obtain ⟨a, ha⟩ := hr
      have hj := hl.2.2 _ _ hv
      rw [ha] at hj
      have G1 := G adr cA L H locs J hR hxt hl hS
      simp only [List.map_cons, ha] at G1
      exact lv_aload hx hb hd  hj G1
    · cases hp
  · cases hp
theorem wb_o_istore_n {k : Fin 4} (F : wb_fr p R s mth args meth c m A) (hd : decode (wb_b m) pc = .ok (.istore_n k, 1)) (hk : k.val < wb_pn m) (hcat : ∀ t, rv t = .null ∨ ∃ a, rv t = .ref a) (hp : wb_pk (wb_st fz sc m pc (.istore_n k) x ls st h n) = some c') (G : wb_G p l e R s mth args below meth c Q fz m rv A D adr0 L0 c') : wb_G p l e R s mth args below meth c Q fz m rv A D adr0 L0 (pc, ls, st, h, n) := by
  obtain ⟨hx, hb, hts, hown, hml, hA, hin, hnf, hnl, hnc, hns⟩ := F
  simp only [wb_st] at hp
  intro adr cA L H locs J hR hxt hl hS
  split at hp
  · rename_i v st'
    cases hp
    exact lv_istore_n hx hb hd rfl (wb_as_has hl) hk rfl (fun J' hJ => G adr cA L H locs J' hR hxt (wb_lc_s1 (wb_tv_cat hcat) hl hJ) hS)
  · cases hp
theorem wb_o_istore {k : Nat} (F : wb_fr p R s mth args meth c m A) (hd : decode (wb_b m) pc = .ok (.istore k, 2)) (hk : k < wb_pn m) (hcat : ∀ t, rv t = .null ∨ ∃ a, rv t = .ref a) (hp : wb_pk (wb_st fz sc m pc (.istore k) x ls st h n) = some c') (G : wb_G p l e R s mth args below meth c Q fz m rv A D adr0 L0 c') : wb_G p l e R s mth args below meth c Q fz m rv A D adr0 L0 (pc, ls, st, h, n) := by
  obtain ⟨hx, hb, hts, hown, hml, hA, hin, hnf, hnl, hnc, hns⟩ := F
  simp only [wb_st] at hp
  intro adr cA L H locs J hR hxt hl hS
  split at hp
  · rename_i v st'
    cases hp
    exact lv_istore hx hb hd  (wb_as_has hl) hk rfl (fun J' hJ => G adr cA L H locs J' hR hxt (wb_lc_s1 (wb_tv_cat hcat) hl hJ) hS)
  · cases hp
theorem wb_o_lstore_n {k : Fin 4} (F : wb_fr p R s mth args meth c m A) (hd : decode (wb_b m) pc = .ok (.lstore_n k, 1)) (hk : k.val + 1 < wb_pn m) (hcat : ∀ t, rv t = .null ∨ ∃ a, rv t = .ref a) (hp : wb_pk (wb_st fz sc m pc (.lstore_n k) x ls st h n) = some c') (G : wb_G p l e R s mth args below meth c Q fz m rv A D adr0 L0 c') : wb_G p l e R s mth args below meth c Q fz m rv A D adr0 L0 (pc, ls, st, h, n) := by
  obtain ⟨hx, hb, hts, hown, hml, hA, hin, hnf, hnl, hnc, hns⟩ := F
  simp only [wb_st] at hp
  intro adr cA L H locs J hR hxt hl hS
  split at hp
  · rename_i v st'
    cases hp
    exact lv_lstore_n hx hb hd rfl (wb_as_has hl) hk rfl (fun J' hJ => G adr cA L H locs J' hR hxt (wb_lc_s2 (wb_tv_cat hcat) hl hJ) hS)
  · cases hp
theorem wb_o_lstore {k : Nat} (F : wb_fr p R s mth args meth c m A) (hd : decode (wb_b m) pc = .ok (.lstore k, 2)) (hk : k + 1 < wb_pn m) (hcat : ∀ t, rv t = .null ∨ ∃ a, rv t = .ref a) (hp : wb_pk (wb_st fz sc m pc (.lstore k) x ls st h n) = some c') (G : wb_G p l e R s mth args below meth c Q fz m rv A D adr0 L0 c') : wb_G p l e R s mth args below meth c Q fz m rv A D adr0 L0 (pc, ls, st, h, n) := by
  obtain ⟨hx, hb, hts, hown, hml, hA, hin, hnf, hnl, hnc, hns⟩ := F
  simp only [wb_st] at hp
  intro adr cA L H locs J hR hxt hl hS
  split at hp
  · rename_i v st'
    cases hp
    exact lv_lstore hx hb hd  (wb_as_has hl) hk rfl (fun J' hJ => G adr cA L H locs J' hR hxt (wb_lc_s2 (wb_tv_cat hcat) hl hJ) hS)
  · cases hp
theorem wb_o_astore_n {k : Fin 4} (F : wb_fr p R s mth args meth c m A) (hd : decode (wb_b m) pc = .ok (.astore_n k, 1)) (hk : k.val < wb_pn m) (hrv : ∀ t, 1 ≤ t → t ≠ 9 → t < 10 → ∃ a, rv t = .ref a) (hcat : ∀ t, rv t = .null ∨ ∃ a, rv t = .ref a) (hp : wb_pk (wb_st fz sc m pc (.astore_n k) x ls st h n) = some c') (G : wb_G p l e R s mth args below meth c Q fz m rv A D adr0 L0 c') : wb_G p l e R s mth args below meth c Q fz m rv A D adr0 L0 (pc, ls, st, h, n) := by
  obtain ⟨hx, hb, hts, hown, hml, hA, hin, hnf, hnl, hnc, hns⟩ := F
  simp only [wb_st] at hp
  intro adr cA L H locs J hR hxt hl hS
  split at hp
  · rename_i r st'
    split at hp
    · rename_i hr0
      cases hp
      have hr : ∃ a, wb_tv rv adr (.inr (.inr r)) = .ref a := by
        obtain ⟨t, o⟩ := r
        have h1 : 1 ≤ t := by
          cases t with
          | zero => cases hr0
          | succ t => exact Nat.succ_le_succ (Nat.zero_le _)
        have h9 : t ≠ 9 := fun z => by subst z; cases hr0
        simp only [wb_tv]
        split
        · exact hrv t h1 h9 (by assumption)
        · exact ⟨_, rfl⟩
      obtain ⟨a, ha⟩ := hr
      simp only [List.map_cons, ha]
      refine lv_astore_n hx hb hd rfl (wb_as_has hl) hk rfl (fun J' hJ => G adr cA L H locs J' hR hxt (wb_lc_s1 (wb_tv_cat hcat) hl ?_) hS)
      rw [ha]; exact hJ
    · cases hp
  · cases hp
theorem wb_o_astore {k : Nat} (F : wb_fr p R s mth args meth c m A) (hd : decode (wb_b m) pc = .ok (.astore k, 2)) (hk : k < wb_pn m) (hrv : ∀ t, 1 ≤ t → t ≠ 9 → t < 10 → ∃ a, rv t = .ref a) (hcat : ∀ t, rv t = .null ∨ ∃ a, rv t = .ref a) (hp : wb_pk (wb_st fz sc m pc (.astore k) x ls st h n) = some c') (G : wb_G p l e R s mth args below meth c Q fz m rv A D adr0 L0 c') : wb_G p l e R s mth args below meth c Q fz m rv A D adr0 L0 (pc, ls, st, h, n) := by
  obtain ⟨hx, hb, hts, hown, hml, hA, hin, hnf, hnl, hnc, hns⟩ := F
  simp only [wb_st] at hp
  intro adr cA L H locs J hR hxt hl hS
  split at hp
  · rename_i r st'
    split at hp
    · rename_i hr0
      cases hp
      have hr : ∃ a, wb_tv rv adr (.inr (.inr r)) = .ref a := by
        obtain ⟨t, o⟩ := r
        have h1 : 1 ≤ t := by
          cases t with
          | zero => cases hr0
          | succ t => exact Nat.succ_le_succ (Nat.zero_le _)
        have h9 : t ≠ 9 := fun z => by subst z; cases hr0
        simp only [wb_tv]
        split
        · exact hrv t h1 h9 (by assumption)
        · exact ⟨_, rfl⟩
      obtain ⟨a, ha⟩ := hr
      simp only [List.map_cons, ha]
      refine lv_astore hx hb hd  (wb_as_has hl) hk rfl (fun J' hJ => G adr cA L H locs J' hR hxt (wb_lc_s1 (wb_tv_cat hcat) hl ?_) hS)
      rw [ha]; exact hJ
    · cases hp
  · cases hp
theorem wb_o_iconst {z : Int} (F : wb_fr p R s mth args meth c m A) (hd : decode (wb_b m) pc = .ok (.iconst z, 1)) (hp : wb_pk (wb_st fz sc m pc (.iconst z) x ls st h n) = some c') (G : wb_G p l e R s mth args below meth c Q fz m rv A D adr0 L0 c') : wb_G p l e R s mth args below meth c Q fz m rv A D adr0 L0 (pc, ls, st, h, n) := by
  obtain ⟨hx, hb, hts, hown, hml, hA, hin, hnf, hnl, hnc, hns⟩ := F
  simp only [wb_st] at hp
  intro adr cA L H locs J hR hxt hl hS
  cases hp
  exact lv_iconst hx hb hd rfl (G adr cA L H locs J hR hxt hl hS)
theorem wb_o_bipush {z : Int} (F : wb_fr p R s mth args meth c m A) (hd : decode (wb_b m) pc = .ok (.bipush z, 2)) (hz : (Int8.ofInt z).toInt32 = Int32.ofInt z) (hp : wb_pk (wb_st fz sc m pc (.bipush z) x ls st h n) = some c') (G : wb_G p l e R s mth args below meth c Q fz m rv A D adr0 L0 c') : wb_G p l e R s mth args below meth c Q fz m rv A D adr0 L0 (pc, ls, st, h, n) := by
  obtain ⟨hx, hb, hts, hown, hml, hA, hin, hnf, hnl, hnc, hns⟩ := F
  simp only [wb_st] at hp
  intro adr cA L H locs J hR hxt hl hS
  cases hp
  exact lv_bipush hx hb hd hz (G adr cA L H locs J hR hxt hl hS)
theorem wb_o_sipush {z : Int} (F : wb_fr p R s mth args meth c m A) (hd : decode (wb_b m) pc = .ok (.sipush z, 3)) (hz : (Int16.ofInt z).toInt32 = Int32.ofInt z) (hp : wb_pk (wb_st fz sc m pc (.sipush z) x ls st h n) = some c') (G : wb_G p l e R s mth args below meth c Q fz m rv A D adr0 L0 c') : wb_G p l e R s mth args below meth c Q fz m rv A D adr0 L0 (pc, ls, st, h, n) := by
  obtain ⟨hx, hb, hts, hown, hml, hA, hin, hnf, hnl, hnc, hns⟩ := F
  simp only [wb_st] at hp
  intro adr cA L H locs J hR hxt hl hS
  cases hp
  exact lv_sipush hx hb hd hz (G adr cA L H locs J hR hxt hl hS)
theorem wb_o_lconst {z : Fin 2} (F : wb_fr p R s mth args meth c m A) (hd : decode (wb_b m) pc = .ok (.lconst z, 1)) (hp : wb_pk (wb_st fz sc m pc (.lconst z) x ls st h n) = some c') (G : wb_G p l e R s mth args below meth c Q fz m rv A D adr0 L0 c') : wb_G p l e R s mth args below meth c Q fz m rv A D adr0 L0 (pc, ls, st, h, n) := by
  obtain ⟨hx, hb, hts, hown, hml, hA, hin, hnf, hnl, hnc, hns⟩ := F
  simp only [wb_st] at hp
  intro adr cA L H locs J hR hxt hl hS
  cases hp
  exact lv_lconst hx hb hd rfl (G adr cA L H locs J hR hxt hl hS)
theorem wb_o_iinc {k : Nat} {z : Int} (F : wb_fr p R s mth args meth c m A) (hd : decode (wb_b m) pc = .ok (.iinc k z, 3)) (hcat : ∀ t, rv t = .null ∨ ∃ a, rv t = .ref a) (hp : wb_pk (wb_st fz sc m pc (.iinc k z) x ls st h n) = some c') (G : wb_G p l e R s mth args below meth c Q fz m rv A D adr0 L0 c') : wb_G p l e R s mth args below meth c Q fz m rv A D adr0 L0 (pc, ls, st, h, n) := by
  obtain ⟨hx, hb, hts, hown, hml, hA, hin, hnf, hnl, hnc, hns⟩ := F
  simp only [wb_st] at hp
  intro adr cA L H locs J hR hxt hl hS
  split at hp
  · rename_i v hv
    cases hp
    obtain ⟨i, hi⟩ := List.getElem?_of_mem (wb_as_mem (tv := wb_tv rv adr) (wb_lc_lt hl hv) hv)
    exact lv_iinc hx hb hd (wb_as_has hl) hi rfl (wb_lc_lt hl hv) rfl (fun J' hJ => G adr cA L H locs J' hR hxt (wb_lc_s1 (v := .inl (v + Int32.ofInt z)) (wb_tv_cat hcat) hl hJ) hS)
  · cases hp
theorem wb_o_iadd (F : wb_fr p R s mth args meth c m A) (hd : decode (wb_b m) pc = .ok (.iadd, 1)) (hp : wb_pk (wb_st fz sc m pc (.iadd) x ls st h n) = some c') (G : wb_G p l e R s mth args below meth c Q fz m rv A D adr0 L0 c') : wb_G p l e R s mth args below meth c Q fz m rv A D adr0 L0 (pc, ls, st, h, n) := by
  obtain ⟨hx, hb, hts, hown, hml, hA, hin, hnf, hnl, hnc, hns⟩ := F
  simp only [wb_st] at hp
  intro adr cA L H locs J hR hxt hl hS
  split at hp
  · cases hp
    exact lv_iadd hx hb hd (G adr cA L H locs J hR hxt hl hS)
  · cases hp
theorem wb_o_isub (F : wb_fr p R s mth args meth c m A) (hd : decode (wb_b m) pc = .ok (.isub, 1)) (hp : wb_pk (wb_st fz sc m pc (.isub) x ls st h n) = some c') (G : wb_G p l e R s mth args below meth c Q fz m rv A D adr0 L0 c') : wb_G p l e R s mth args below meth c Q fz m rv A D adr0 L0 (pc, ls, st, h, n) := by
  obtain ⟨hx, hb, hts, hown, hml, hA, hin, hnf, hnl, hnc, hns⟩ := F
  simp only [wb_st] at hp
  intro adr cA L H locs J hR hxt hl hS
  split at hp
  · cases hp
    exact lv_isub hx hb hd (G adr cA L H locs J hR hxt hl hS)
  · cases hp
theorem wb_o_imul (F : wb_fr p R s mth args meth c m A) (hd : decode (wb_b m) pc = .ok (.imul, 1)) (hp : wb_pk (wb_st fz sc m pc (.imul) x ls st h n) = some c') (G : wb_G p l e R s mth args below meth c Q fz m rv A D adr0 L0 c') : wb_G p l e R s mth args below meth c Q fz m rv A D adr0 L0 (pc, ls, st, h, n) := by
  obtain ⟨hx, hb, hts, hown, hml, hA, hin, hnf, hnl, hnc, hns⟩ := F
  simp only [wb_st] at hp
  intro adr cA L H locs J hR hxt hl hS
  split at hp
  · cases hp
    exact lv_imul hx hb hd (G adr cA L H locs J hR hxt hl hS)
  · cases hp
theorem wb_o_iand (F : wb_fr p R s mth args meth c m A) (hd : decode (wb_b m) pc = .ok (.iand, 1)) (hp : wb_pk (wb_st fz sc m pc (.iand) x ls st h n) = some c') (G : wb_G p l e R s mth args below meth c Q fz m rv A D adr0 L0 c') : wb_G p l e R s mth args below meth c Q fz m rv A D adr0 L0 (pc, ls, st, h, n) := by
  obtain ⟨hx, hb, hts, hown, hml, hA, hin, hnf, hnl, hnc, hns⟩ := F
  simp only [wb_st] at hp
  intro adr cA L H locs J hR hxt hl hS
  split at hp
  · cases hp
    exact lv_iand hx hb hd (G adr cA L H locs J hR hxt hl hS)
  · cases hp
theorem wb_o_ior (F : wb_fr p R s mth args meth c m A) (hd : decode (wb_b m) pc = .ok (.ior, 1)) (hp : wb_pk (wb_st fz sc m pc (.ior) x ls st h n) = some c') (G : wb_G p l e R s mth args below meth c Q fz m rv A D adr0 L0 c') : wb_G p l e R s mth args below meth c Q fz m rv A D adr0 L0 (pc, ls, st, h, n) := by
  obtain ⟨hx, hb, hts, hown, hml, hA, hin, hnf, hnl, hnc, hns⟩ := F
  simp only [wb_st] at hp
  intro adr cA L H locs J hR hxt hl hS
  split at hp
  · cases hp
    exact lv_ior hx hb hd (G adr cA L H locs J hR hxt hl hS)
  · cases hp
theorem wb_o_ixor (F : wb_fr p R s mth args meth c m A) (hd : decode (wb_b m) pc = .ok (.ixor, 1)) (hp : wb_pk (wb_st fz sc m pc (.ixor) x ls st h n) = some c') (G : wb_G p l e R s mth args below meth c Q fz m rv A D adr0 L0 c') : wb_G p l e R s mth args below meth c Q fz m rv A D adr0 L0 (pc, ls, st, h, n) := by
  obtain ⟨hx, hb, hts, hown, hml, hA, hin, hnf, hnl, hnc, hns⟩ := F
  simp only [wb_st] at hp
  intro adr cA L H locs J hR hxt hl hS
  split at hp
  · cases hp
    exact lv_ixor hx hb hd (G adr cA L H locs J hR hxt hl hS)
  · cases hp
theorem wb_o_ishl (F : wb_fr p R s mth args meth c m A) (hd : decode (wb_b m) pc = .ok (.ishl, 1)) (hp : wb_pk (wb_st fz sc m pc (.ishl) x ls st h n) = some c') (G : wb_G p l e R s mth args below meth c Q fz m rv A D adr0 L0 c') : wb_G p l e R s mth args below meth c Q fz m rv A D adr0 L0 (pc, ls, st, h, n) := by
  obtain ⟨hx, hb, hts, hown, hml, hA, hin, hnf, hnl, hnc, hns⟩ := F
  simp only [wb_st] at hp
  intro adr cA L H locs J hR hxt hl hS
  split at hp
  · cases hp
    exact lv_ishl hx hb hd (G adr cA L H locs J hR hxt hl hS)
  · cases hp
theorem wb_o_ishr (F : wb_fr p R s mth args meth c m A) (hd : decode (wb_b m) pc = .ok (.ishr, 1)) (hp : wb_pk (wb_st fz sc m pc (.ishr) x ls st h n) = some c') (G : wb_G p l e R s mth args below meth c Q fz m rv A D adr0 L0 c') : wb_G p l e R s mth args below meth c Q fz m rv A D adr0 L0 (pc, ls, st, h, n) := by
  obtain ⟨hx, hb, hts, hown, hml, hA, hin, hnf, hnl, hnc, hns⟩ := F
  simp only [wb_st] at hp
  intro adr cA L H locs J hR hxt hl hS
  split at hp
  · cases hp
    exact lv_ishr hx hb hd (G adr cA L H locs J hR hxt hl hS)
  · cases hp
theorem wb_o_ineg (F : wb_fr p R s mth args meth c m A) (hd : decode (wb_b m) pc = .ok (.ineg, 1)) (hp : wb_pk (wb_st fz sc m pc (.ineg) x ls st h n) = some c') (G : wb_G p l e R s mth args below meth c Q fz m rv A D adr0 L0 c') : wb_G p l e R s mth args below meth c Q fz m rv A D adr0 L0 (pc, ls, st, h, n) := by
  obtain ⟨hx, hb, hts, hown, hml, hA, hin, hnf, hnl, hnc, hns⟩ := F
  simp only [wb_st] at hp
  intro adr cA L H locs J hR hxt hl hS
  split at hp
  · cases hp
    exact lv_ineg hx hb hd (G adr cA L H locs J hR hxt hl hS)
  · cases hp
theorem wb_o_ladd (F : wb_fr p R s mth args meth c m A) (hd : decode (wb_b m) pc = .ok (.ladd, 1)) (hp : wb_pk (wb_st fz sc m pc (.ladd) x ls st h n) = some c') (G : wb_G p l e R s mth args below meth c Q fz m rv A D adr0 L0 c') : wb_G p l e R s mth args below meth c Q fz m rv A D adr0 L0 (pc, ls, st, h, n) := by
  obtain ⟨hx, hb, hts, hown, hml, hA, hin, hnf, hnl, hnc, hns⟩ := F
  simp only [wb_st] at hp
  intro adr cA L H locs J hR hxt hl hS
  split at hp
  · cases hp
    exact lv_ladd hx hb hd (G adr cA L H locs J hR hxt hl hS)
  · cases hp
theorem wb_o_lsub (F : wb_fr p R s mth args meth c m A) (hd : decode (wb_b m) pc = .ok (.lsub, 1)) (hp : wb_pk (wb_st fz sc m pc (.lsub) x ls st h n) = some c') (G : wb_G p l e R s mth args below meth c Q fz m rv A D adr0 L0 c') : wb_G p l e R s mth args below meth c Q fz m rv A D adr0 L0 (pc, ls, st, h, n) := by
  obtain ⟨hx, hb, hts, hown, hml, hA, hin, hnf, hnl, hnc, hns⟩ := F
  simp only [wb_st] at hp
  intro adr cA L H locs J hR hxt hl hS
  split at hp
  · cases hp
    exact lv_lsub hx hb hd (G adr cA L H locs J hR hxt hl hS)
  · cases hp
theorem wb_o_lmul (F : wb_fr p R s mth args meth c m A) (hd : decode (wb_b m) pc = .ok (.lmul, 1)) (hp : wb_pk (wb_st fz sc m pc (.lmul) x ls st h n) = some c') (G : wb_G p l e R s mth args below meth c Q fz m rv A D adr0 L0 c') : wb_G p l e R s mth args below meth c Q fz m rv A D adr0 L0 (pc, ls, st, h, n) := by
  obtain ⟨hx, hb, hts, hown, hml, hA, hin, hnf, hnl, hnc, hns⟩ := F
  simp only [wb_st] at hp
  intro adr cA L H locs J hR hxt hl hS
  split at hp
  · cases hp
    exact lv_lmul hx hb hd (G adr cA L H locs J hR hxt hl hS)
  · cases hp
theorem wb_o_lneg (F : wb_fr p R s mth args meth c m A) (hd : decode (wb_b m) pc = .ok (.lneg, 1)) (hp : wb_pk (wb_st fz sc m pc (.lneg) x ls st h n) = some c') (G : wb_G p l e R s mth args below meth c Q fz m rv A D adr0 L0 c') : wb_G p l e R s mth args below meth c Q fz m rv A D adr0 L0 (pc, ls, st, h, n) := by
  obtain ⟨hx, hb, hts, hown, hml, hA, hin, hnf, hnl, hnc, hns⟩ := F
  simp only [wb_st] at hp
  intro adr cA L H locs J hR hxt hl hS
  split at hp
  · cases hp
    exact lv_lneg hx hb hd (G adr cA L H locs J hR hxt hl hS)
  · cases hp
theorem wb_o_lcmp (F : wb_fr p R s mth args meth c m A) (hd : decode (wb_b m) pc = .ok (.lcmp, 1)) (hp : wb_pk (wb_st fz sc m pc (.lcmp) x ls st h n) = some c') (G : wb_G p l e R s mth args below meth c Q fz m rv A D adr0 L0 c') : wb_G p l e R s mth args below meth c Q fz m rv A D adr0 L0 (pc, ls, st, h, n) := by
  obtain ⟨hx, hb, hts, hown, hml, hA, hin, hnf, hnl, hnc, hns⟩ := F
  simp only [wb_st] at hp
  intro adr cA L H locs J hR hxt hl hS
  split at hp
  · cases hp
    exact W.lcmp hx hb hd (G adr cA L H locs J hR hxt hl hS)
  · cases hp
theorem wb_o_iushr (F : wb_fr p R s mth args meth c m A) (hd : decode (wb_b m) pc = .ok (.iushr, 1)) (hp : wb_pk (wb_st fz sc m pc (.iushr) x ls st h n) = some c') (G : wb_G p l e R s mth args below meth c Q fz m rv A D adr0 L0 c') : wb_G p l e R s mth args below meth c Q fz m rv A D adr0 L0 (pc, ls, st, h, n) := by
  obtain ⟨hx, hb, hts, hown, hml, hA, hin, hnf, hnl, hnc, hns⟩ := F
  simp only [wb_st] at hp
  intro adr cA L H locs J hR hxt hl hS
  split at hp
  · cases hp
    exact lv_iushr hx hb hd rfl (G adr cA L H locs J hR hxt hl hS)
  · cases hp
theorem wb_o_i2l (F : wb_fr p R s mth args meth c m A) (hd : decode (wb_b m) pc = .ok (.i2l, 1)) (hp : wb_pk (wb_st fz sc m pc (.i2l) x ls st h n) = some c') (G : wb_G p l e R s mth args below meth c Q fz m rv A D adr0 L0 c') : wb_G p l e R s mth args below meth c Q fz m rv A D adr0 L0 (pc, ls, st, h, n) := by
  obtain ⟨hx, hb, hts, hown, hml, hA, hin, hnf, hnl, hnc, hns⟩ := F
  simp only [wb_st] at hp
  intro adr cA L H locs J hR hxt hl hS
  split at hp
  · cases hp
    exact lv_i2l hx hb hd rfl (G adr cA L H locs J hR hxt hl hS)
  · cases hp
theorem wb_o_l2i (F : wb_fr p R s mth args meth c m A) (hd : decode (wb_b m) pc = .ok (.l2i, 1)) (hp : wb_pk (wb_st fz sc m pc (.l2i) x ls st h n) = some c') (G : wb_G p l e R s mth args below meth c Q fz m rv A D adr0 L0 c') : wb_G p l e R s mth args below meth c Q fz m rv A D adr0 L0 (pc, ls, st, h, n) := by
  obtain ⟨hx, hb, hts, hown, hml, hA, hin, hnf, hnl, hnc, hns⟩ := F
  simp only [wb_st] at hp
  intro adr cA L H locs J hR hxt hl hS
  split at hp
  · cases hp
    exact lv_l2i hx hb hd rfl (G adr cA L H locs J hR hxt hl hS)
  · cases hp
theorem wb_o_i2b (F : wb_fr p R s mth args meth c m A) (hd : decode (wb_b m) pc = .ok (.i2b, 1)) (hp : wb_pk (wb_st fz sc m pc (.i2b) x ls st h n) = some c') (G : wb_G p l e R s mth args below meth c Q fz m rv A D adr0 L0 c') : wb_G p l e R s mth args below meth c Q fz m rv A D adr0 L0 (pc, ls, st, h, n) := by
  obtain ⟨hx, hb, hts, hown, hml, hA, hin, hnf, hnl, hnc, hns⟩ := F
  simp only [wb_st] at hp
  intro adr cA L H locs J hR hxt hl hS
  split at hp
  · cases hp
    exact lv_i2b hx hb hd rfl (G adr cA L H locs J hR hxt hl hS)
  · cases hp
theorem wb_o_i2c (F : wb_fr p R s mth args meth c m A) (hd : decode (wb_b m) pc = .ok (.i2c, 1)) (hp : wb_pk (wb_st fz sc m pc (.i2c) x ls st h n) = some c') (G : wb_G p l e R s mth args below meth c Q fz m rv A D adr0 L0 c') : wb_G p l e R s mth args below meth c Q fz m rv A D adr0 L0 (pc, ls, st, h, n) := by
  obtain ⟨hx, hb, hts, hown, hml, hA, hin, hnf, hnl, hnc, hns⟩ := F
  simp only [wb_st] at hp
  intro adr cA L H locs J hR hxt hl hS
  split at hp
  · cases hp
    exact lv_i2c hx hb hd rfl (G adr cA L H locs J hR hxt hl hS)
  · cases hp
theorem wb_o_idiv (F : wb_fr p R s mth args meth c m A) (hd : decode (wb_b m) pc = .ok (.idiv, 1)) (hp : wb_pk (wb_st fz sc m pc (.idiv) x ls st h n) = some c') (G : wb_G p l e R s mth args below meth c Q fz m rv A D adr0 L0 c') : wb_G p l e R s mth args below meth c Q fz m rv A D adr0 L0 (pc, ls, st, h, n) := by
  obtain ⟨hx, hb, hts, hown, hml, hA, hin, hnf, hnl, hnc, hns⟩ := F
  simp only [wb_st] at hp
  intro adr cA L H locs J hR hxt hl hS
  split at hp
  · obtain ⟨h1, rfl⟩ := wb_pk_if hp
    simp only [Bool.not_eq_true', decide_eq_false_iff_not] at h1
    exact lv_idiv hx hb hd h1 (G adr cA L H locs J hR hxt hl hS)
  · cases hp
theorem wb_o_irem (F : wb_fr p R s mth args meth c m A) (hd : decode (wb_b m) pc = .ok (.irem, 1)) (hp : wb_pk (wb_st fz sc m pc (.irem) x ls st h n) = some c') (G : wb_G p l e R s mth args below meth c Q fz m rv A D adr0 L0 c') : wb_G p l e R s mth args below meth c Q fz m rv A D adr0 L0 (pc, ls, st, h, n) := by
  obtain ⟨hx, hb, hts, hown, hml, hA, hin, hnf, hnl, hnc, hns⟩ := F
  simp only [wb_st] at hp
  intro adr cA L H locs J hR hxt hl hS
  split at hp
  · obtain ⟨h1, rfl⟩ := wb_pk_if hp
    simp only [Bool.not_eq_true', decide_eq_false_iff_not] at h1
    exact lv_irem hx hb hd h1 (G adr cA L H locs J hR hxt hl hS)
  · cases hp
theorem wb_o_ldiv (F : wb_fr p R s mth args meth c m A) (hd : decode (wb_b m) pc = .ok (.ldiv, 1)) (hp : wb_pk (wb_st fz sc m pc (.ldiv) x ls st h n) = some c') (G : wb_G p l e R s mth args below meth c Q fz m rv A D adr0 L0 c') : wb_G p l e R s mth args below meth c Q fz m rv A D adr0 L0 (pc, ls, st, h, n) := by
  obtain ⟨hx, hb, hts, hown, hml, hA, hin, hnf, hnl, hnc, hns⟩ := F
  simp only [wb_st] at hp
  intro adr cA L H locs J hR hxt hl hS
  split at hp
  · obtain ⟨h1, rfl⟩ := wb_pk_if hp
    simp only [Bool.not_eq_true', decide_eq_false_iff_not] at h1
    exact lv_ldiv hx hb hd h1 (G adr cA L H locs J hR hxt hl hS)
  · cases hp
theorem wb_o_lrem (F : wb_fr p R s mth args meth c m A) (hd : decode (wb_b m) pc = .ok (.lrem, 1)) (hp : wb_pk (wb_st fz sc m pc (.lrem) x ls st h n) = some c') (G : wb_G p l e R s mth args below meth c Q fz m rv A D adr0 L0 c') : wb_G p l e R s mth args below meth c Q fz m rv A D adr0 L0 (pc, ls, st, h, n) := by
  obtain ⟨hx, hb, hts, hown, hml, hA, hin, hnf, hnl, hnc, hns⟩ := F
  simp only [wb_st] at hp
  intro adr cA L H locs J hR hxt hl hS
  split at hp
  · obtain ⟨h1, rfl⟩ := wb_pk_if hp
    simp only [Bool.not_eq_true', decide_eq_false_iff_not] at h1
    exact lv_lrem hx hb hd h1 (G adr cA L H locs J hR hxt hl hS)
  · cases hp
theorem wb_cat1 {adr : Nat → Nat → Nat} (hcat : ∀ t, rv t = .null ∨ ∃ a, rv t = .ref a) (r : Nat × Nat) : (wb_tv rv adr (.inr (.inr r))).category = 1 := by
  obtain ⟨t, o⟩ := r
  simp only [wb_tv]
  split
  · rcases hcat t with e | ⟨a, e⟩ <;> rw [e] <;> rfl
  · rfl
theorem wb_o_dup (F : wb_fr p R s mth args meth c m A) (hd : decode (wb_b m) pc = .ok (.dup, 1)) (hcat : ∀ t, rv t = .null ∨ ∃ a, rv t = .ref a) (hp : wb_pk (wb_st fz sc m pc (.dup) x ls st h n) = some c') (G : wb_G p l e R s mth args below meth c Q fz m rv A D adr0 L0 c') : wb_G p l e R s mth args below meth c Q fz m rv A D adr0 L0 (pc, ls, st, h, n) := by
  obtain ⟨hx, hb, hts, hown, hml, hA, hin, hnf, hnl, hnc, hns⟩ := F
  simp only [wb_st] at hp
  intro adr cA L H locs J hR hxt hl hS
  split at hp
  · cases hp
    exact lv_dup hx hb hd rfl (G adr cA L H locs J hR hxt hl hS)
  · cases hp
    exact lv_dup hx hb hd (wb_cat1 hcat _) (G adr cA L H locs J hR hxt hl hS)
  · cases hp
theorem wb_o_dup2 (F : wb_fr p R s mth args meth c m A) (hd : decode (wb_b m) pc = .ok (.dup2, 1)) (hcat : ∀ t, rv t = .null ∨ ∃ a, rv t = .ref a) (hp : wb_pk (wb_st fz sc m pc (.dup2) x ls st h n) = some c') (G : wb_G p l e R s mth args below meth c Q fz m rv A D adr0 L0 c') : wb_G p l e R s mth args below meth c Q fz m rv A D adr0 L0 (pc, ls, st, h, n) := by
  obtain ⟨hx, hb, hts, hown, hml, hA, hin, hnf, hnl, hnc, hns⟩ := F
  simp only [wb_st] at hp
  intro adr cA L H locs J hR hxt hl hS
  split at hp
  · cases hp
    exact lv_dup2_11 hx hb hd rfl (wb_cat1 hcat _) (G adr cA L H locs J hR hxt hl hS)
  · cases hp
theorem wb_o_pop (F : wb_fr p R s mth args meth c m A) (hd : decode (wb_b m) pc = .ok (.pop, 1)) (hp : wb_pk (wb_st fz sc m pc (.pop) x ls st h n) = some c') (G : wb_G p l e R s mth args below meth c Q fz m rv A D adr0 L0 c') : wb_G p l e R s mth args below meth c Q fz m rv A D adr0 L0 (pc, ls, st, h, n) := by
  obtain ⟨hx, hb, hts, hown, hml, hA, hin, hnf, hnl, hnc, hns⟩ := F
  simp only [wb_st] at hp
  intro adr cA L H locs J hR hxt hl hS
  split at hp
  · cases hp
    exact lv_pop hx hb hd rfl (G adr cA L H locs J hR hxt hl hS)
  · cases hp
theorem wb_o_icmp {cc : ClassFile.Cond} {off : Int} (F : wb_fr p R s mth args meth c m A) (hd : decode (wb_b m) pc = .ok (.if_icmp cc off, 3)) (ht : ∀ t, x = [t] → (pc : Int) + off = ((t : Nat) : Int)) (hp : wb_pk (wb_st fz sc m pc (.if_icmp cc off) x ls st h n) = some c') (G : wb_G p l e R s mth args below meth c Q fz m rv A D adr0 L0 c') : wb_G p l e R s mth args below meth c Q fz m rv A D adr0 L0 (pc, ls, st, h, n) := by
  obtain ⟨hx, hb, hts, hown, hml, hA, hin, hnf, hnl, hnc, hns⟩ := F
  simp only [wb_st] at hp
  intro adr cA L H locs J hR hxt hl hS
  split at hp
  · rename_i t b a st'
    have ht : (pc : Int) + off = ((t : Nat) : Int) := ht t rfl
    rcases wb_pk_br hp with ⟨h1, rfl⟩ | ⟨h1, rfl⟩
    · cases cc with
      | eq => exact lv_icmp_eq hx hb hd ht (fun _ => G adr cA L H locs J hR hxt hl hS) (fun q => absurd (by simpa [wb_cm] using h1) q)
      | ne => exact lv_icmp_ne hx hb hd ht (fun _ => G adr cA L H locs J hR hxt hl hS) (fun q => absurd q (by simpa [wb_cm] using h1))
      | lt => exact lv_icmp_lt hx hb hd ht (fun _ => G adr cA L H locs J hR hxt hl hS) (fun q => absurd (by simpa [wb_cm] using h1) q)
      | ge => exact lv_icmp_ge hx hb hd ht (fun _ => G adr cA L H locs J hR hxt hl hS) (fun q => absurd (by simpa [wb_cm] using h1) q)
      | gt => exact lv_icmp_gt hx hb hd ht (fun _ => G adr cA L H locs J hR hxt hl hS) (fun q => absurd (by simpa [wb_cm] using h1) q)
      | le => exact lv_icmp_le hx hb hd ht (fun _ => G adr cA L H locs J hR hxt hl hS) (fun q => absurd (by simpa [wb_cm] using h1) q)
    · cases cc with
      | eq => exact lv_icmp_eq hx hb hd ht (fun q => absurd q (by simpa [wb_cm] using h1)) (fun _ => G adr cA L H locs J hR hxt hl hS)
      | ne => exact lv_icmp_ne hx hb hd ht (fun q => absurd (by simpa [wb_cm] using h1) q) (fun _ => G adr cA L H locs J hR hxt hl hS)
      | lt => exact lv_icmp_lt hx hb hd ht (fun q => absurd q (by simpa [wb_cm] using h1)) (fun _ => G adr cA L H locs J hR hxt hl hS)
      | ge => exact lv_icmp_ge hx hb hd ht (fun q => absurd q (by simpa [wb_cm] using h1)) (fun _ => G adr cA L H locs J hR hxt hl hS)
      | gt => exact lv_icmp_gt hx hb hd ht (fun q => absurd q (by simpa [wb_cm] using h1)) (fun _ => G adr cA L H locs J hR hxt hl hS)
      | le => exact lv_icmp_le hx hb hd ht (fun q => absurd q (by simpa [wb_cm] using h1)) (fun _ => G adr cA L H locs J hR hxt hl hS)
  · cases hp
theorem wb_o_ifc {cc : ClassFile.Cond} {off : Int} (F : wb_fr p R s mth args meth c m A) (hd : decode (wb_b m) pc = .ok (.ifCond cc off, 3)) (ht : ∀ t, x = [t] → (pc : Int) + off = ((t : Nat) : Int)) (hp : wb_pk (wb_st fz sc m pc (.ifCond cc off) x ls st h n) = some c') (G : wb_G p l e R s mth args below meth c Q fz m rv A D adr0 L0 c') : wb_G p l e R s mth args below meth c Q fz m rv A D adr0 L0 (pc, ls, st, h, n) := by
  obtain ⟨hx, hb, hts, hown, hml, hA, hin, hnf, hnl, hnc, hns⟩ := F
  simp only [wb_st] at hp
  intro adr cA L H locs J hR hxt hl hS
  split at hp
  · rename_i t a st'
    have ht : (pc : Int) + off = ((t : Nat) : Int) := ht t rfl
    rcases wb_pk_br hp with ⟨h1, rfl⟩ | ⟨h1, rfl⟩
    · cases cc with
      | eq => exact lv_if_eq hx hb hd ht (fun _ => G adr cA L H locs J hR hxt hl hS) (fun q => absurd (by simpa [wb_cm] using h1) q)
      | ne => exact lv_if_ne hx hb hd ht (fun _ => G adr cA L H locs J hR hxt hl hS) (fun q => absurd q (by simpa [wb_cm] using h1))
      | lt => exact lv_if_lt hx hb hd ht (fun _ => G adr cA L H locs J hR hxt hl hS) (fun q => absurd (by simpa [wb_cm] using h1) q)
      | ge => exact lv_if_ge hx hb hd ht (fun _ => G adr cA L H locs J hR hxt hl hS) (fun q => absurd (by simpa [wb_cm] using h1) q)
      | gt => exact lv_if_gt hx hb hd ht (fun _ => G adr cA L H locs J hR hxt hl hS) (fun q => absurd (by simpa [wb_cm] using h1) q)
      | le => exact lv_if_le hx hb hd ht (fun _ => G adr cA L H locs J hR hxt hl hS) (fun q => absurd (by simpa [wb_cm] using h1) q)
    · cases cc with
      | eq => exact lv_if_eq hx hb hd ht (fun q => absurd q (by simpa [wb_cm] using h1)) (fun _ => G adr cA L H locs J hR hxt hl hS)
      | ne => exact lv_if_ne hx hb hd ht (fun q => absurd (by simpa [wb_cm] using h1) q) (fun _ => G adr cA L H locs J hR hxt hl hS)
      | lt => exact lv_if_lt hx hb hd ht (fun q => absurd q (by simpa [wb_cm] using h1)) (fun _ => G adr cA L H locs J hR hxt hl hS)
      | ge => exact lv_if_ge hx hb hd ht (fun q => absurd q (by simpa [wb_cm] using h1)) (fun _ => G adr cA L H locs J hR hxt hl hS)
      | gt => exact lv_if_gt hx hb hd ht (fun q => absurd q (by simpa [wb_cm] using h1)) (fun _ => G adr cA L H locs J hR hxt hl hS)
      | le => exact lv_if_le hx hb hd ht (fun q => absurd q (by simpa [wb_cm] using h1)) (fun _ => G adr cA L H locs J hR hxt hl hS)
  · cases hp
theorem wb_o_goto {off : Int} (F : wb_fr p R s mth args meth c m A) (hd : decode (wb_b m) pc = .ok (.goto off, 3)) (ht : ∀ t, x = [t] → (pc : Int) + off = ((t : Nat) : Int)) (hp : wb_pk (wb_st fz sc m pc (.goto off) x ls st h n) = some c') (G : wb_G p l e R s mth args below meth c Q fz m rv A D adr0 L0 c') : wb_G p l e R s mth args below meth c Q fz m rv A D adr0 L0 (pc, ls, st, h, n) := by
  obtain ⟨hx, hb, hts, hown, hml, hA, hin, hnf, hnl, hnc, hns⟩ := F
  simp only [wb_st] at hp
  intro adr cA L H locs J hR hxt hl hS
  split at hp
  · rename_i t
    cases hp
    exact lv_goto hx hb hd (ht t rfl) (G adr cA L H locs J hR hxt hl hS)
  · cases hp
end WBP
end
section
/-! Instructions on fields, arrays, statics. -/
theorem wb_uwsg : ∀ q ∈ wb_cls, (u_ws q.1 q.2.1 q.2.2).all goodWord = true := by decide +kernel
theorem wb_uws {ci : Nat} {C : String} {T : u_T} {N : Nat} (h : wb_cls[ci]? = some (C, T, N)) : ∀ w ∈ u_ws C T N, w ∈ wb_TB := by
  intro w hw
  refine List.mem_filter.mpr ⟨?_, List.all_eq_true.mp (wb_uwsg _ (List.mem_of_getElem? h)) w hw⟩
  match ci, h with
  | 0, h => cases h; exact wb_in0 w hw
  | 1, h => cases h; exact wb_in1 w hw
  | 2, h => cases h; exact wb_in2 w hw
  | 3, h => cases h; exact wb_in3 w hw
  | 4, h => cases h; exact wb_in4 w hw
  | 5, h => cases h; exact wb_in5 w hw
  | 6, h => cases h; exact wb_in6 w hw
  | 7, h => cases h; exact wb_in7 w hw
  | 8, h => cases h; exact wb_in8 w hw
  | 9, h => cases h; exact wb_in9 w hw
  | 10, h => cases h; exact wb_in10 w hw
  | 11, h => cases h; exact wb_in11 w hw
  | k + 12, h => simp at h
def wb_Yf : Nat → Nat → FieldType
  | 0 => wb_Y0 | 1 => wb_Y1 | 2 => wb_Y2 | 3 => wb_Y3 | 4 => wb_Y4 | 5 => wb_Y5 | 6 => wb_Y6 | 7 => wb_Y7 | 8 => wb_Y8 | 9 => wb_Y9 | 10 => wb_Y10 | _ => wb_Y11
theorem wb_Yok {ci : Nat} {C : String} {T : u_T} {N : Nat} (h : wb_cls[ci]? = some (C, T, N)) : (∀ k, k < N → parseFieldDescriptor (T k).2.2.1 = some (wb_Yf ci k)) ∧ (∀ a, a < N → ∀ b, b < N → a ≠ b → (T a).2.1 ≠ (T b).2.1) := by
  match ci, h with
  | 0, h => cases h; exact ⟨wb_ty0, wb_nm0⟩
  | 1, h => cases h; exact ⟨wb_ty1, wb_nm1⟩
  | 2, h => cases h; exact ⟨wb_ty2, wb_nm2⟩
  | 3, h => cases h; exact ⟨wb_ty3, wb_nm3⟩
  | 4, h => cases h; exact ⟨wb_ty4, wb_nm4⟩
  | 5, h => cases h; exact ⟨wb_ty5, wb_nm5⟩
  | 6, h => cases h; exact ⟨wb_ty6, wb_nm6⟩
  | 7, h => cases h; exact ⟨wb_ty7, wb_nm7⟩
  | 8, h => cases h; exact ⟨wb_ty8, wb_nm8⟩
  | 9, h => cases h; exact ⟨wb_ty9, wb_nm9⟩
  | 10, h => cases h; exact ⟨wb_ty10, wb_nm10⟩
  | 11, h => cases h; exact ⟨wb_ty11, wb_nm11⟩
  | k + 12, h => simp at h
def wb_kd : FieldType → Nat
  | .int => 0
  | .long => 1
  | .object _ => 2
  | .array _ => 2
  | .boolean => 3
  | _ => 9
/-- the class tables agree: number of fields, kinds, and the targets of references -/
def wb_ckc (ci : Nat) : Bool := match wb_cls[ci]? with
  | some (C, T, N) => decide (N = wb_nfd ci) && (List.range N).all (fun k => decide (wb_kd (wb_Yf ci k) = wb_fk ci k) && decide ((T k).1 = C))
  | none => false
theorem wb_ckc_all : ∀ ci, ci < 12 → wb_ckc ci = true := by decide +kernel
theorem wb_cls_at {ci : Nat} (h : ci < 12) : ∃ C T N, wb_cls[ci]? = some (C, T, N) ∧ N = wb_nfd ci ∧ ∀ k, k < N → wb_kd (wb_Yf ci k) = wb_fk ci k ∧ (T k).1 = C := by
  have h1 := wb_ckc_all ci h
  unfold wb_ckc at h1
  split at h1
  · rename_i C T N e
    simp only [Bool.and_eq_true, decide_eq_true_eq, List.all_eq_true, List.mem_range] at h1
    exact ⟨C, T, N, e, h1.1, fun k hk => h1.2 k hk⟩
  · cases h1
theorem wb_nth_ge {α : Type} (d : α) : ∀ (l : List α) (k : Nat), l.length ≤ k → wb_nth d l k = d
  | [], _, _ => rfl
  | _ :: l, 0, h => by simp at h
  | _ :: l, k + 1, h => wb_nth_ge d l k (by simpa using h)
theorem wb_shl_len : wb_shl.length = wb_NT := by decide +kernel
theorem wb_shl_low : ∀ t, t < 10 → (wb_shp t).1 = 9 := by decide +kernel
theorem wb_shp_rng {t : Nat} (h : (wb_shp t).1 ≠ 9) : 10 ≤ t ∧ t < wb_NT := by
  refine ⟨Nat.not_lt.mp fun q => h (wb_shl_low t q), Nat.not_le.mp fun q => h ?_⟩
  rw [wb_shp, wb_nth_ge _ _ _ (by rw [wb_shl_len]; exact q)]
/-- tags: an object's class is a class; a reference goes to a tag of objects -/
def wb_ckt (t : Nat) : Bool := match wb_shp t with
  | (0, ci) => decide (ci < 12) && (List.range (wb_nfd ci)).all (fun k => !decide (wb_fk ci k = 2) || decide (10 ≤ (wb_rf t k).1))
  | (5, _) => decide (10 ≤ (wb_rf t 0).1)
  | _ => true
theorem wb_ckt_all : ∀ t, t < wb_NT → wb_ckt t = true := by decide +kernel
theorem wb_tag_obj {t ci : Nat} (h : wb_shp t = (0, ci)) : 10 ≤ t ∧ ci < 12 ∧ ∀ k, k < wb_nfd ci → wb_fk ci k = 2 → 10 ≤ (wb_rf t k).1 := by
  obtain ⟨h1, h2⟩ := wb_shp_rng (t := t) (by rw [h]; exact (by decide : (0 : Nat) ≠ 9))
  have h3 := wb_ckt_all t h2
  unfold wb_ckt at h3
  rw [h] at h3
  simp only [Bool.and_eq_true, decide_eq_true_eq, List.all_eq_true, List.mem_range, Bool.or_eq_true, Bool.not_eq_true', decide_eq_false_iff_not] at h3
  exact ⟨h1, h3.1, fun k hk h2 => (h3.2 k hk).resolve_left (fun q => q h2)⟩
theorem wb_tag_arr {t n : Nat} (h : wb_shp t = (5, n)) : 10 ≤ t ∧ 10 ≤ (wb_rf t 0).1 := by
  obtain ⟨h1, h2⟩ := wb_shp_rng (t := t) (by rw [h]; exact (by decide : (5 : Nat) ≠ 9))
  have h3 := wb_ckt_all t h2
  unfold wb_ckt at h3
  rw [h] at h3
  exact ⟨h1, of_decide_eq_true h3⟩
theorem wb_ent_congr {fz : Bool} {adr : Nat → Nat → Nat} {cA : Nat → Nat → ClassId} {h h' : wb_H} {t o : Nat} (e1 : h'.1 t o = h.1 t o) (e2 : h'.2.1 t o = h.2.1 t o) (e3 : h'.2.2 t o = h.2.2 t o) : wb_ent fz adr cA h' t o = wb_ent fz adr cA h t o := by
  have f1 : ∀ ci k, wb_fv fz adr h' ci t o k = wb_fv fz adr h ci t o k := fun ci k => by simp only [wb_fv, wb_rq, e1, e2, e3]
  have f2 : wb_fv fz adr h' = wb_fv fz adr h ∨ True := Or.inr trivial
  unfold wb_ent
  split
  · congr 2
    exact List.map_congr_left fun k _ => f1 _ k
  · rw [e2]
  · simp only [wb_sq, e3]
  · rw [e1]
theorem wb_wd_at {fz : Bool} {adr : Nat → Nat → Nat} {cA : Nat → Nat → ClassId} {h : wb_H} {L : List (Nat × Nat)} {i t o : Nat} (hi : L[i]? = some (t, o)) : (wb_wd fz adr cA h L)[i]? = some (adr t o, wb_ent fz adr cA h t o) := by
  rw [wb_wd, List.getElem?_map, hi]; rfl
theorem wb_wd_set {fz : Bool} {adr : Nat → Nat → Nat} {cA : Nat → Nat → ClassId} {h h' : wb_H} {L : List (Nat × Nat)} {i t o : Nat} (hn : L.Nodup) (hi : L[i]? = some (t, o)) (he : ∀ t' o', (t', o') ≠ (t, o) → wb_ent fz adr cA h' t' o' = wb_ent fz adr cA h t' o') :
    (wb_wd fz adr cA h L).set i (adr t o, wb_ent fz adr cA h' t o) = wb_wd fz adr cA h' L := by
  apply List.ext_getElem?
  intro j
  by_cases hj : j = i
  · subst hj
    rw [wb_wd_at hi, List.getElem?_set_self (by rw [wb_wd, List.length_map]; exact (List.getElem?_eq_some_iff.mp hi).1)]
  · rw [List.getElem?_set_ne (Ne.symm hj), wb_wd, wb_wd, List.getElem?_map, List.getElem?_map]
    cases hq : L[j]? with
    | none => rfl
    | some q =>
      have hne : q ≠ (t, o) := by
        intro e
        subst e
        exact hj ((List.getElem?_inj (List.getElem?_eq_some_iff.mp hq).1 hn).mp (hq.trans hi.symm))
      simp only [Option.map_some]
      rw [he q.1 q.2 hne]
theorem wb_u_ne {α : Type} {f : Nat → Nat → Nat → α} {t o k : Nat} {v : α} {t' o' : Nat} (h : (t', o') ≠ (t, o)) : wb_u f t o k v t' o' = f t' o' := by
  funext k'
  simp only [wb_u]
  rw [if_neg]
  rintro ⟨a, b, -⟩
  exact h (by rw [a, b])
theorem wb_u_self {α : Type} {f : Nat → Nat → Nat → α} {t o k : Nat} {v : α} : wb_u f t o k v t o = fun j => if j = k then v else f t o j := by
  funext k'
  simp [wb_u]
section WBQ
variable {p : Program} {l : Launch} {e : Env} {R : Room} {s : State} {mth : MethodId} {args : Array Value} {below : List Frame} {meth : Method} {c : Code} {Q : State → Prop}
variable {fz : Bool} {sc : wb_X} {m pc : Nat} {rv : Nat → Value} {A : Nat → Prop} {D : va_G} {adr0 : Nat → Nat → Nat} {L0 : List (Nat × Nat)} {x : List Nat} {ls : wb_L} {st : List wb_V} {h : wb_H} {n : wb_N} {c' : wb_C}
variable {adr : Nat → Nat → Nat} {cA : Nat → Nat → ClassId} {L : List (Nat × Nat)} {cn : Nat → Nat} {H : Heap}
theorem wb_rep_at (hR : wb_rep fz D adr cA L cn h A H s) {t o : Nat} (ht : 10 ≤ t) (ho : o < cn t) : ∃ i : Nat, L[i]? = some (t, o) ∧ (wb_wd fz adr cA h L)[i]? = some (adr t o, wb_ent fz adr cA h t o) := by
  obtain ⟨i, hi⟩ := List.getElem?_of_mem ((hR.1.2.1 t o).mpr ⟨ht, ho⟩)
  exact ⟨i, hi, wb_wd_at hi⟩
theorem wb_rep_set (hR : wb_rep fz D adr cA L cn h A H s) {i t o : Nat} {h' : wb_H} {H1 : Heap} (hi : L[i]? = some (t, o)) (hok : wb_ok fz L cn h') (he : ∀ t' o', (t', o') ≠ (t, o) → wb_ent fz adr cA h' t' o' = wb_ent fz adr cA h t' o')
    {en : va_E} (hen : en = wb_ent fz adr cA h' t o) (hP : va_P D wb_cls ((wb_wd fz adr cA h L).set i (adr t o, en)) H1) (hD : va_D A ((wb_wd fz adr cA h L).set i (adr t o, en))) : wb_rep fz D adr cA L cn h' A H1 s := by
  subst hen
  rw [wb_wd_set hR.1.1 hi he] at hP hD
  exact ⟨hok, hP, hD, hR.2.2.2.1, hR.2.2.2.2⟩
theorem wb_K1 (hR : wb_rep fz D adr cA L cn h A H s) {t o : Nat} (ht : 10 ≤ t) (ho : o < cn t) (hk : (wb_shp t).1 ≠ 0) : va_K D wb_cls [(cA t o, wb_ty (wb_shp t).1)] s := by
  refine ⟨hR.2.2.2.1.1, fun k q hq => ?_⟩
  have hz : k = 0 := by
    have := (List.getElem?_eq_some_iff.mp hq).1
    simp at this; exact this
  subst hz
  cases hq
  exact hR.2.2.2.2 t o ((hR.1.2.1 t o).mpr ⟨ht, ho⟩) hk
theorem wb_vin {i : Int32} {k : Nat} (h : wb_in i k = true) : vp_in i k := by
  simp only [wb_in, Bool.and_eq_true, Bool.not_eq_true', decide_eq_false_iff_not, decide_eq_true_eq] at h
  rintro (q | q)
  · exact h.1 q
  · omega
theorem wb_tvr {t o : Nat} (ht : 10 ≤ t) : wb_tv rv adr (.inr (.inr (t, o))) = .ref (adr t o) := by
  simp only [wb_tv]
  rw [if_neg (Nat.not_lt.mpr ht)]
/-- a word at its place in the tables -/
def wb_at (i : Nat) (w : Cond) : Bool := decide (lw_tbl[i]? = some w) && goodWord w
def wb_atn (i : Nat) (w : Cond) : Bool := decide (lw_tbl[i]? = some w) && wb_isN w
theorem wb_atn_in {i : Nat} {w : Cond} (h : wb_atn i w = true) (hro : wb_RO sc rv A s) : va_Nw w s := by
  simp only [wb_atn, Bool.and_eq_true, decide_eq_true_eq] at h
  exact hro.2.2.2.2.2.2.2.2.2.2.2.1 w (List.mem_of_getElem? h.1) h.2
theorem wb_at_in {i : Nat} {w : Cond} (h : wb_at i w = true) : w ∈ wb_TB := by
  simp only [wb_at, Bool.and_eq_true, decide_eq_true_eq] at h
  exact List.mem_filter.mpr ⟨List.mem_of_getElem? h.1, h.2⟩
def wb_ckg (m idx : Nat) (x : List Nat) : Bool := match x with
  | 100 :: 0 :: _ :: pos :: _ => wb_at pos (.fieldLink (wb_y m).cls idx "java/lang/String" "value" "[B")
  | 100 :: 1 :: _ :: pos :: _ => wb_at pos (.fieldLink (wb_y m).cls idx "java/lang/String" "coder" "B")
  | ci :: k :: ty :: pos :: _ => (match wb_cls[ci]? with
    | some (C, T, N) => decide (k < N) && wb_at pos (.fieldLink (wb_y m).cls idx C (T k).2.1 (T k).2.2.1) && (decide (wb_fk ci k = ty) || (decide (wb_fk ci k = 3) && decide (ty = 0)))
    | none => false)
  | _ => false
set_option maxHeartbeats 4000000 in
theorem wb_o_getfield {idx : Nat} (F : wb_fr p R s mth args meth c m A) (hd : decode (wb_b m) pc = .ok (.getfield idx, 3)) (hck : wb_ckg m idx x = true) (hro : wb_RO sc rv A s) (hp : wb_pk (wb_st fz sc m pc (.getfield idx) x ls st h n) = some c') (G : wb_G p l e R s mth args below meth c Q fz m rv A D adr0 L0 c') : wb_G p l e R s mth args below meth c Q fz m rv A D adr0 L0 (pc, ls, st, h, n) := by
  obtain ⟨hx, hb, hts, hown, hml, hA, hin, hnf, hnl, hnc, hns⟩ := F
  simp only [wb_st] at hp
  intro adr cA L H locs J hR hxt hl hS
  have hR : wb_rep fz D adr cA L n.1 h A H s := hR
  unfold wb_gf at hp
  split at hp
  · rename_i k x' t o st'
    split at hp
    · rename_i v hv
      cases hp
      have G1 := G adr cA L H locs J hR hxt hl hS
      unfold wb_str at hv
      split at hv
      · cases hv
        obtain ⟨a, ha, h1, h2, h3⟩ := hro.2.2.2.1 5 (Or.inl rfl)
        have hr : wb_tv rv adr (.inr (.inr (5, o))) = .ref a := by simp only [wb_tv]; rw [if_pos (by decide)]; exact ha
        have hr7 : wb_tv rv adr (.inr (.inr (7, 0))) = rv 7 := by simp only [wb_tv]; rw [if_pos (by decide)]
        simp only [List.map_cons, hr, hr7] at G1 ⊢
        match x', hck with
        | _ :: pos :: _, hck => exact vk_getf hx hb h2 hS hown (hts _ (wb_at_in hck)) (fun _ z => z) hd G1
      · cases hv
        obtain ⟨a, ha, h1, h2, h3⟩ := hro.2.2.2.1 6 (Or.inr rfl)
        have hr : wb_tv rv adr (.inr (.inr (6, o))) = .ref a := by simp only [wb_tv]; rw [if_pos (by decide)]; exact ha
        have hr7 : wb_tv rv adr (.inr (.inr (8, 0))) = rv 8 := by simp only [wb_tv]; rw [if_pos (by decide)]
        simp only [List.map_cons, hr, hr7] at G1 ⊢
        match x', hck with
        | _ :: pos :: _, hck => exact vk_getf hx hb h2 hS hown (hts _ (wb_at_in hck)) (fun _ z => z) hd G1
      · cases hv
        obtain ⟨a, ha, h1, h2, h3⟩ := hro.2.2.2.1 5 (Or.inl rfl)
        have hr : wb_tv rv adr (.inr (.inr (5, o))) = .ref a := by simp only [wb_tv]; rw [if_pos (by decide)]; exact ha
        simp only [List.map_cons, hr] at G1 ⊢
        match x', hck with
        | _ :: pos :: _, hck => exact vk_getf hx hb h3 hS hown (hts _ (wb_at_in hck)) (fun _ z => z) hd G1
      · cases hv
        obtain ⟨a, ha, h1, h2, h3⟩ := hro.2.2.2.1 6 (Or.inr rfl)
        have hr : wb_tv rv adr (.inr (.inr (6, o))) = .ref a := by simp only [wb_tv]; rw [if_pos (by decide)]; exact ha
        simp only [List.map_cons, hr] at G1 ⊢
        match x', hck with
        | _ :: pos :: _, hck => exact vk_getf hx hb h3 hS hown (hts _ (wb_at_in hck)) (fun _ z => z) hd G1
      · cases hv
    · cases hp
  · rename_i ci k ty x' t o st' hne
    split at hp
    · rename_i hsh
      rw [Bool.and_eq_true] at hsh
      have hsh : wb_shp t = (0, ci) := Prod.ext (Nat.eq_of_beq_eq_true hsh.1) (Nat.eq_of_beq_eq_true hsh.2)
      obtain ⟨ht10, hci, hrf⟩ := wb_tag_obj hsh
      obtain ⟨C, T, N, hcl, hN, hkk⟩ := wb_cls_at hci
      have hck2 : k < N ∧ (∃ pos, wb_at pos (.fieldLink (wb_y m).cls idx C (T k).2.1 (T k).2.2.1) = true) ∧ (wb_fk ci k = ty ∨ (wb_fk ci k = 3 ∧ ty = 0)) := by
        unfold wb_ckg at hck
        split at hck
        · rename_i e; cases e; exact absurd hci (by decide)
        · rename_i e; cases e; exact absurd hci (by decide)
        · rename_i e
          cases e
          rw [hcl] at hck
          simp only [Bool.and_eq_true, Bool.or_eq_true, decide_eq_true_eq] at hck
          exact ⟨hck.1.1, ⟨_, hck.1.2⟩, hck.2⟩
        · cases hck
      obtain ⟨hkN, ⟨pos, hw⟩, hfk⟩ := hck2
      have hw := hts _ (wb_at_in hw)
      have hsame : ∀ y, s.fieldFound? (T k).1 (T k).2.1 (T k).2.2.1 = some y → s.fieldFound? C (T k).2.1 (T k).2.2.1 = some y := by
        rw [(hkk k hkN).2]; exact fun _ z => z
      have key : o < n.1 t → W p l e R s mth args below meth c H locs n.2.1 n.2.2 Q (F0 mth (pc + 3) J (wb_fv fz adr h ci t o k :: st'.map (wb_tv rv adr))) → W p l e R s mth args below meth c H locs n.2.1 n.2.2 Q (F0 mth pc J (.ref (adr t o) :: st'.map (wb_tv rv adr))) := by
        intro ho hW
        obtain ⟨i, hi, hwd⟩ := wb_rep_at hR ht10 ho
        have hent : wb_ent fz adr cA h t o = .inr (ci, (List.range (wb_nfd ci)).map (wb_fv fz adr h ci t o)) := by unfold wb_ent; rw [hsh]; rfl
        rw [hent] at hwd
        exact va_get (D := D) (ci := ci) (C := C) (T := T) (N := N) hx hb hts (wb_uws hcl) hown hR.2.2.2.1 hR.2.1 i hwd hcl k hkN hw hsame (by rw [List.getElem?_map, List.getElem?_range (by rw [← hN]; exact hkN)]; rfl) hd hW
      split at hp
      · obtain ⟨h1, rfl⟩ := wb_pk_if hp
        have h1 := of_decide_eq_true h1
        have G1 := G adr cA L H locs J hR hxt hl hS
        have hfv : wb_fv fz adr h ci t o k = .int (h.1 t o k) := by
          rcases hfk with q | ⟨q, -⟩ <;> simp [wb_fv, q]
        rw [List.map_cons, wb_tvr ht10]
        exact key h1 (by rw [hfv]; exact G1)
      · obtain ⟨h1, rfl⟩ := wb_pk_if hp
        have h1 := of_decide_eq_true h1
        have G1 := G adr cA L H locs J hR hxt hl hS
        have hfv : wb_fv fz adr h ci t o k = .long (h.2.1 t o k) := by
          rcases hfk with q | ⟨-, q⟩
          · simp [wb_fv, q]
          · cases q
        rw [List.map_cons, wb_tvr ht10]
        exact key h1 (by rw [hfv]; exact G1)
      · have hk2 : wb_fk ci k = 2 := by
          rcases hfk with q | ⟨-, q⟩
          · exact q
          · cases q
        have hr10 := hrf k (by rw [← hN]; exact hkN) hk2
        split at hp
        · rename_i j hj
          obtain ⟨h1, rfl⟩ := wb_pk_if hp
          have h1 := of_decide_eq_true h1
          have G1 := G adr cA L H locs J hR hxt hl hS
          have hfv : wb_fv fz adr h ci t o k = .ref (adr (wb_rf t k).1 j) := by simp [wb_fv, hk2, wb_rq, hj, va_rf]
          rw [List.map_cons, wb_tvr ht10]
          refine key h1 ?_
          rw [hfv]
          have e1 := wb_tvr (rv := rv) (adr := adr) (o := j) hr10
          simp only [List.map_cons, e1] at G1
          exact G1
        · rename_i hj
          obtain ⟨h1, rfl⟩ := wb_pk_if hp
          simp only [Bool.and_eq_true, decide_eq_true_eq] at h1
          have G1 := G adr cA L H locs J hR hxt hl hS
          have hfv : wb_fv fz adr h ci t o k = .ref (adr (wb_rf t k).1 (h.2.2 t o k - 1)) := by
            simp only [wb_fv, hk2, wb_rq, hj]
            rw [if_neg (by omega)]
            rfl
          rw [List.map_cons, wb_tvr ht10]
          refine key h1.1 ?_
          rw [hfv]
          have e1 := wb_tvr (rv := rv) (adr := adr) (o := h.2.2 t o k - 1) hr10
          simp only [List.map_cons, e1] at G1
          exact G1
      · cases hp
    · cases hp
  · cases hp

theorem wb_ent_obj {t o ci : Nat} (hsh : wb_shp t = (0, ci)) : wb_ent fz adr cA h t o = .inr (ci, (List.range (wb_nfd ci)).map (wb_fv fz adr h ci t o)) := by
  unfold wb_ent; rw [hsh]; rfl
theorem wb_ent_int {t o k len : Nat} (hsh : wb_shp t = (k, len)) (hk : k = 1 ∨ k = 2 ∨ k = 3) : wb_ent fz adr cA h t o = .inl (cA t o, len, .inl (h.1 t o)) := by
  unfold wb_ent; rw [hsh]
  rcases hk with rfl | rfl | rfl <;> rfl
theorem wb_ent_long {t o len : Nat} (hsh : wb_shp t = (4, len)) : wb_ent fz adr cA h t o = .inl (cA t o, len, .inr (.inl (h.2.1 t o))) := by
  unfold wb_ent; rw [hsh]; rfl
theorem wb_ent_ref {t o len : Nat} (hsh : wb_shp t = (5, len)) : wb_ent fz adr cA h t o = .inl (cA t o, len, .inr (.inr (.inr (.inr (fun j => (wb_sq fz h t o j).map (adr (wb_rf t 0).1)))))) := by
  unfold wb_ent; rw [hsh]; rfl
theorem wb_fs_set {α : Type} {N k : Nat} {F F' : Nat → α} {v : α} (h1 : ∀ j, j ≠ k → F' j = F j) (h2 : F' k = v) : ((List.range N).map F).set k v = (List.range N).map F' := by
  apply List.ext_getElem?
  intro j
  by_cases hj : j = k
  · subst hj
    by_cases hl : j < N
    · rw [List.getElem?_set_self (by simpa using hl), List.getElem?_map, List.getElem?_range hl, ← h2]; rfl
    · rw [List.getElem?_eq_none (by simp; omega), List.getElem?_eq_none (by simp; omega)]
  · rw [List.getElem?_set_ne (Ne.symm hj), List.getElem?_map, List.getElem?_map]
    by_cases hl : j < N
    · rw [List.getElem?_range hl]; simp [h1 j hj]
    · rw [List.getElem?_eq_none (by simp; omega)]; rfl
theorem wb_fv_congr {h' : wb_H} {ci t o j : Nat} (e1 : h'.1 t o j = h.1 t o j) (e2 : h'.2.1 t o j = h.2.1 t o j) (e3 : h'.2.2 t o j = h.2.2 t o j) : wb_fv fz adr h' ci t o j = wb_fv fz adr h ci t o j := by
  simp only [wb_fv, wb_rq, e1, e2, e3]
theorem wb_u_nk {α : Type} {f : Nat → Nat → Nat → α} {t o k j : Nat} {v : α} (hj : j ≠ k) : wb_u f t o k v t o j = f t o j := by
  simp only [wb_u]; rw [if_neg]; exact fun q => hj q.2.2
theorem wb_kd0 {ty : FieldType} (h : wb_kd ty = 0) : ty = .int := by cases ty <;> first | rfl | cases h
theorem wb_kd1 {ty : FieldType} (h : wb_kd ty = 1) : ty = .long := by cases ty <;> first | rfl | cases h
theorem wb_kd3 {ty : FieldType} (h : wb_kd ty = 3) : ty = .boolean := by cases ty <;> first | rfl | cases h
theorem wb_kd2 {ty : FieldType} (h : wb_kd ty = 2) : (∃ n, ty = .object n) ∨ ∃ t, ty = .array t := by
  cases ty with
  | object n => exact Or.inl ⟨n, rfl⟩
  | array t => exact Or.inr ⟨t, rfl⟩
  | _ => cases h
def wb_ckp (m idx : Nat) (x : List Nat) : Bool := match x with
  | ci :: k :: ty :: pos :: _ => (match wb_cls[ci]? with
    | some (C, T, N) => decide (k < N) && wb_at pos (.fieldLink (wb_y m).cls idx C (T k).2.1 (T k).2.2.1) && decide (wb_fk ci k = ty) && (!(T k).2.2.2 || (decide ((wb_y m).name = "<init>") && decide (C = (wb_y m).cls)))
    | none => false)
  | _ => false
theorem wb_nb_or {v : Int32} (h : wb_nb v = true) : v = 0 ∨ v = 1 := by
  simp only [wb_nb, Bool.or_eq_true, decide_eq_true_eq] at h
  rcases h with h | h
  · exact Or.inl h
  · exact Or.inr h
set_option maxHeartbeats 4000000 in
theorem wb_o_putfield {idx : Nat} (F : wb_fr p R s mth args meth c m A) (hd : decode (wb_b m) pc = .ok (.putfield idx, 3)) (hck : wb_ckp m idx x = true) (hp : wb_pk (wb_st fz sc m pc (.putfield idx) x ls st h n) = some c') (G : wb_G p l e R s mth args below meth c Q fz m rv A D adr0 L0 c') : wb_G p l e R s mth args below meth c Q fz m rv A D adr0 L0 (pc, ls, st, h, n) := by
  obtain ⟨hx, hb, hts, hown, hml, hA, hin, hnf, hnl, hnc, hns⟩ := F
  simp only [wb_st] at hp
  intro adr cA L H locs J hR hxt hl hS
  have hR : wb_rep fz D adr cA L n.1 h A H s := hR
  unfold wb_pf at hp
  split at hp
  · rename_i ci k ty x' v t o st'
    split at hp
    · rename_i hsh
      rw [Bool.and_eq_true] at hsh
      have hsh : wb_shp t = (0, ci) := Prod.ext (Nat.eq_of_beq_eq_true hsh.1) (Nat.eq_of_beq_eq_true hsh.2)
      obtain ⟨ht10, hci, hrf⟩ := wb_tag_obj hsh
      obtain ⟨C, T, N, hcl, hN, hkk⟩ := wb_cls_at hci
      have hck2 : k < N ∧ (∃ pos, wb_at pos (.fieldLink (wb_y m).cls idx C (T k).2.1 (T k).2.2.1) = true) ∧ wb_fk ci k = ty ∧ ((T k).2.2.2 = false ∨ ((wb_y m).name = "<init>" ∧ C = (wb_y m).cls)) := by
        unfold wb_ckp at hck
        split at hck
        · rename_i e
          cases e
          rw [hcl] at hck
          simp only [Bool.and_eq_true, Bool.or_eq_true, decide_eq_true_eq, Bool.not_eq_true'] at hck
          exact ⟨hck.1.1.1, ⟨_, hck.1.1.2⟩, hck.1.2, hck.2⟩
        · cases hck
      obtain ⟨hkN, ⟨pos, hw⟩, hfk, hfin⟩ := hck2
      have hw := hts _ (wb_at_in hw)
      have hsame : ∀ y, s.fieldFound? (T k).1 (T k).2.1 (T k).2.2.1 = some y → s.fieldFound? C (T k).2.1 (T k).2.2.1 = some y := by
        rw [(hkk k hkN).2]; exact fun _ z => z
      have hY := wb_Yok hcl
      have key : ∀ (h' : wb_H) (val : Value), o < n.1 t → narrow (wb_Yf ci k) val = val → fits (wb_Yf ci k) val = true → wb_ok fz L n.1 h' → (∀ t' o', (t', o') ≠ (t, o) → wb_ent fz adr cA h' t' o' = wb_ent fz adr cA h t' o') →
          (∀ j, j ≠ k → wb_fv fz adr h' ci t o j = wb_fv fz adr h ci t o j) → wb_fv fz adr h' ci t o k = val → wb_G p l e R s mth args below meth c Q fz m rv A D adr0 L0 (pc + 3, ls, st', h', n) →
          W p l e R s mth args below meth c H locs n.2.1 n.2.2 Q (F0 mth pc J (val :: .ref (adr t o) :: st'.map (wb_tv rv adr))) := by
        intro h' val ho hn1 hf1 hok he hj hk1 G'
        obtain ⟨i, hi, hwd⟩ := wb_rep_at hR ht10 ho
        rw [wb_ent_obj hsh] at hwd
        have hen : (Sum.inr (ci, ((List.range (wb_nfd ci)).map (wb_fv fz adr h ci t o)).set k val) : va_E) = wb_ent fz adr cA h' t o := by
          rw [wb_ent_obj hsh, wb_fs_set hj hk1]
        have kk : ∀ (H1 : Heap) (locs1 : List Loc), va_P D wb_cls ((wb_wd fz adr cA h L).set i (adr t o, .inr (ci, ((List.range (wb_nfd ci)).map (wb_fv fz adr h ci t o)).set k val))) H1 → va_D A ((wb_wd fz adr cA h L).set i (adr t o, .inr (ci, ((List.range (wb_nfd ci)).map (wb_fv fz adr h ci t o)).set k val))) → va_S A s.heap H1 locs1 → W p l e R s mth args below meth c H1 locs1 n.2.1 n.2.2 Q (F0 mth (pc + 3) J (st'.map (wb_tv rv adr))) :=
          fun H1 locs1 q1 q2 q3 => G' adr cA L H1 locs1 J (wb_rep_set hR hi hok he hen q1 q2) hxt hl q3
        cases hfv : (T k).2.2.2 with
        | false => exact va_put (D := D) (ci := ci) (C := C) (T := T) (N := N) (ty := wb_Yf ci k) hx hb hts (wb_uws hcl) (wb_Yf ci) hY.1 hY.2 hown hR.2.2.2.1 hR.2.1 hR.2.2.1 hS i hwd hcl k hkN hw hsame hfv (hY.1 k hkN) hn1 hf1 (by rw [List.length_map, List.length_range, ← hN]; exact hkN) hd kk
        | true =>
          obtain ⟨q1, q2⟩ : (wb_y m).name = "<init>" ∧ C = (wb_y m).cls := by
            rcases hfin with q | q
            · rw [hfv] at q; cases q
            · exact q
          exact va_putF (D := D) (ci := ci) (C := C) (T := T) (N := N) (ty := wb_Yf ci k) hx hb hts (wb_uws hcl) (wb_Yf ci) hY.1 hY.2 hown hR.2.2.2.1 hR.2.1 hR.2.2.1 hS i hwd hcl k hkN hw hsame hfv (hin q1) (by rw [(hkk k hkN).2]; exact q2) (hY.1 k hkN) hn1 hf1 (by rw [List.length_map, List.length_range, ← hN]; exact hkN) hd kk
      have hkd := (hkk k hkN).1
      rw [hfk] at hkd
      have hei : ∀ y t' o', (t', o') ≠ (t, o) → wb_ent fz adr cA (wb_iu h t o k y) t' o' = wb_ent fz adr cA h t' o' := fun y t' o' hne => wb_ent_congr (wb_u_ne hne) rfl rfl
      have hel : ∀ y t' o', (t', o') ≠ (t, o) → wb_ent fz adr cA (wb_lu h t o k y) t' o' = wb_ent fz adr cA h t' o' := fun y t' o' hne => wb_ent_congr rfl (wb_u_ne hne) rfl
      have hem : ∀ y t' o', (t', o') ≠ (t, o) → wb_ent fz adr cA (wb_mu h t o k y) t' o' = wb_ent fz adr cA h t' o' := fun y t' o' hne => wb_ent_congr rfl rfl (wb_u_ne hne)
      have hji : ∀ y j, j ≠ k → wb_fv fz adr (wb_iu h t o k y) ci t o j = wb_fv fz adr h ci t o j := fun y j hj => wb_fv_congr (wb_u_nk hj) rfl rfl
      have hjl : ∀ y j, j ≠ k → wb_fv fz adr (wb_lu h t o k y) ci t o j = wb_fv fz adr h ci t o j := fun y j hj => wb_fv_congr rfl (wb_u_nk hj) rfl
      have hjm : ∀ y j, j ≠ k → wb_fv fz adr (wb_mu h t o k y) ci t o j = wb_fv fz adr h ci t o j := fun y j hj => wb_fv_congr rfl rfl (wb_u_nk hj)
      split at hp
      · rename_i y
        obtain ⟨h1, rfl⟩ := wb_pk_if hp
        rw [List.map_cons, List.map_cons, wb_tvr ht10]
        exact key (wb_iu h t o k y) (.int y) (of_decide_eq_true h1) (by rw [wb_kd0 hkd]; rfl) (by rw [wb_kd0 hkd]; rfl) hR.1 (hei y) (hji y) (by simp [wb_fv, hfk, wb_iu, wb_u]) G
      · rename_i y
        obtain ⟨h1, rfl⟩ := wb_pk_if hp
        rw [Bool.and_eq_true] at h1
        rw [List.map_cons, List.map_cons, wb_tvr ht10]
        have hy := wb_nb_or h1.2
        exact key (wb_iu h t o k y) (.int y) (of_decide_eq_true h1.1) (by rw [wb_kd3 hkd]; rcases hy with rfl | rfl <;> rfl) (by rw [wb_kd3 hkd]; rcases hy with rfl | rfl <;> rfl) hR.1 (hei y) (hji y) (by simp [wb_fv, hfk, wb_iu, wb_u]) G
      · rename_i y
        obtain ⟨h1, rfl⟩ := wb_pk_if hp
        rw [List.map_cons, List.map_cons, wb_tvr ht10]
        exact key (wb_lu h t o k y) (.long y) (of_decide_eq_true h1) (by rw [wb_kd1 hkd]; rfl) (by rw [wb_kd1 hkd]; rfl) hR.1 (hel y) (hjl y) (by simp [wb_fv, hfk, wb_lu, wb_u]) G
      · rename_i t' o'
        split at hp
        · rename_i hbt hsi
          have hbt := Nat.eq_of_beq_eq_true hbt
          obtain ⟨h1, rfl⟩ := wb_pk_if hp
          simp only [Bool.and_eq_true, decide_eq_true_eq] at h1
          have hr10 := hrf k (by rw [← hN]; exact hkN) hfk
          rw [hbt] at hr10
          rw [List.map_cons, List.map_cons, wb_tvr ht10, wb_tvr hr10]
          have hfr : ∀ tt, (wb_Yf ci k = .object tt → True) := fun _ _ => trivial
          refine key (wb_mu h t o k (o' + 1)) (.ref (adr t' o')) h1.1 ?_ ?_ ?_ (hem (o' + 1)) (hjm (o' + 1)) ?_ G
          · rcases wb_kd2 hkd with ⟨a, e⟩ | ⟨a, e⟩ <;> rw [e] <;> rfl
          · rcases wb_kd2 hkd with ⟨a, e⟩ | ⟨a, e⟩ <;> rw [e] <;> rfl
          · refine ⟨hR.1.1, hR.1.2.1, fun q t2 o2 k2 hm2 hne => ?_⟩
            by_cases he : t2 = t ∧ o2 = o ∧ k2 = k
            · obtain ⟨rfl, rfl, rfl⟩ := he
              have e1 : (wb_mu h t2 o2 k2 (o' + 1)).2.2 t2 o2 k2 = o' + 1 := by simp [wb_mu, wb_u]
              rw [e1]
              have e2 : wb_tg t2 k2 = t' := by simp [wb_tg, hsh, hbt]
              rw [e2]
              exact (hR.1.2.1 t' o').mpr ⟨hr10, h1.2⟩
            · have e1 : (wb_mu h t o k (o' + 1)).2.2 t2 o2 k2 = h.2.2 t2 o2 k2 := by simp only [wb_mu, wb_u]; rw [if_neg he]
              rw [e1] at hne ⊢
              exact hR.1.2.2 q t2 o2 k2 hm2 hne
          · simp only [wb_fv, hfk, wb_rq]
            rw [hsi]
            simp [wb_mu, wb_u, va_rf, hbt]
        · cases hp
      · cases hp
    · cases hp
  · cases hp
end WBQ
end
section
/-! Arrays, statics, constants, switches. -/
theorem wb_nar_bool {y : Int32} (h : wb_nb y = true) : vp_nar .boolean y = y := by
  rcases wb_nb_or h with rfl | rfl <;> decide
theorem wb_roi_lt {sc : wb_X} {t : Nat} {q : wb_X} (h : wb_roi sc t = some q) : t < 10 := by
  unfold wb_roi at h
  split at h <;> first | omega | cases h
theorem wb_rob_lt {t : Nat} {q : wb_X} (h : wb_rob t = some q) : t < 10 := by
  unfold wb_rob at h
  split at h <;> first | omega | cases h
theorem wb_ofn (n : Nat) : Int32.ofNat n = Int32.ofInt (n : Int) := by
  rw [Int32.ofInt_eq_ofNat] <;> rfl
section WBA
variable {p : Program} {l : Launch} {e : Env} {R : Room} {s : State} {mth : MethodId} {args : Array Value} {below : List Frame} {meth : Method} {c : Code} {Q : State → Prop}
variable {fz : Bool} {sc : wb_X} {m pc : Nat} {rv : Nat → Value} {A : Nat → Prop} {D : va_G} {adr0 : Nat → Nat → Nat} {L0 : List (Nat × Nat)} {x : List Nat} {ls : wb_L} {st : List wb_V} {h : wb_H} {n : wb_N} {c' : wb_C}
variable {adr : Nat → Nat → Nat} {cA : Nat → Nat → ClassId} {L : List (Nat × Nat)} {cn : Nat → Nat} {H : Heap}
theorem wb_tvro {t o a : Nat} (ht : t < 10) (ha : rv t = .ref a) : wb_tv rv adr (.inr (.inr (t, o))) = .ref a := by
  simp only [wb_tv]; rw [if_pos ht]; exact ha
theorem wb_sh10 {t k len : Nat} (h : wb_shp t = (k, len)) (hk : k ≠ 9) : 10 ≤ t := (wb_shp_rng (by rw [h]; exact hk)).1
set_option maxHeartbeats 2000000 in
theorem wb_o_iaload (F : wb_fr p R s mth args meth c m A) (hd : decode (wb_b m) pc = .ok (.iaload, 1)) (hro : wb_RO sc rv A s) (hp : wb_pk (wb_st fz sc m pc .iaload x ls st h n) = some c') (G : wb_G p l e R s mth args below meth c Q fz m rv A D adr0 L0 c') : wb_G p l e R s mth args below meth c Q fz m rv A D adr0 L0 (pc, ls, st, h, n) := by
  obtain ⟨hx, hb, hts, hown, hml, hA, hin, hnf, hnl, hnc, hns⟩ := F
  simp only [wb_st] at hp
  intro adr cA L H locs J hR hxt hl hS
  have hR : wb_rep fz D adr cA L n.1 h A H s := hR
  unfold wb_il at hp
  split at hp
  · rename_i i t o st'
    split at hp
    · rename_i q hq
      obtain ⟨h1, rfl⟩ := wb_pk_if hp
      obtain ⟨a, ha, hT⟩ := hro.2.1 t q hq
      rw [List.map_cons, List.map_cons, wb_tvro (wb_roi_lt hq) ha]
      exact va_ti hx hb hT hS (wb_vin h1) rfl hd (G adr cA L H locs J hR hxt hl hS)
    · split at hp
      · rename_i len hsh
        obtain ⟨h1, rfl⟩ := wb_pk_if hp
        simp only [Bool.and_eq_true, decide_eq_true_eq] at h1
        have ht := wb_sh10 hsh (by decide)
        obtain ⟨j, hj, hwd⟩ := wb_rep_at hR ht h1.1
        rw [wb_ent_int hsh (Or.inl rfl)] at hwd
        have hK := wb_K1 hR ht h1.1 (by rw [hsh]; exact (by decide : (1 : Nat) ≠ 0))
        rw [hsh] at hK
        rw [List.map_cons, List.map_cons, wb_tvr ht]
        exact va_iald hx hb hK hR.2.1 j 0 hwd rfl (wb_vin h1.2) hd (G adr cA L H locs J hR hxt hl hS)
      · cases hp
  · cases hp
set_option maxHeartbeats 2000000 in
theorem wb_o_baload (F : wb_fr p R s mth args meth c m A) (hd : decode (wb_b m) pc = .ok (.baload, 1)) (hro : wb_RO sc rv A s) (hp : wb_pk (wb_st fz sc m pc .baload x ls st h n) = some c') (G : wb_G p l e R s mth args below meth c Q fz m rv A D adr0 L0 c') : wb_G p l e R s mth args below meth c Q fz m rv A D adr0 L0 (pc, ls, st, h, n) := by
  obtain ⟨hx, hb, hts, hown, hml, hA, hin, hnf, hnl, hnc, hns⟩ := F
  simp only [wb_st] at hp
  intro adr cA L H locs J hR hxt hl hS
  have hR : wb_rep fz D adr cA L n.1 h A H s := hR
  unfold wb_bl at hp
  split at hp
  · rename_i i t o st'
    split at hp
    · rename_i q hq
      obtain ⟨h1, rfl⟩ := wb_pk_if hp
      obtain ⟨a, ha, hT⟩ := hro.2.2.1 t q hq
      rw [List.map_cons, List.map_cons, wb_tvro (wb_rob_lt hq) ha]
      exact va_tb hx hb hT hS (wb_vin h1) rfl hd (G adr cA L H locs J hR hxt hl hS)
    · split at hp
      · rename_i len hsh
        obtain ⟨h1, rfl⟩ := wb_pk_if hp
        simp only [Bool.and_eq_true, decide_eq_true_eq] at h1
        have ht := wb_sh10 hsh (by decide)
        obtain ⟨j, hj, hwd⟩ := wb_rep_at hR ht h1.1
        rw [wb_ent_int hsh (Or.inr (Or.inl rfl))] at hwd
        have hK := wb_K1 hR ht h1.1 (by rw [hsh]; exact (by decide : (2 : Nat) ≠ 0))
        rw [hsh] at hK
        rw [List.map_cons, List.map_cons, wb_tvr ht]
        exact va_bald hx hb hK hR.2.1 j 0 hwd rfl (wb_vin h1.2) hd (G adr cA L H locs J hR hxt hl hS)
      · rename_i len hsh
        obtain ⟨h1, rfl⟩ := wb_pk_if hp
        simp only [Bool.and_eq_true, decide_eq_true_eq] at h1
        have ht := wb_sh10 hsh (by decide)
        obtain ⟨j, hj, hwd⟩ := wb_rep_at hR ht h1.1
        rw [wb_ent_int hsh (Or.inr (Or.inr rfl))] at hwd
        have hK := wb_K1 hR ht h1.1 (by rw [hsh]; exact (by decide : (3 : Nat) ≠ 0))
        rw [hsh] at hK
        rw [List.map_cons, List.map_cons, wb_tvr ht]
        exact va_zald hx hb hK hR.2.1 j 0 hwd rfl (wb_vin h1.2) hd (G adr cA L H locs J hR hxt hl hS)
      · cases hp
  · cases hp
set_option maxHeartbeats 2000000 in
theorem wb_o_laload (F : wb_fr p R s mth args meth c m A) (hd : decode (wb_b m) pc = .ok (.laload, 1)) (hp : wb_pk (wb_st fz sc m pc .laload x ls st h n) = some c') (G : wb_G p l e R s mth args below meth c Q fz m rv A D adr0 L0 c') : wb_G p l e R s mth args below meth c Q fz m rv A D adr0 L0 (pc, ls, st, h, n) := by
  obtain ⟨hx, hb, hts, hown, hml, hA, hin, hnf, hnl, hnc, hns⟩ := F
  simp only [wb_st] at hp
  intro adr cA L H locs J hR hxt hl hS
  have hR : wb_rep fz D adr cA L n.1 h A H s := hR
  unfold wb_ll at hp
  split at hp
  · rename_i i t o st'
    split at hp
    · rename_i len hsh
      obtain ⟨h1, rfl⟩ := wb_pk_if hp
      simp only [Bool.and_eq_true, decide_eq_true_eq] at h1
      have ht := wb_sh10 hsh (by decide)
      obtain ⟨j, hj, hwd⟩ := wb_rep_at hR ht h1.1
      rw [wb_ent_long hsh] at hwd
      have hK := wb_K1 hR ht h1.1 (by rw [hsh]; exact (by decide : (4 : Nat) ≠ 0))
      rw [hsh] at hK
      rw [List.map_cons, List.map_cons, wb_tvr ht]
      exact va_lald hx hb hK hR.2.1 j 0 hwd rfl (wb_vin h1.2) hd (G adr cA L H locs J hR hxt hl hS)
    · cases hp
  · cases hp
set_option maxHeartbeats 2000000 in
theorem wb_o_aaload (F : wb_fr p R s mth args meth c m A) (hd : decode (wb_b m) pc = .ok (.aaload, 1)) (hp : wb_pk (wb_st fz sc m pc .aaload x ls st h n) = some c') (G : wb_G p l e R s mth args below meth c Q fz m rv A D adr0 L0 c') : wb_G p l e R s mth args below meth c Q fz m rv A D adr0 L0 (pc, ls, st, h, n) := by
  obtain ⟨hx, hb, hts, hown, hml, hA, hin, hnf, hnl, hnc, hns⟩ := F
  simp only [wb_st] at hp
  intro adr cA L H locs J hR hxt hl hS
  have hR : wb_rep fz D adr cA L n.1 h A H s := hR
  unfold wb_ql at hp
  split at hp
  · rename_i i t o st'
    split at hp
    · rename_i len hsh
      obtain ⟨ht, hr10⟩ := wb_tag_arr hsh
      split at hp
      · rename_i j0 hsa
        obtain ⟨h1, rfl⟩ := wb_pk_if hp
        simp only [Bool.and_eq_true, decide_eq_true_eq] at h1
        obtain ⟨j, hj, hwd⟩ := wb_rep_at hR ht h1.1
        rw [wb_ent_ref hsh] at hwd
        have hK := wb_K1 hR ht h1.1 (by rw [hsh]; exact (by decide : (5 : Nat) ≠ 0))
        rw [hsh] at hK
        have G1 := G adr cA L H locs J hR hxt hl hS
        simp only [List.map_cons, wb_tvr hr10] at G1
        rw [List.map_cons, List.map_cons, wb_tvr ht]
        refine va_aldq hx hb hK hR.2.1 j 0 hwd rfl (wb_vin h1.2) hd ?_
        have e1 : wb_sq fz h t o i.toNatClampNeg = some j0 := by simp only [wb_sq, hsa]
        rw [e1]
        exact G1
      · rename_i hsa
        obtain ⟨h1, rfl⟩ := wb_pk_if hp
        simp only [Bool.and_eq_true, decide_eq_true_eq] at h1
        obtain ⟨j, hj, hwd⟩ := wb_rep_at hR ht h1.1.1
        rw [wb_ent_ref hsh] at hwd
        have hK := wb_K1 hR ht h1.1.1 (by rw [hsh]; exact (by decide : (5 : Nat) ≠ 0))
        rw [hsh] at hK
        have G1 := G adr cA L H locs J hR hxt hl hS
        simp only [List.map_cons, wb_tvr hr10] at G1
        rw [List.map_cons, List.map_cons, wb_tvr ht]
        refine va_aldq hx hb hK hR.2.1 j 0 hwd rfl (wb_vin h1.1.2) hd ?_
        have e1 : wb_sq fz h t o i.toNatClampNeg = some (h.2.2 t o i.toNatClampNeg - 1) := by
          simp only [wb_sq, hsa]; rw [if_neg (by omega)]
        rw [e1]
        exact G1
    · cases hp
  · cases hp
set_option maxHeartbeats 2000000 in
theorem wb_o_iastore (F : wb_fr p R s mth args meth c m A) (hd : decode (wb_b m) pc = .ok (.iastore, 1)) (hp : wb_pk (wb_st fz sc m pc .iastore x ls st h n) = some c') (G : wb_G p l e R s mth args below meth c Q fz m rv A D adr0 L0 c') : wb_G p l e R s mth args below meth c Q fz m rv A D adr0 L0 (pc, ls, st, h, n) := by
  obtain ⟨hx, hb, hts, hown, hml, hA, hin, hnf, hnl, hnc, hns⟩ := F
  simp only [wb_st] at hp
  intro adr cA L H locs J hR hxt hl hS
  have hR : wb_rep fz D adr cA L n.1 h A H s := hR
  unfold wb_is at hp
  split at hp
  · rename_i y i t o st'
    split at hp
    · rename_i len hsh
      obtain ⟨h1, rfl⟩ := wb_pk_if hp
      simp only [Bool.and_eq_true, decide_eq_true_eq] at h1
      have ht := wb_sh10 hsh (by decide)
      obtain ⟨j, hj, hwd⟩ := wb_rep_at hR ht h1.1
      rw [wb_ent_int hsh (Or.inl rfl)] at hwd
      have hK := wb_K1 hR ht h1.1 (by rw [hsh]; exact (by decide : (1 : Nat) ≠ 0))
      rw [hsh] at hK
      rw [List.map_cons, List.map_cons, List.map_cons, wb_tvr ht]
      refine va_iast hx hb hK hR.2.1 hR.2.2.1 hS j 0 hwd rfl (wb_vin h1.2) hd (fun H1 locs1 q1 q2 q3 => ?_)
      refine G adr cA L H1 locs1 J (wb_rep_set (h' := wb_iu h t o i.toNatClampNeg y) hR hj hR.1 (fun t' o' hne => wb_ent_congr (wb_u_ne hne) rfl rfl) ?_ q1 q2) hxt hl q3
      rw [wb_ent_int hsh (Or.inl rfl)]
      simp only [wb_iu, wb_u_self]; rfl
    · cases hp
  · cases hp
set_option maxHeartbeats 2000000 in
theorem wb_o_bastore (F : wb_fr p R s mth args meth c m A) (hd : decode (wb_b m) pc = .ok (.bastore, 1)) (hp : wb_pk (wb_st fz sc m pc .bastore x ls st h n) = some c') (G : wb_G p l e R s mth args below meth c Q fz m rv A D adr0 L0 c') : wb_G p l e R s mth args below meth c Q fz m rv A D adr0 L0 (pc, ls, st, h, n) := by
  obtain ⟨hx, hb, hts, hown, hml, hA, hin, hnf, hnl, hnc, hns⟩ := F
  simp only [wb_st] at hp
  intro adr cA L H locs J hR hxt hl hS
  have hR : wb_rep fz D adr cA L n.1 h A H s := hR
  unfold wb_bs at hp
  split at hp
  · rename_i y i t o st'
    split at hp
    · rename_i len hsh
      obtain ⟨h1, rfl⟩ := wb_pk_if hp
      simp only [Bool.and_eq_true, decide_eq_true_eq] at h1
      have ht := wb_sh10 hsh (by decide)
      obtain ⟨j, hj, hwd⟩ := wb_rep_at hR ht h1.1
      rw [wb_ent_int hsh (Or.inr (Or.inl rfl))] at hwd
      have hK := wb_K1 hR ht h1.1 (by rw [hsh]; exact (by decide : (2 : Nat) ≠ 0))
      rw [hsh] at hK
      rw [List.map_cons, List.map_cons, List.map_cons, wb_tvr ht]
      refine va_bast hx hb hK hR.2.1 hR.2.2.1 hS j 0 hwd rfl (wb_vin h1.2) hd (fun H1 locs1 q1 q2 q3 => ?_)
      refine G adr cA L H1 locs1 J (wb_rep_set (h' := wb_iu h t o i.toNatClampNeg (vp_nar .byte y)) hR hj hR.1 (fun t' o' hne => wb_ent_congr (wb_u_ne hne) rfl rfl) ?_ q1 q2) hxt hl q3
      rw [wb_ent_int hsh (Or.inr (Or.inl rfl))]
      simp only [wb_iu, wb_u_self]; rfl
    · rename_i len hsh
      obtain ⟨h1, rfl⟩ := wb_pk_if hp
      simp only [Bool.and_eq_true, decide_eq_true_eq] at h1
      have ht := wb_sh10 hsh (by decide)
      obtain ⟨j, hj, hwd⟩ := wb_rep_at hR ht h1.1.1
      rw [wb_ent_int hsh (Or.inr (Or.inr rfl))] at hwd
      have hK := wb_K1 hR ht h1.1.1 (by rw [hsh]; exact (by decide : (3 : Nat) ≠ 0))
      rw [hsh] at hK
      rw [List.map_cons, List.map_cons, List.map_cons, wb_tvr ht]
      refine va_zast hx hb hK hR.2.1 hR.2.2.1 hS j 0 hwd rfl (wb_vin h1.1.2) hd (fun H1 locs1 q1 q2 q3 => ?_)
      refine G adr cA L H1 locs1 J (wb_rep_set (h' := wb_iu h t o i.toNatClampNeg y) hR hj hR.1 (fun t' o' hne => wb_ent_congr (wb_u_ne hne) rfl rfl) ?_ q1 q2) hxt hl q3
      rw [wb_ent_int hsh (Or.inr (Or.inr rfl))]
      rw [wb_nar_bool h1.2]
      simp only [wb_iu, wb_u_self]; rfl
    · cases hp
  · cases hp
set_option maxHeartbeats 2000000 in
theorem wb_o_lastore (F : wb_fr p R s mth args meth c m A) (hd : decode (wb_b m) pc = .ok (.lastore, 1)) (hp : wb_pk (wb_st fz sc m pc .lastore x ls st h n) = some c') (G : wb_G p l e R s mth args below meth c Q fz m rv A D adr0 L0 c') : wb_G p l e R s mth args below meth c Q fz m rv A D adr0 L0 (pc, ls, st, h, n) := by
  obtain ⟨hx, hb, hts, hown, hml, hA, hin, hnf, hnl, hnc, hns⟩ := F
  simp only [wb_st] at hp
  intro adr cA L H locs J hR hxt hl hS
  have hR : wb_rep fz D adr cA L n.1 h A H s := hR
  unfold wb_ls at hp
  split at hp
  · rename_i y i t o st'
    split at hp
    · rename_i len hsh
      obtain ⟨h1, rfl⟩ := wb_pk_if hp
      simp only [Bool.and_eq_true, decide_eq_true_eq] at h1
      have ht := wb_sh10 hsh (by decide)
      obtain ⟨j, hj, hwd⟩ := wb_rep_at hR ht h1.1
      rw [wb_ent_long hsh] at hwd
      have hK := wb_K1 hR ht h1.1 (by rw [hsh]; exact (by decide : (4 : Nat) ≠ 0))
      rw [hsh] at hK
      rw [List.map_cons, List.map_cons, List.map_cons, wb_tvr ht]
      refine va_last hx hb hK hR.2.1 hR.2.2.1 hS j 0 hwd rfl (wb_vin h1.2) hd (fun H1 locs1 q1 q2 q3 => ?_)
      refine G adr cA L H1 locs1 J (wb_rep_set (h' := wb_lu h t o i.toNatClampNeg y) hR hj hR.1 (fun t' o' hne => wb_ent_congr rfl (wb_u_ne hne) rfl) ?_ q1 q2) hxt hl q3
      rw [wb_ent_long hsh]
      simp only [wb_lu, wb_u_self]; rfl
    · cases hp
  · cases hp
set_option maxHeartbeats 2000000 in
theorem wb_o_arraylength (F : wb_fr p R s mth args meth c m A) (hd : decode (wb_b m) pc = .ok (.arraylength, 1)) (hro : wb_RO sc rv A s) (hp : wb_pk (wb_st fz sc m pc .arraylength x ls st h n) = some c') (G : wb_G p l e R s mth args below meth c Q fz m rv A D adr0 L0 c') : wb_G p l e R s mth args below meth c Q fz m rv A D adr0 L0 (pc, ls, st, h, n) := by
  obtain ⟨hx, hb, hts, hown, hml, hA, hin, hnf, hnl, hnc, hns⟩ := F
  simp only [wb_st] at hp
  intro adr cA L H locs J hR hxt hl hS
  have hR : wb_rep fz D adr cA L n.1 h A H s := hR
  unfold wb_al at hp
  split at hp
  · rename_i t o st'
    split at hp
    · rename_i q hq
      cases hp
      obtain ⟨a, ha, hT⟩ := hro.2.1 t q hq
      rw [List.map_cons, wb_tvro (wb_roi_lt hq) ha]
      exact va_tlen hx hb hT hS (wb_ofn _) hd (G adr cA L H locs J hR hxt hl hS)
    · split at hp
      · rename_i q hq
        cases hp
        obtain ⟨a, ha, hT⟩ := hro.2.2.1 t q hq
        rw [List.map_cons, wb_tvro (wb_rob_lt hq) ha]
        exact va_tlen hx hb hT hS (wb_ofn _) hd (G adr cA L H locs J hR hxt hl hS)
      · split at hp
        · rename_i k len hsh
          split at hp
          · rename_i hk4
            obtain ⟨h1, rfl⟩ := wb_pk_if hp
            have h1 := of_decide_eq_true h1
            have hk4 := Nat.le_of_ble_eq_true hk4
            have ht := wb_sh10 hsh (by omega)
            obtain ⟨j, hj, hwd⟩ := wb_rep_at hR ht h1
            have hK := wb_K1 hR ht h1 (by rw [hsh]; exact Nat.succ_ne_zero k)
            rw [List.map_cons, wb_tvr ht]
            rcases (show k = 0 ∨ k = 1 ∨ k = 2 ∨ k = 3 ∨ k = 4 by omega) with rfl | rfl | rfl | rfl | rfl
            · rw [wb_ent_int hsh (Or.inl rfl)] at hwd
              exact va_alen hx hb hK hR.2.1 j 0 hwd rfl (wb_ofn _) hd (G adr cA L H locs J hR hxt hl hS)
            · rw [wb_ent_int hsh (Or.inr (Or.inl rfl))] at hwd
              exact va_alen hx hb hK hR.2.1 j 0 hwd rfl (wb_ofn _) hd (G adr cA L H locs J hR hxt hl hS)
            · rw [wb_ent_int hsh (Or.inr (Or.inr rfl))] at hwd
              exact va_alen hx hb hK hR.2.1 j 0 hwd rfl (wb_ofn _) hd (G adr cA L H locs J hR hxt hl hS)
            · rw [wb_ent_long hsh] at hwd
              exact va_alen hx hb hK hR.2.1 j 0 hwd rfl (wb_ofn _) hd (G adr cA L H locs J hR hxt hl hS)
            · rw [wb_ent_ref hsh] at hwd
              exact va_alen hx hb hK hR.2.1 j 0 hwd rfl (wb_ofn _) hd (G adr cA L H locs J hR hxt hl hS)
          · cases hp
        · cases hp
  · cases hp
def wb_cks (m idx : Nat) (x : List Nat) : Bool := match x with
  | [0, 2, pos, 0] => wb_at pos (.fieldLink (wb_y m).cls idx "WhichBin" "THREES" "[I")
  | [0, 2, pos, 1] => wb_atn pos (.fieldLinkNest (wb_y m).cls idx "WhichBin" "THREES" "[I" "WhichBin")
  | [0, 3, pos, 0] => wb_at pos (.fieldLink (wb_y m).cls idx "WhichBin" "TENS" "[I")
  | [0, 3, pos, 1] => wb_atn pos (.fieldLinkNest (wb_y m).cls idx "WhichBin" "TENS" "[I" "WhichBin")
  | [0, 4, pos, 0] => wb_at pos (.fieldLink (wb_y m).cls idx "WhichBin$Evening" "ROWS_FROM" "[I")
  | [0, 9, pos, 0] => wb_at pos (.fieldLink (wb_y m).cls idx "jdk/internal/util/Preconditions" "SIOOBE_FORMATTER" "Ljava/util/function/BiFunction;")
  | [1, 1, pos, 0] => wb_at pos (.fieldLink (wb_y m).cls idx "java/lang/String" "COMPACT_STRINGS" "Z")
  | _ => false
set_option maxHeartbeats 2000000 in
theorem wb_o_getstatic {idx : Nat} (F : wb_fr p R s mth args meth c m A) (hd : decode (wb_b m) pc = .ok (.getstatic idx, 3)) (hck : wb_cks m idx x = true) (hro : wb_RO sc rv A s) (hp : wb_pk (wb_st fz sc m pc (.getstatic idx) x ls st h n) = some c') (G : wb_G p l e R s mth args below meth c Q fz m rv A D adr0 L0 c') : wb_G p l e R s mth args below meth c Q fz m rv A D adr0 L0 (pc, ls, st, h, n) := by
  obtain ⟨hx, hb, hts, hown, hml, hA, hin, hnf, hnl, hnc, hns⟩ := F
  simp only [wb_st] at hp
  intro adr cA L H locs J hR hxt hl hS
  have hR : wb_rep fz D adr cA L n.1 h A H s := hR
  have hro2 := hro
  obtain ⟨h0, -, -, -, -, -, z2, z3, z4, z5, z9, -⟩ := hro2
  have ro : ∀ t o, t < 10 → wb_tv rv adr (.inr (.inr (t, o))) = rv t := fun t o ht => by simp only [wb_tv]; rw [if_pos ht]
  unfold wb_cks at hck
  split at hck
  · cases hp
    have G1 := G adr cA L H locs J hR hxt hl hS
    simp only [List.map_cons, ro 2 0 (by decide)] at G1
    exact va_gets hx hb z2 hS hown (hts _ (wb_at_in hck)) (fun _ z => z) hd G1
  · cases hp
    have G1 := G adr cA L H locs J hR hxt hl hS
    simp only [List.map_cons, ro 2 0 (by decide)] at G1
    exact va_getsN hx hb z2 hS hown (va_Nw.use rfl (wb_atn_in hck hro)) (fun _ z => z) hd G1
  · cases hp
    have G1 := G adr cA L H locs J hR hxt hl hS
    simp only [List.map_cons, ro 3 0 (by decide)] at G1
    exact va_gets hx hb z3 hS hown (hts _ (wb_at_in hck)) (fun _ z => z) hd G1
  · cases hp
    have G1 := G adr cA L H locs J hR hxt hl hS
    simp only [List.map_cons, ro 3 0 (by decide)] at G1
    exact va_getsN hx hb z3 hS hown (va_Nw.use rfl (wb_atn_in hck hro)) (fun _ z => z) hd G1
  · cases hp
    have G1 := G adr cA L H locs J hR hxt hl hS
    simp only [List.map_cons, ro 4 0 (by decide)] at G1
    exact va_gets hx hb z4 hS hown (hts _ (wb_at_in hck)) (fun _ z => z) hd G1
  · cases hp
    have G1 := G adr cA L H locs J hR hxt hl hS
    simp only [List.map_cons, ro 9 0 (by decide)] at G1
    exact va_gets hx hb z9 hS hown (hts _ (wb_at_in hck)) (fun _ z => z) hd G1
  · cases hp
    have G1 := G adr cA L H locs J hR hxt hl hS
    exact va_gets hx hb z5 hS hown (hts _ (wb_at_in hck)) (fun _ z => z) hd G1
  · cases hck
def wb_ckl (m idx : Nat) (x : List Nat) : Bool := match x with
  | [0, v, pos] => wb_at pos (.constant (wb_y m).cls idx (Int32.ofInt (v : Int)))
  | [1, 5, _] => decide ((wb_y m).cls = "WhichBin$Tokens") && decide (idx = 23)
  | [1, 6, _] => decide ((wb_y m).cls = "WhichBin$Tokens") && decide (idx = 75)
  | _ => false
theorem wb_o_ldc {idx : Nat} (F : wb_fr p R s mth args meth c m A) (hd : decode (wb_b m) pc = .ok (.ldc idx, 2)) (hck : wb_ckl m idx x = true) (hro : wb_RO sc rv A s) (hp : wb_pk (wb_st fz sc m pc (.ldc idx) x ls st h n) = some c') (G : wb_G p l e R s mth args below meth c Q fz m rv A D adr0 L0 c') : wb_G p l e R s mth args below meth c Q fz m rv A D adr0 L0 (pc, ls, st, h, n) := by
  obtain ⟨hx, hb, hts, hown, hml, hA, hin, hnf, hnl, hnc, hns⟩ := F
  simp only [wb_st] at hp
  intro adr cA L H locs J hR hxt hl hS
  have hR : wb_rep fz D adr cA L n.1 h A H s := hR
  unfold wb_ckl at hck
  split at hck
  · cases hp
    exact lv_ldc hx hb hown (hts _ (wb_at_in hck)) hd (G adr cA L H locs J hR hxt hl hS)
  · cases hp
    simp only [Bool.and_eq_true, decide_eq_true_eq] at hck
    obtain ⟨q1, rfl⟩ := hck
    obtain ⟨a, ha, -⟩ := hro.2.2.2.1 5 (Or.inl rfl)
    have G1 := G adr cA L H locs J hR hxt hl hS
    simp only [List.map_cons, wb_tvro (rv := rv) (adr := adr) (o := 0) (by decide : 5 < 10) ha] at G1
    rw [q1] at hown
    exact va_ldcS hx hb hown (hro.2.2.2.2.1 a ha) hd G1
  · cases hp
    simp only [Bool.and_eq_true, decide_eq_true_eq] at hck
    obtain ⟨q1, rfl⟩ := hck
    obtain ⟨a, ha, -⟩ := hro.2.2.2.1 6 (Or.inr rfl)
    have G1 := G adr cA L H locs J hR hxt hl hS
    simp only [List.map_cons, wb_tvro (rv := rv) (adr := adr) (o := 0) (by decide : 6 < 10) ha] at G1
    rw [q1] at hown
    exact va_ldcS hx hb hown (hro.2.2.2.2.2.1 a ha) hd G1
  · cases hck
theorem wb_o_ldcw {idx : Nat} (F : wb_fr p R s mth args meth c m A) (hd : decode (wb_b m) pc = .ok (.ldc_w idx, 3)) (hck : wb_ckl m idx x = true) (hp : wb_pk (wb_st fz sc m pc (.ldc_w idx) x ls st h n) = some c') (G : wb_G p l e R s mth args below meth c Q fz m rv A D adr0 L0 c') : wb_G p l e R s mth args below meth c Q fz m rv A D adr0 L0 (pc, ls, st, h, n) := by
  obtain ⟨hx, hb, hts, hown, hml, hA, hin, hnf, hnl, hnc, hns⟩ := F
  simp only [wb_st] at hp
  intro adr cA L H locs J hR hxt hl hS
  have hR : wb_rep fz D adr cA L n.1 h A H s := hR
  unfold wb_ckl at hck
  split at hck
  · cases hp
    exact lv_ldcw hx hb hown (hts _ (wb_at_in hck)) hd (G adr cA L H locs J hR hxt hl hS)
  · cases hp
  · cases hp
  · cases hck
def wb_ck2 (m idx : Nat) (x : List Nat) : Bool := match x with
  | [v, pos] => wb_at pos (.constantLong (wb_y m).cls idx (Int64.ofNat v))
  | _ => false
theorem wb_o_ldc2 {idx : Nat} (F : wb_fr p R s mth args meth c m A) (hd : decode (wb_b m) pc = .ok (.ldc2_w idx, 3)) (hck : wb_ck2 m idx x = true) (hp : wb_pk (wb_st fz sc m pc (.ldc2_w idx) x ls st h n) = some c') (G : wb_G p l e R s mth args below meth c Q fz m rv A D adr0 L0 c') : wb_G p l e R s mth args below meth c Q fz m rv A D adr0 L0 (pc, ls, st, h, n) := by
  obtain ⟨hx, hb, hts, hown, hml, hA, hin, hnf, hnl, hnc, hns⟩ := F
  simp only [wb_st] at hp
  intro adr cA L H locs J hR hxt hl hS
  have hR : wb_rep fz D adr cA L n.1 h A H s := hR
  unfold wb_ck2 at hck
  split at hck
  · cases hp
    exact lv_ldc2 hx hb hown (hts _ (wb_at_in hck)) hd (G adr cA L H locs J hR hxt hl hS)
  · cases hck
theorem wb_sw_pick {v : Int32} {ls : wb_L} {st : List wb_V} {h : wb_H} {n : wb_N} {d : Nat} : ∀ (ts : List Nat) (z : Int), wb_pick (wb_sw v ls st h n z ts) (some (d, ls, st, h, n)) = some c' →
    (∃ (j : Nat) (t : Nat), ts[j]? = some t ∧ v = Int32.ofInt (z + j) ∧ c' = (t, ls, st, h, n)) ∨ ((∀ j : Nat, j < ts.length → v ≠ Int32.ofInt (z + j)) ∧ c' = (d, ls, st, h, n))
  | [], z, q => Or.inr ⟨fun j hj => by simp at hj, by simp [wb_sw, wb_pick] at q; exact q.symm⟩
  | t :: ts, z, q => by
    simp only [wb_sw, wb_pick] at q
    by_cases hv : v = Int32.ofInt z
    · rw [decide_eq_true hv] at q
      simp only [cond_true, Option.some.injEq] at q
      exact Or.inl ⟨0, t, rfl, by simpa using hv, q.symm⟩
    · rw [decide_eq_false hv] at q
      simp only [cond_false] at q
      rcases wb_sw_pick ts (z + 1) q with ⟨j, t', h1, h2, h3⟩ | ⟨h1, h2⟩
      · exact Or.inl ⟨j + 1, t', by simpa using h1, by rw [h2]; congr 1; push_cast; omega, h3⟩
      · refine Or.inr ⟨fun j hj => ?_, h2⟩
        cases j with
        | zero => simpa using hv
        | succ j =>
          have := h1 j (by simpa using hj)
          rw [show z + ((j + 1 : Nat) : Int) = z + 1 + (j : Int) by push_cast; omega]
          exact this
def wb_ckw (pc : Nat) (d lo hi : Int) (offs : Array Int) (x : List Nat) : Bool := match x with
  | _ :: dt :: ts => decide ((pc : Int) + d = (dt : Int)) && decide (offs.toList.map (fun o => (pc : Int) + o) = ts.map (fun t => ((t : Nat) : Int))) && decide (hi = lo + offs.size - 1) && decide (-1000 ≤ lo) && decide (hi ≤ 1000) && decide (0 < offs.size)
  | _ => false
set_option maxHeartbeats 2000000 in
theorem wb_o_tableswitch {d lo hi : Int} {offs : Array Int} {len : Nat} (F : wb_fr p R s mth args meth c m A) (hd : decode (wb_b m) pc = .ok (.tableswitch d lo hi offs, len)) (hck : wb_ckw pc d lo hi offs x = true) (hp : wb_pk (wb_st fz sc m pc (.tableswitch d lo hi offs) x ls st h n) = some c') (G : wb_G p l e R s mth args below meth c Q fz m rv A D adr0 L0 c') : wb_G p l e R s mth args below meth c Q fz m rv A D adr0 L0 (pc, ls, st, h, n) := by
  obtain ⟨hx, hb, hts, hown, hml, hA, hin, hnf, hnl, hnc, hns⟩ := F
  simp only [wb_st] at hp
  intro adr cA L H locs J hR hxt hl hS
  have hR : wb_rep fz D adr cA L n.1 h A H s := hR
  split at hp
  · rename_i y dt ts v st'
    simp only [wb_ckw, Bool.and_eq_true, decide_eq_true_eq] at hck
    obtain ⟨⟨⟨⟨⟨hdt, hoffs⟩, hhi⟩, hlo1⟩, hhi1⟩, hsz⟩ := hck
    have hlen : offs.size = ts.length := by
      have := congrArg List.length hoffs
      simpa using this
    have hint : ∀ z : Int, -1000 ≤ z → z ≤ 1000 → (Int32.ofInt z).toInt = z := by
      intro z h1 h2
      rw [Int32.toInt_ofInt, show Int32.size = 4294967296 from rfl]
      exact Int.bmod_eq_of_le (by omega) (by omega)
    rcases wb_sw_pick ts lo hp with ⟨j, t, h1, h2, rfl⟩ | ⟨h1, rfl⟩
    · have hj : j < ts.length := (List.getElem?_eq_some_iff.mp h1).1
      have hv : v.toInt = lo + (j : Int) := by rw [h2]; exact hint _ (by omega) (by omega)
      have ho : ∃ o, offs[j]? = some o ∧ (pc : Int) + o = (t : Int) := by
        have h3 : (offs.toList.map (fun o => (pc : Int) + o))[j]? = (ts.map (fun t => ((t : Nat) : Int)))[j]? := by rw [hoffs]
        rw [List.getElem?_map, List.getElem?_map, h1, Array.getElem?_toList] at h3
        cases hq : offs[j]? with
        | none => rw [hq] at h3; cases h3
        | some o => rw [hq] at h3; exact ⟨o, rfl, by simpa using h3⟩
      obtain ⟨o, ho1, ho2⟩ := ho
      exact lv_tableIn hx hb hd (by omega) (by omega) (by rw [hv, show (lo + (j : Int) - lo).toNat = j by omega]; exact ho1) ho2 (G adr cA L H locs J hR hxt hl hS)
    · refine lv_tableOut hx hb hd ?_ hdt (G adr cA L H locs J hR hxt hl hS)
      by_cases q : v.toInt < lo
      · exact Or.inl q
      · by_cases q2 : hi < v.toInt
        · exact Or.inr q2
        · exfalso
          have h3 := h1 (v.toInt - lo).toNat (by omega)
          apply h3
          rw [show lo + (((v.toInt - lo).toNat : Nat) : Int) = v.toInt by omega, Int32.ofInt_toInt]
  · cases hp
theorem wb_lw_pick {v : Int32} {ls : wb_L} {st : List wb_V} {h : wb_H} {n : wb_N} {d : Nat} {dd : Int} {pc : Nat} (hdd : (pc : Int) + dd = (d : Int)) : ∀ (ps : List (Int × Int)) (ts : List Nat), ps.map (fun o => (pc : Int) + o.2) = ts.map (fun t => ((t : Nat) : Int)) → (∀ q ∈ ps, -1000 ≤ q.1 ∧ q.1 ≤ 1000) → wb_pick (wb_lw v ls st h n ps ts) (some (d, ls, st, h, n)) = some c' →
    ∃ tgt : Nat, c' = (tgt, ls, st, h, n) ∧ (pc : Int) + Op.lookupswitch.offset ps dd v.toInt = (tgt : Int)
  | [], [], _, _, q => ⟨d, by simp [wb_lw, wb_pick] at q; exact q.symm, by simpa [Op.lookupswitch.offset] using hdd⟩
  | [], t :: ts, he, _, _ => by simp at he
  | z :: zs, [], he, _, _ => by simp at he
  | z :: zs, t :: ts, he, hz, q => by
    simp only [List.map_cons, List.cons.injEq] at he
    simp only [wb_lw, wb_pick] at q
    have hz0 := hz z List.mem_cons_self
    have hint : (Int32.ofInt z.1).toInt = z.1 := by
      rw [Int32.toInt_ofInt, show Int32.size = 4294967296 from rfl]
      exact Int.bmod_eq_of_le (by omega) (by omega)
    obtain ⟨za, zb⟩ := z
    by_cases hv : v = Int32.ofInt za
    · rw [decide_eq_true hv] at q
      simp only [cond_true, Option.some.injEq] at q
      refine ⟨t, q.symm, ?_⟩
      have : Op.lookupswitch.offset ((za, zb) :: zs) dd v.toInt = zb := by
        rw [hv, hint]; simp [Op.lookupswitch.offset]
      rw [this]; exact he.1
    · rw [decide_eq_false hv] at q
      simp only [cond_false] at q
      obtain ⟨tgt, h1, h2⟩ := wb_lw_pick hdd zs ts he.2 (fun y hy => hz y (List.mem_cons_of_mem _ hy)) q
      exact ⟨tgt, h1, by rw [lv_osw hv hint]; exact h2⟩
def wb_ckk (pc : Nat) (d : Int) (ps : Array (Int × Int)) (x : List Nat) : Bool := match x with
  | _ :: dt :: ts => decide ((pc : Int) + d = (dt : Int)) && decide (ps.toList.map (fun o => (pc : Int) + o.2) = ts.map (fun t => ((t : Nat) : Int))) && ps.toList.all (fun q => decide (-1000 ≤ q.1) && decide (q.1 ≤ 1000)) && (ps.toList.zip (ps.toList.drop 1)).all (fun (a, next) => a.1 < next.1)
  | _ => false
theorem wb_o_lookupswitch {d : Int} {ps : Array (Int × Int)} {len : Nat} (F : wb_fr p R s mth args meth c m A) (hd : decode (wb_b m) pc = .ok (.lookupswitch d ps, len)) (hck : wb_ckk pc d ps x = true) (hp : wb_pk (wb_st fz sc m pc (.lookupswitch d ps) x ls st h n) = some c') (G : wb_G p l e R s mth args below meth c Q fz m rv A D adr0 L0 c') : wb_G p l e R s mth args below meth c Q fz m rv A D adr0 L0 (pc, ls, st, h, n) := by
  obtain ⟨hx, hb, hts, hown, hml, hA, hin, hnf, hnl, hnc, hns⟩ := F
  simp only [wb_st] at hp
  intro adr cA L H locs J hR hxt hl hS
  have hR : wb_rep fz D adr cA L n.1 h A H s := hR
  split at hp
  · rename_i y dt ts v st'
    simp only [wb_ckk, Bool.and_eq_true, decide_eq_true_eq] at hck
    obtain ⟨⟨⟨hdt, hoffs⟩, hrng⟩, hsort⟩ := hck
    obtain ⟨tgt, rfl, h2⟩ := wb_lw_pick hdt ps.toList ts hoffs (fun q hq => by
      have := List.all_eq_true.mp hrng q hq
      simpa using this) hp
    exact lv_lookup hx hb hd hsort rfl h2 (G adr cA L H locs J hR hxt hl hS)
  · cases hp
end WBA
end
section
/-! What is made: objects, arrays; stores of references; Object's constructor; System.arraycopy. -/
def wb_ad (adr : Nat → Nat → Nat) (t o q : Nat) : Nat → Nat → Nat := fun t' o' => if t' = t ∧ o' = o then q else adr t' o'
def wb_dv : Nat → Value
  | 1 => .long 0
  | 2 => .null
  | _ => .int 0
theorem wb_std_all : ∀ t, t < wb_NT → (wb_shp t).1 = 5 → wb_shp (wb_rf t 0).1 = (0, 7) := by decide +kernel
section WBN
variable {p : Program} {l : Launch} {e : Env} {R : Room} {s : State} {mth : MethodId} {args : Array Value} {below : List Frame} {meth : Method} {c : Code} {Q : State → Prop}
variable {fz : Bool} {sc : wb_X} {m pc : Nat} {rv : Nat → Value} {A : Nat → Prop} {D : va_G} {adr0 : Nat → Nat → Nat} {L0 : List (Nat × Nat)} {x : List Nat} {ls : wb_L} {st : List wb_V} {h : wb_H} {n : wb_N} {c' : wb_C}
variable {adr : Nat → Nat → Nat} {cA : Nat → Nat → ClassId} {L : List (Nat × Nat)} {cn : Nat → Nat} {H : Heap}
theorem wb_ad_ne {t o q t' o' : Nat} (h : ¬ (t' = t ∧ o' = o)) : wb_ad adr t o q t' o' = adr t' o' := by
  simp only [wb_ad]; rw [if_neg h]
theorem wb_ad_self {t o q : Nat} : wb_ad adr t o q t o = q := by simp [wb_ad]
theorem wb_vok_ad {t q : Nat} {v : wb_V} (hv : wb_vok cn v = true) : wb_tv rv (wb_ad adr t (cn t) q) v = wb_tv rv adr v := by
  match v, hv with
  | .inl x, _ => rfl
  | .inr (.inl x), _ => rfl
  | .inr (.inr (t', o')), hv =>
    simp only [wb_tv]
    by_cases h10 : t' < 10
    · rw [if_pos h10, if_pos h10]
    · rw [if_neg h10, if_neg h10, wb_ad_ne]
      rintro ⟨rfl, rfl⟩
      simp only [wb_vok, Bool.or_eq_true, decide_eq_true_eq] at hv
      omega
theorem wb_aok_ad {t q : Nat} : ∀ {st : List wb_V}, wb_aok cn st = true → st.map (wb_tv rv (wb_ad adr t (cn t) q)) = st.map (wb_tv rv adr)
  | [], _ => rfl
  | v :: st, h => by
    simp only [wb_aok, Bool.and_eq_true] at h
    rw [List.map_cons, List.map_cons, wb_vok_ad h.1, wb_aok_ad h.2]
theorem wb_lok_g : ∀ {ls : wb_L} {k : Nat} {v : wb_V}, wb_lok cn ls = true → wb_g ls k = some v → wb_vok cn v = true
  | [], k, v, _, h => by simp [wb_g] at h
  | none :: l, 0, v, _, h => by simp [wb_g] at h
  | some w :: l, 0, v, hk, h => by
    simp only [wb_lok, Bool.and_eq_true] at hk
    simp [wb_g] at h
    rw [← h]; exact hk.1
  | none :: l, k + 1, v, hk, h => wb_lok_g (ls := l) (by simpa [wb_lok] using hk) (by simpa [wb_g] using h)
  | some w :: l, k + 1, v, hk, h => by
    simp only [wb_lok, Bool.and_eq_true] at hk
    exact wb_lok_g (ls := l) hk.2 (by simpa [wb_g] using h)
theorem wb_lc_ad {t q nL : Nat} {J : Array Slot} (hl : wb_lc (wb_tv rv adr) ls J nL) (hk : wb_lok cn ls = true) : wb_lc (wb_tv rv (wb_ad adr t (cn t) q)) ls J nL :=
  ⟨hl.1, hl.2.1, fun k v hv => by rw [wb_vok_ad (wb_lok_g hk hv)]; exact hl.2.2 k v hv⟩
/-- the world with one more -/
theorem wb_rep_new (hR : wb_rep false D adr cA L cn h A H s) {t q : Nat} {cq : ClassId} (ht : 10 ≤ t) {H1 : Heap} {en : va_E} (hen : en = wb_ent false adr (wb_ad cA t (cn t) cq) (wb_nw h t (cn t)) t (cn t))
    (hP : va_P D wb_cls (wb_wd false adr cA h L ++ [(q, en)]) H1) (hD : va_D A (wb_wd false adr cA h L ++ [(q, en)])) (hKA : (wb_shp t).1 ≠ 0 → ArrOfT s cq (wb_ty (wb_shp t).1) ∧ va_RA s cq (wb_ty (wb_shp t).1)) :
    wb_rep false D (wb_ad adr t (cn t) q) (wb_ad cA t (cn t) cq) (L ++ [(t, cn t)]) (wb_cu cn t) (wb_nw h t (cn t)) A H1 s ∧ ∀ y ∈ L, ¬ (y.1 = t ∧ y.2 = cn t) := by
  obtain ⟨⟨hn, hm, hv⟩, -, -, hK, hA⟩ := hR
  have hnew : ∀ y ∈ L, ¬ (y.1 = t ∧ y.2 = cn t) := by
    rintro ⟨t', o'⟩ hy ⟨e1, e2⟩
    have := (hm t' o').mp hy
    simp only at e1 e2
    subst e1
    omega
  have hM : ∀ t' o' k, (t', o') ∈ L → (wb_nw h t (cn t)).2.2 t' o' k = h.2.2 t' o' k := fun t' o' k hy => by
    simp only [wb_nw, wb_z]; rw [if_neg (hnew _ hy)]
  have hI : ∀ t' o', (t', o') ∈ L → (wb_nw h t (cn t)).1 t' o' = h.1 t' o' := fun t' o' hy => by
    funext k; simp only [wb_nw, wb_z]; rw [if_neg (hnew _ hy)]
  have hLn : ∀ t' o', (t', o') ∈ L → (wb_nw h t (cn t)).2.1 t' o' = h.2.1 t' o' := fun t' o' hy => by
    funext k; simp only [wb_nw, wb_z]; rw [if_neg (hnew _ hy)]
  have hold : ∀ y ∈ L, (wb_ad adr t (cn t) q y.1 y.2, wb_ent false (wb_ad adr t (cn t) q) (wb_ad cA t (cn t) cq) (wb_nw h t (cn t)) y.1 y.2) = (adr y.1 y.2, wb_ent false adr cA h y.1 y.2) := by
    rintro ⟨t', o'⟩ hy
    have h1 := hnew _ hy
    simp only at h1 ⊢
    rw [wb_ad_ne h1]
    congr 1
    have hc : wb_ad cA t (cn t) cq t' o' = cA t' o' := wb_ad_ne h1
    have hrq : ∀ k, (wb_shp t').1 = 0 → (wb_rq false (wb_nw h t (cn t)) t' o' k).map (wb_ad adr t (cn t) q (wb_rf t' k).1) = (wb_rq false h t' o' k).map (adr (wb_rf t' k).1) := by
      intro k h0
      simp only [wb_rq, wb_si, hM t' o' k hy]
      by_cases hz : h.2.2 t' o' k = 0
      · rw [if_pos hz]; rfl
      · rw [if_neg hz]
        have h2 := hv rfl t' o' k hy hz
        have h3 : wb_tg t' k = (wb_rf t' k).1 := by simp only [wb_tg]; rw [if_neg (by rw [h0]; decide)]
        rw [h3] at h2
        simp only [Option.map_some]
        rw [wb_ad_ne (hnew _ h2)]
    have hsq : ∀ k, (wb_shp t').1 = 5 → (wb_sq false (wb_nw h t (cn t)) t' o' k).map (wb_ad adr t (cn t) q (wb_rf t' 0).1) = (wb_sq false h t' o' k).map (adr (wb_rf t' 0).1) := by
      intro k h0
      simp only [wb_sq, wb_sa, hM t' o' k hy]
      by_cases hz : h.2.2 t' o' k = 0
      · rw [if_pos hz]; rfl
      · rw [if_neg hz]
        have h2 := hv rfl t' o' k hy hz
        have h3 : wb_tg t' k = (wb_rf t' 0).1 := by simp only [wb_tg]; rw [if_pos h0]
        rw [h3] at h2
        simp only [Option.map_some]
        rw [wb_ad_ne (hnew _ h2)]
    unfold wb_ent
    split
    · rename_i ci hsh
      congr 2
      refine List.map_congr_left fun k _ => ?_
      simp only [wb_fv, hI t' o' hy, hLn t' o' hy, hrq k (by rw [hsh])]
    · rw [hc, hLn t' o' hy]
    · rename_i len hsh
      rw [hc]
      simp only [hsq _ (by rw [hsh] : (wb_shp t').1 = 5)]
    · rw [hc, hI t' o' hy]
  have hwd : wb_wd false (wb_ad adr t (cn t) q) (wb_ad cA t (cn t) cq) (wb_nw h t (cn t)) (L ++ [(t, cn t)]) = wb_wd false adr cA h L ++ [(q, en)] := by
    rw [wb_wd, List.map_append, List.map_cons, List.map_nil, wb_wd]
    congr 1
    · exact List.map_congr_left hold
    · simp only [wb_ad_self, hen]
      congr 2
      have hz : ∀ k, (wb_nw h t (cn t)).2.2 t (cn t) k = 0 := fun k => by simp [wb_nw, wb_z]
      unfold wb_ent
      split
      · congr 2
        refine List.map_congr_left fun k _ => ?_
        simp only [wb_fv, wb_rq, wb_si, hz]
        rfl
      · rfl
      · simp only [wb_sq, wb_sa, hz]
        rfl
      · rfl
  refine ⟨⟨⟨?_, ?_, ?_⟩, by rw [hwd]; exact hP, by rw [hwd]; exact hD, hK, ?_⟩, hnew⟩
  · exact List.nodup_append.mpr ⟨hn, by simp, fun a ha b hb e => by
      rw [List.mem_singleton] at hb
      subst hb; subst e
      exact hnew _ ha ⟨rfl, rfl⟩⟩
  · intro t' o'
    rw [List.mem_append, List.mem_singleton, hm]
    simp only [wb_cu]
    constructor
    · rintro (⟨a, b⟩ | e)
      · refine ⟨a, ?_⟩
        split <;> first | (rename_i e; subst e; omega) | exact b
      · cases e; exact ⟨ht, by rw [if_pos rfl]; omega⟩
    · rintro ⟨a, b⟩
      by_cases e : t' = t
      · subst e
        rw [if_pos rfl] at b
        by_cases e2 : o' = cn t'
        · exact Or.inr (by rw [e2])
        · exact Or.inl ⟨a, by omega⟩
      · rw [if_neg e] at b
        exact Or.inl ⟨a, b⟩
  · intro _ t' o' k hy hne
    rcases List.mem_append.mp hy with hy | hy
    · rw [hM t' o' k hy] at hne ⊢
      exact List.mem_append_left _ (hv rfl t' o' k hy hne)
    · rw [List.mem_singleton] at hy
      cases hy
      exact absurd (by simp [wb_nw, wb_z]) hne
  · intro t' o' hy hk
    rcases List.mem_append.mp hy with hy | hy
    · rw [wb_ad_ne (hnew _ hy)]
      exact hA t' o' hy hk
    · rw [List.mem_singleton] at hy
      cases hy
      rw [wb_ad_self]
      exact hKA hk
/-- what comes after something is made -/
theorem wb_made {t k q pc' : Nat} {cq : ClassId} {locs : List Loc} {J : Array Slot} (hR : wb_rep false D adr cA L n.1 h A H s) (hxt : (∀ y ∈ L0, y ∈ L ∧ adr y.1 y.2 = adr0 y.1 y.2) ∧ (false = true → adr = adr0)) (hl : wb_lc (wb_tv rv adr) ls J (wb_pn m)) (ht : 10 ≤ t) (hok : wb_fok false n.1 ls st = true)
    (G : wb_G p l e R s mth args below meth c Q false m rv A D adr0 L0 (pc', ls, .inr (.inr (t, n.1 t)) :: st, wb_nw h t (n.1 t), (wb_cu n.1 t, n.2.1 + 1, n.2.2 + k)))
    {H1 : Heap} {en : va_E} (hen : en = wb_ent false adr (wb_ad cA t (n.1 t) cq) (wb_nw h t (n.1 t)) t (n.1 t)) (hP : va_P D wb_cls (wb_wd false adr cA h L ++ [(q, en)]) H1) (hD : va_D A (wb_wd false adr cA h L ++ [(q, en)])) (hS : va_S A s.heap H1 locs)
    (hKA : (wb_shp t).1 ≠ 0 → ArrOfT s cq (wb_ty (wb_shp t).1) ∧ va_RA s cq (wb_ty (wb_shp t).1)) : W p l e R s mth args below meth c H1 locs (n.2.1 + 1) (n.2.2 + k) Q (F0 mth pc' J (.ref q :: st.map (wb_tv rv adr))) := by
  simp only [wb_fok, Bool.and_eq_true] at hok
  obtain ⟨h1, h2⟩ := wb_rep_new hR ht hen hP hD hKA
  have G1 := G (wb_ad adr t (n.1 t) q) (wb_ad cA t (n.1 t) cq) (L ++ [(t, n.1 t)]) H1 locs J h1 ⟨fun y hy => ⟨List.mem_append_left _ (hxt.1 y hy).1, by rw [wb_ad_ne (h2 y (hxt.1 y hy).1)]; exact (hxt.1 y hy).2⟩, fun q => by cases q⟩ (wb_lc_ad hl hok.1) hS
  simp only [List.map_cons, wb_tvr ht, wb_ad_self, wb_aok_ad hok.2] at G1
  exact G1
theorem wb_pk_mk {t k q : Nat} (hp : wb_pk (wb_mk m t k q ls st h n) = some c') : wb_fok false n.1 ls st = true ∧ n.2.1 + 1 ≤ wb_mc m ∧ n.2.2 + k ≤ wb_ms m ∧ c' = (q, ls, .inr (.inr (t, n.1 t)) :: st, wb_nw h t (n.1 t), (wb_cu n.1 t, n.2.1 + 1, n.2.2 + k)) := by
  obtain ⟨h1, h2⟩ := wb_pk_if hp
  simp only [Bool.and_eq_true, decide_eq_true_eq] at h1
  exact ⟨h1.1.1, h1.1.2, h1.2, h2⟩
def wb_ckn (m idx : Nat) (x : List Nat) : Bool := match x with
  | t :: p1 :: p2 :: p3 :: _ => (match wb_shp t with
    | (0, ci) => (match wb_cls[ci]? with
      | some (C, T, N) => wb_at p1 (.classLink (wb_y m).cls idx C) && wb_at p2 (.instantiable C N) && wb_at p3 (.initialized C)
      | none => false)
    | _ => false)
  | _ => false
set_option maxHeartbeats 2000000 in
theorem wb_o_new {idx : Nat} (F : wb_fr p R s mth args meth c m A) (hd : decode (wb_b m) pc = .ok (.new idx, 3)) (hck : wb_ckn m idx x = true) (hp : wb_pk (wb_st fz sc m pc (.new idx) x ls st h n) = some c') (G : wb_G p l e R s mth args below meth c Q fz m rv A D adr0 L0 c') : wb_G p l e R s mth args below meth c Q fz m rv A D adr0 L0 (pc, ls, st, h, n) := by
  obtain ⟨hx, hb, hts, hown, hml, hA, hin, hnf, hnl, hnc, hns⟩ := F
  simp only [wb_st] at hp
  intro adr cA L H locs J hR hxt hl hS
  replace hR : wb_rep fz D adr cA L n.1 h A H s := hR
  unfold wb_ne at hp
  split at hp
  · rename_i t x'
    split at hp
    · rename_i ci hsh
      obtain ⟨h1, h2, h3, rfl⟩ := wb_pk_mk hp
      obtain ⟨ht10, hci, hrf⟩ := wb_tag_obj hsh
      obtain ⟨C, T, N, hcl, hN, hkk⟩ := wb_cls_at hci
      have hck2 : ∃ p1 p2 p3, wb_at p1 (.classLink (wb_y m).cls idx C) = true ∧ wb_at p2 (.instantiable C N) = true ∧ wb_at p3 (.initialized C) = true := by
        unfold wb_ckn at hck
        split at hck
        · rename_i t' p1 p2 p3 x'' e
          cases e
          rw [hsh] at hck
          simp only [hcl, Bool.and_eq_true] at hck
          exact ⟨_, _, _, hck.1.1, hck.1.2, hck.2⟩
        · cases hck
      obtain ⟨p1, p2, p3, w1, w2, w3⟩ := hck2
      have hY := wb_Yok hcl
      have hN2 : (wb_nth [] wb_fkl ci).length = N := hN.symm
      rw [hN2] at G h3
      refine va_new (D := D) (ci := ci) (C := C) (T := T) (N := N) (fs := (List.range (wb_nfd ci)).map (wb_fv false adr (wb_nw h t (n.1 t)) ci t (n.1 t))) hx hb hts (wb_uws hcl) (wb_Yf ci) hY.1 hown (hts _ (wb_at_in w1)) (hts _ (wb_at_in w2)) (hts _ (wb_at_in w3)) hR.2.2.2.1 hR.2.1 hR.2.2.1 hS hA hcl ?_ (by simp only at h2 ⊢; omega) (by simp only at h3 ⊢; omega) hd (fun q H1 q1 q2 q3 => ?_)
      · intro j hj
        have hfk9 : ∀ ci, ci < 12 → ∀ j, j < wb_nfd ci → wb_fk ci j = 0 ∨ wb_fk ci j = 1 ∨ wb_fk ci j = 2 ∨ wb_fk ci j = 3 := by decide +kernel
        have hv : wb_fv false adr (wb_nw h t (n.1 t)) ci t (n.1 t) j = wb_dv (wb_fk ci j) := by
          rcases hfk9 ci hci j (by rw [← hN]; exact hj) with q | q | q | q <;> simp [wb_fv, q, wb_rq, wb_si, wb_nw, wb_z, wb_dv, va_rf]
        rw [vp_V, List.getD_eq_getElem?_getD, List.getElem?_map, List.getElem?_range (by rw [← hN]; exact hj)]
        simp only [Option.map_some, Option.getD_some, hv]
        have hkd := (hkk j hj).1
        rw [← hkd]
        have hk9 : ∀ ty : FieldType, wb_kd ty = 0 ∨ wb_kd ty = 1 ∨ wb_kd ty = 2 ∨ wb_kd ty = 3 → defaultValue ty = wb_dv (wb_kd ty) := by
          intro ty hq
          cases ty <;> first | rfl | (simp [wb_kd] at hq)
        exact hk9 _ (by rw [hkd]; exact hfk9 ci hci j (by rw [← hN]; exact hj))
      · exact wb_made (cq := 0) hR hxt hl ht10 h1 G (by rw [wb_ent_obj hsh]) q1 q2 q3 (fun q => absurd (by rw [hsh]) q)
    · cases hp
  · cases hp
def wb_ckm (a : ArrayType) (x : List Nat) : Bool := match x with
  | t :: p1 :: _ => wb_at p1 (.arrayClass (newarray.typeOf a)) && decide (10 ≤ t) && decide ((wb_shp t).2 ≤ 10000)
  | _ => false
theorem wb_ofi_nat {k : Nat} (h : k ≤ 10000) : ¬ Int32.ofInt (k : Int) < 0 ∧ (Int32.ofInt (k : Int)).toNatClampNeg = k := by
  rw [← wb_ofn]
  exact ⟨nI_pos (by omega), nI_clamp (by omega)⟩
set_option maxHeartbeats 2000000 in
theorem wb_o_newarray {a : ArrayType} (F : wb_fr p R s mth args meth c m A) (hd : decode (wb_b m) pc = .ok (.newarray a, 2)) (hck : wb_ckm a x = true) (hp : wb_pk (wb_st fz sc m pc (.newarray a) x ls st h n) = some c') (G : wb_G p l e R s mth args below meth c Q fz m rv A D adr0 L0 c') : wb_G p l e R s mth args below meth c Q fz m rv A D adr0 L0 (pc, ls, st, h, n) := by
  obtain ⟨hx, hb, hts, hown, hml, hA, hin, hnf, hnl, hnc, hns⟩ := F
  simp only [wb_st] at hp
  intro adr cA L H locs J hR hxt hl hS
  replace hR : wb_rep fz D adr cA L n.1 h A H s := hR
  unfold wb_na at hp
  split at hp
  · rename_i t x' y st'
    have hK0 : va_K D wb_cls ([] : List (ClassId × FieldType)) s := hR.2.2.2.1
    have hzI : (wb_nw h t (n.1 t)).1 t (n.1 t) = fun _ => 0 := by funext k; simp [wb_nw, wb_z]
    have hzL : (wb_nw h t (n.1 t)).2.1 t (n.1 t) = fun _ => 0 := by funext k; simp [wb_nw, wb_z]
    obtain ⟨hat, ht10, hsz⟩ : (∃ p1, wb_at p1 (.arrayClass (newarray.typeOf a)) = true) ∧ 10 ≤ t ∧ (wb_shp t).2 ≤ 10000 := by
      unfold wb_ckm at hck
      split at hck
      · rename_i e
        cases e
        simp only [Bool.and_eq_true, decide_eq_true_eq] at hck
        exact ⟨⟨_, hck.1.1⟩, hck.1.2, hck.2⟩
      · cases hck
    obtain ⟨p1, hat⟩ := hat
    split at hp
    · rename_i k hy hsh
      obtain ⟨h1, h2, h3, rfl⟩ := wb_pk_mk hp
      have hy := of_decide_eq_true hy
      rw [hsh] at hy hsz
      subst hy
      obtain ⟨g1, g2⟩ := wb_ofi_nat hsz
      refine va_newa (atype := .int) (ty := .int) (N' := k) (a0 := (k, .inl (fun _ => 0))) hx hb (hts _ (wb_at_in hat)) rfl hK0 hR.2.1 hR.2.2.1 hS hA (fun _ => rfl) g1 g2 (by show k * 4 ≤ _; simp only at hsz; omega) (by simp only at h2 ⊢; omega) (by simp only at h3 ⊢; omega) hd (fun q cq H1 qK q1 q2 q3 => ?_)
      refine wb_made (cq := cq) hR hxt hl ht10 h1 G ?_ q1 q2 q3 (fun _ => by rw [hsh]; exact qK.2 0 _ rfl)
      rw [wb_ent_int hsh (Or.inl rfl), wb_ad_self, hzI]
    · rename_i k hy hsh
      obtain ⟨h1, h2, h3, rfl⟩ := wb_pk_mk hp
      have hy := of_decide_eq_true hy
      rw [hsh] at hy hsz
      subst hy
      obtain ⟨g1, g2⟩ := wb_ofi_nat hsz
      refine va_newa (atype := .byte) (ty := .byte) (N' := k) (a0 := (k, .inl (fun _ => 0))) hx hb (hts _ (wb_at_in hat)) rfl hK0 hR.2.1 hR.2.2.1 hS hA (fun _ => rfl) g1 g2 (by show k * 1 ≤ _; simp only at hsz; omega) (by simp only at h2 ⊢; omega) (by simp only at h3 ⊢; omega) hd (fun q cq H1 qK q1 q2 q3 => ?_)
      refine wb_made (cq := cq) hR hxt hl ht10 h1 G ?_ q1 q2 q3 (fun _ => by rw [hsh]; exact qK.2 0 _ rfl)
      rw [wb_ent_int hsh (Or.inr (Or.inl rfl)), wb_ad_self, hzI]
    · rename_i k hy hsh
      obtain ⟨h1, h2, h3, rfl⟩ := wb_pk_mk hp
      have hy := of_decide_eq_true hy
      rw [hsh] at hy hsz
      subst hy
      obtain ⟨g1, g2⟩ := wb_ofi_nat hsz
      refine va_newa (atype := .boolean) (ty := .boolean) (N' := k) (a0 := (k, .inl (fun _ => 0))) hx hb (hts _ (wb_at_in hat)) rfl hK0 hR.2.1 hR.2.2.1 hS hA (fun _ => rfl) g1 g2 (by show k * 1 ≤ _; simp only at hsz; omega) (by simp only at h2 ⊢; omega) (by simp only at h3 ⊢; omega) hd (fun q cq H1 qK q1 q2 q3 => ?_)
      refine wb_made (cq := cq) hR hxt hl ht10 h1 G ?_ q1 q2 q3 (fun _ => by rw [hsh]; exact qK.2 0 _ rfl)
      rw [wb_ent_int hsh (Or.inr (Or.inr rfl)), wb_ad_self, hzI]
    · rename_i k hy hsh
      obtain ⟨h1, h2, h3, rfl⟩ := wb_pk_mk hp
      have hy := of_decide_eq_true hy
      rw [hsh] at hy hsz
      subst hy
      obtain ⟨g1, g2⟩ := wb_ofi_nat hsz
      refine va_newa (atype := .long) (ty := .long) (N' := k) (a0 := (k, .inr (.inl (fun _ => 0)))) hx hb (hts _ (wb_at_in hat)) rfl hK0 hR.2.1 hR.2.2.1 hS hA (fun _ => rfl) g1 g2 (by show k * 8 ≤ _; simp only at hsz; omega) (by simp only at h2 ⊢; omega) (by simp only at h3 ⊢; omega) hd (fun q cq H1 qK q1 q2 q3 => ?_)
      refine wb_made (cq := cq) hR hxt hl ht10 h1 G ?_ q1 q2 q3 (fun _ => by rw [hsh]; exact qK.2 0 _ rfl)
      rw [wb_ent_long hsh, wb_ad_self, hzL]
    · cases hp
  · cases hp
def wb_cka (m idx : Nat) (x : List Nat) : Bool := match x with
  | t :: p1 :: p2 :: _ => wb_at p1 (.classLink (wb_y m).cls idx "WhichBin$Standing") && decide (10 ≤ t) && decide ((wb_shp t).2 ≤ 10000)
  | _ => false
set_option maxHeartbeats 2000000 in
theorem wb_o_anewarray {idx : Nat} (F : wb_fr p R s mth args meth c m A) (hd : decode (wb_b m) pc = .ok (.anewarray idx, 3)) (hck : wb_cka m idx x = true) (hro : wb_RO sc rv A s) (hp : wb_pk (wb_st fz sc m pc (.anewarray idx) x ls st h n) = some c') (G : wb_G p l e R s mth args below meth c Q fz m rv A D adr0 L0 c') : wb_G p l e R s mth args below meth c Q fz m rv A D adr0 L0 (pc, ls, st, h, n) := by
  obtain ⟨hx, hb, hts, hown, hml, hA, hin, hnf, hnl, hnc, hns⟩ := F
  simp only [wb_st] at hp
  intro adr cA L H locs J hR hxt hl hS
  replace hR : wb_rep fz D adr cA L n.1 h A H s := hR
  unfold wb_an at hp
  split at hp
  · rename_i t x' y st'
    have hK0 : va_K D wb_cls ([] : List (ClassId × FieldType)) s := hR.2.2.2.1
    obtain ⟨⟨p1, w1⟩, ht10, hsz⟩ : (∃ p1, wb_at p1 (.classLink (wb_y m).cls idx "WhichBin$Standing") = true) ∧ 10 ≤ t ∧ (wb_shp t).2 ≤ 10000 := by
      unfold wb_cka at hck
      split at hck
      · rename_i e
        cases e
        simp only [Bool.and_eq_true, decide_eq_true_eq] at hck
        exact ⟨⟨_, hck.1.1⟩, hck.1.2, hck.2⟩
      · cases hck
    split at hp
    · rename_i k hy hsh
      obtain ⟨h1, h2, h3, rfl⟩ := wb_pk_mk hp
      have hy := of_decide_eq_true hy
      rw [hsh] at hy hsz
      subst hy
      obtain ⟨g1, g2⟩ := wb_ofi_nat hsz
      have hAO : va_AO "WhichBin$Standing" s := hro.2.2.2.2.2.2.2.2.2.2.2.2
      refine va_newq (C := "WhichBin$Standing") (N' := k) hx hb hown (hts _ (wb_at_in w1)) hAO hK0 hR.2.1 hR.2.2.1 hS hA g1 g2 (by simp only at hsz; omega) (by simp only at h2 ⊢; omega) (by simp only at h3 ⊢; omega) hd (fun q cq H1 qK q1 q2 q3 => ?_)
      refine wb_made (cq := cq) hR hxt hl ht10 h1 G ?_ q1 q2 q3 (fun _ => by rw [hsh]; exact qK.2 0 _ rfl)
      rw [wb_ent_ref hsh, wb_ad_self]
      congr 7
      funext j
      simp [wb_sq, wb_sa, wb_nw, wb_z]
    · cases hp
  · cases hp
set_option maxHeartbeats 2000000 in
theorem wb_o_aastore (F : wb_fr p R s mth args meth c m A) (hd : decode (wb_b m) pc = .ok (.aastore, 1)) (hp : wb_pk (wb_st fz sc m pc .aastore x ls st h n) = some c') (G : wb_G p l e R s mth args below meth c Q fz m rv A D adr0 L0 c') : wb_G p l e R s mth args below meth c Q fz m rv A D adr0 L0 (pc, ls, st, h, n) := by
  obtain ⟨hx, hb, hts, hown, hml, hA, hin, hnf, hnl, hnc, hns⟩ := F
  simp only [wb_st] at hp
  intro adr cA L H locs J hR hxt hl hS
  replace hR : wb_rep fz D adr cA L n.1 h A H s := hR
  unfold wb_qs at hp
  split at hp
  · rename_i t' o' i t o st'
    split at hp
    · rename_i len hsh
      split at hp
      · rename_i hbt
        have hbt := Nat.eq_of_beq_eq_true hbt
        obtain ⟨h1, rfl⟩ := wb_pk_if hp
        simp only [Bool.and_eq_true, decide_eq_true_eq] at h1
        obtain ⟨ht, hr10⟩ := wb_tag_arr hsh
        have hst := wb_std_all t (wb_shp_rng (by rw [hsh]; exact (by decide : (5 : Nat) ≠ 9))).2 (by rw [hsh])
        rw [hbt] at hr10 hst
        obtain ⟨j, hj, hwd⟩ := wb_rep_at hR ht h1.1.1
        obtain ⟨j2, hj2, hwd2⟩ := wb_rep_at hR hr10 h1.2
        rw [wb_ent_ref hsh] at hwd
        rw [wb_ent_obj hst] at hwd2
        have hK := wb_K1 hR ht h1.1.1 (by rw [hsh]; exact (by decide : (5 : Nat) ≠ 0))
        rw [hsh] at hK
        rw [List.map_cons, List.map_cons, List.map_cons, wb_tvr ht, wb_tvr hr10]
        refine va_astq (ci := 7) (r := (wb_C7, wb_T7, 8)) hx hb hK hR.2.1 hR.2.2.1 hS j 0 j2 hwd rfl hwd2 rfl (wb_vin h1.1.2) hd (fun H1 locs1 q1 q2 q3 => ?_)
        refine G adr cA L H1 locs1 J (wb_rep_set (h' := wb_mu h t o i.toNatClampNeg (o' + 1)) hR hj ?_ (fun t' o' hne => wb_ent_congr rfl rfl (wb_u_ne hne)) ?_ q1 q2) hxt hl q3
        · refine ⟨hR.1.1, hR.1.2.1, fun q t2 o2 k2 hm2 hne => ?_⟩
          by_cases he : t2 = t ∧ o2 = o ∧ k2 = i.toNatClampNeg
          · obtain ⟨rfl, rfl, rfl⟩ := he
            have e1 : (wb_mu h t2 o2 i.toNatClampNeg (o' + 1)).2.2 t2 o2 i.toNatClampNeg = o' + 1 := by simp [wb_mu, wb_u]
            rw [e1]
            have e2 : wb_tg t2 i.toNatClampNeg = t' := by simp [wb_tg, hsh, hbt]
            rw [e2]
            exact (hR.1.2.1 t' o').mpr ⟨hr10, h1.2⟩
          · have e1 : (wb_mu h t o i.toNatClampNeg (o' + 1)).2.2 t2 o2 k2 = h.2.2 t2 o2 k2 := by simp only [wb_mu, wb_u]; rw [if_neg he]
            rw [e1] at hne ⊢
            exact hR.1.2.2 q t2 o2 k2 hm2 hne
        · rw [wb_ent_ref hsh]
          congr 7
          funext j3
          simp only [va_up, wb_sq, wb_sa, wb_mu, wb_u, true_and]
          by_cases hj3 : j3 = i.toNatClampNeg
          · rw [if_pos hj3, if_pos hj3]
            simp [hbt]
          · rw [if_neg hj3, if_neg hj3]
      · cases hp
    · cases hp
  · cases hp
theorem wb_rw_sum (hcat : ∀ t, rv t = .null ∨ ∃ a, rv t = .ref a) : ∀ st : List wb_V, ((st.map (wb_tv rv adr)).map fun v => v.category).sum = wb_rw st
  | [] => rfl
  | v :: st => by
    have ih := wb_rw_sum hcat st
    simp only [wb_rw, List.map_cons, List.sum_cons] at ih ⊢
    rw [ih]
    congr 1
    match v with
    | .inl _ => rfl
    | .inr (.inl _) => rfl
    | .inr (.inr r) => exact wb_cat1 hcat r
def wb_cki (m idx : Nat) (x : List Nat) : Bool := match x with
  | [0, p1, p2, p3] => wb_at p1 (.methodLink (wb_y m).cls idx Lib.objectInit) && wb_at p2 (.instanceMethod Lib.objectInit) && wb_at p3 (.code Lib.objectInit ⟨#[0xb1]⟩ 1 none) && decide (1 ≤ wb_nf m) && decide (20 ≤ wb_nl m)
  | _ => false
set_option maxHeartbeats 2000000 in
theorem wb_o_objinit {idx : Nat} (F : wb_fr p R s mth args meth c m A) (hd : decode (wb_b m) pc = .ok (.invokespecial idx, 3)) (hck : wb_cki m idx x = true) (hcat : ∀ t, rv t = .null ∨ ∃ a, rv t = .ref a) (hp : wb_pk (wb_st fz sc m pc (.invokespecial idx) x ls st h n) = some c') (G : wb_G p l e R s mth args below meth c Q fz m rv A D adr0 L0 c') : wb_G p l e R s mth args below meth c Q fz m rv A D adr0 L0 (pc, ls, st, h, n) := by
  obtain ⟨hx, hb, hts, hown, hml, hA, hin, hnf, hnl, hnc, hns⟩ := F
  simp only [wb_st] at hp
  intro adr cA L H locs J hR hxt hl hS
  replace hR : wb_rep fz D adr cA L n.1 h A H s := hR
  unfold wb_cki at hck
  split at hck
  · rename_i p1 p2 p3
    simp only [Bool.and_eq_true, decide_eq_true_eq] at hck
    obtain ⟨⟨⟨⟨w1, w2⟩, w3⟩, hf⟩, hlo⟩ := hck
    simp only [wb_ca] at hp
    split at hp
    · rename_i t o st'
      split at hp
      · rename_i hb2
        simp only [Bool.and_eq_true, decide_eq_true_eq] at hb2
        cases hp
        rw [List.map_cons, wb_tvr hb2.1]
        exact W.objInit hx hb hown (hts _ (wb_at_in w1)) (hts _ (wb_at_in w2)) (hts _ (wb_at_in w3)) rfl (by show J.size = _; rw [hml]; exact hl.1) rfl hd (by omega) (by
          show 2 * 0 + _ + 12 ≤ R.locals
          rw [wb_rw_sum hcat]; omega) (G adr cA L H locs J hR hxt hl hS)
      · cases hp
    · cases hp
  · cases hck
def wb_ckx (m idx : Nat) (x : List Nat) : Bool := match x with
  | [1, p1, p2, p3, p4] => wb_at p1 (.methodLink (wb_y m).cls idx arraycopyName) && wb_at p2 (.native arraycopyName) && wb_at p3 (.static arraycopyName) && wb_at p4 (.initialized "java/lang/System") && decide (1 ≤ wb_nf m) && decide (8 + (nativeFrameWords "java/lang/System" "arraycopy" 5 + 11) ≤ wb_nl m)
  | _ => false
set_option maxHeartbeats 4000000 in
theorem wb_o_copy {idx : Nat} (F : wb_fr p R s mth args meth c m A) (hd : decode (wb_b m) pc = .ok (.invokestatic idx, 3)) (hck : wb_ckx m idx x = true) (hcat : ∀ t, rv t = .null ∨ ∃ a, rv t = .ref a) (hp : wb_pk (wb_st fz sc m pc (.invokestatic idx) x ls st h n) = some c') (G : wb_G p l e R s mth args below meth c Q fz m rv A D adr0 L0 c') : wb_G p l e R s mth args below meth c Q fz m rv A D adr0 L0 (pc, ls, st, h, n) := by
  obtain ⟨hx, hb, hts, hown, hml, hA, hin, hnf, hnl, hnc, hns⟩ := F
  simp only [wb_st] at hp
  intro adr cA L H locs J hR hxt hl hS
  replace hR : wb_rep fz D adr cA L n.1 h A H s := hR
  unfold wb_ckx at hck
  split at hck
  · rename_i p1 p2 p3 p4
    simp only [Bool.and_eq_true, decide_eq_true_eq] at hck
    obtain ⟨⟨⟨⟨⟨w1, w2⟩, w3⟩, w4⟩, hf⟩, hlo⟩ := hck
    simp only [wb_ca] at hp
    split at hp
    · rename_i cc d t2 o2 sp t o st'
      split at hp
      · rename_i l1 l2 hs1 hs2 hrw
        have hrw := of_decide_eq_true hrw
        obtain ⟨h1, rfl⟩ := wb_pk_if hp
        simp only [Bool.and_eq_true, decide_eq_true_eq, Bool.not_eq_true', decide_eq_false_iff_not] at h1
        obtain ⟨⟨ho, ho2⟩, ⟨⟨⟨hc1, hc2⟩, hc3⟩, hc4⟩, hc5⟩ := h1
        have ht := wb_sh10 hs1 (by decide)
        have ht2 := wb_sh10 hs2 (by decide)
        obtain ⟨j, hj, hwd⟩ := wb_rep_at hR ht ho
        obtain ⟨j2, hj2, hwd2⟩ := wb_rep_at hR ht2 ho2
        rw [wb_ent_int hs1 (Or.inl rfl)] at hwd
        rw [wb_ent_int hs2 (Or.inl rfl)] at hwd2
        have hK1 := wb_K1 hR ht ho (by rw [hs1]; exact (by decide : (1 : Nat) ≠ 0))
        have hK2 := wb_K1 hR ht2 ho2 (by rw [hs2]; exact (by decide : (1 : Nat) ≠ 0))
        rw [hs1] at hK1
        rw [hs2] at hK2
        have hK := hK1.app hK2
        rw [List.map_cons, List.map_cons, List.map_cons, List.map_cons, List.map_cons, wb_tvr ht, wb_tvr ht2]
        refine va_copyi (ty := .int) hx hb (by rw [hml]; exact hl.1.symm) hown (hts _ (wb_at_in w1)) (hts _ (wb_at_in w2)) (hts _ (wb_at_in w3)) (hts _ (wb_at_in w4)) hK hR.2.1 hR.2.2.1 hS j j2 0 1 hwd hwd2 rfl rfl rfl hc1 hc2 hc3 hc4 hc5 (fun _ _ => rfl) (by omega) (by rw [wb_rw_sum hcat]; omega) hd (fun H1 locs1 q1 q2 q3 => ?_)
        refine G adr cA L H1 locs1 J (wb_rep_set (h' := (wb_cp h.1 t o sp.toNatClampNeg t2 o2 d.toNatClampNeg cc.toNatClampNeg, h.2)) hR hj2 hR.1 (fun t' o' hne => wb_ent_congr ?_ rfl rfl) ?_ q1 q2) hxt hl q3
        · funext k'
          simp only [wb_cp]
          rw [if_neg]
          rintro ⟨⟨a, b⟩, -⟩
          exact hne (by rw [a, b])
        · rw [wb_ent_int hs2 (Or.inl rfl)]
          congr 4
          funext k'
          simp [wb_cp, va_cpy]
      · cases hp
    · cases hp
  · cases hck
end WBN
end
section
/-! The words that say the code of each method stand in the tables. -/
theorem wb_tb1 {w : Cond} (h : w ∈ tables_1_1) (hg : goodWord w = true) : w ∈ wb_TB := by
  refine List.mem_filter.mpr ⟨List.mem_append_right _ ?_, hg⟩
  unfold tables_1
  exact List.mem_append_left _ h
theorem wb_tb2 {w : Cond} (h : w ∈ tables_1_2) (hg : goodWord w = true) : w ∈ wb_TB := by
  refine List.mem_filter.mpr ⟨List.mem_append_right _ ?_, hg⟩
  unfold tables_1
  exact List.mem_append_right _ (List.mem_append_left _ h)
theorem wb_tb3 {w : Cond} (h : w ∈ tables_1_3) (hg : goodWord w = true) : w ∈ wb_TB := by
  refine List.mem_filter.mpr ⟨List.mem_append_right _ ?_, hg⟩
  unfold tables_1
  exact List.mem_append_right _ (List.mem_append_right _ (List.mem_append_left _ h))
theorem wb_tb4 {w : Cond} (h : w ∈ tables_1_4) (hg : goodWord w = true) : w ∈ wb_TB := by
  refine List.mem_filter.mpr ⟨List.mem_append_right _ ?_, hg⟩
  unfold tables_1
  exact List.mem_append_right _ (List.mem_append_right _ (List.mem_append_right _ (List.mem_append_left _ h)))
theorem wb_tb5 {w : Cond} (h : w ∈ tables_1_5) (hg : goodWord w = true) : w ∈ wb_TB := by
  refine List.mem_filter.mpr ⟨List.mem_append_right _ ?_, hg⟩
  unfold tables_1
  exact List.mem_append_right _ (List.mem_append_right _ (List.mem_append_right _ (List.mem_append_right _ (List.mem_append_left _ h))))
theorem wb_tb6 {w : Cond} (h : w ∈ tables_1_6) (hg : goodWord w = true) : w ∈ wb_TB := by
  refine List.mem_filter.mpr ⟨List.mem_append_right _ ?_, hg⟩
  unfold tables_1
  exact List.mem_append_right _ (List.mem_append_right _ (List.mem_append_right _ (List.mem_append_right _ (List.mem_append_right _ (List.mem_append_left _ h)))))
theorem wb_tb7 {w : Cond} (h : w ∈ tables_1_7) (hg : goodWord w = true) : w ∈ wb_TB := by
  refine List.mem_filter.mpr ⟨List.mem_append_right _ ?_, hg⟩
  unfold tables_1
  exact List.mem_append_right _ (List.mem_append_right _ (List.mem_append_right _ (List.mem_append_right _ (List.mem_append_right _ (List.mem_append_right _ (List.mem_append_left _ h))))))
theorem wb_tb8 {w : Cond} (h : w ∈ tables_1_8) (hg : goodWord w = true) : w ∈ wb_TB := by
  refine List.mem_filter.mpr ⟨List.mem_append_right _ ?_, hg⟩
  unfold tables_1
  exact List.mem_append_right _ (List.mem_append_right _ (List.mem_append_right _ (List.mem_append_right _ (List.mem_append_right _ (List.mem_append_right _ (List.mem_append_right _ (h)))))))
set_option maxRecDepth 100000 in
theorem wb_cod_2 : Cond.code (wb_y 2) (wb_b 2) (wb_pn 2) (wb_r 2) ∈ wb_TB := wb_tb2 (List.mem_of_getElem? (i := 95) rfl) rfl
set_option maxRecDepth 100000 in
theorem wb_cod_3 : Cond.code (wb_y 3) (wb_b 3) (wb_pn 3) (wb_r 3) ∈ wb_TB := wb_tb2 (List.mem_of_getElem? (i := 232) rfl) rfl
set_option maxRecDepth 100000 in
theorem wb_cod_4 : Cond.code (wb_y 4) (wb_b 4) (wb_pn 4) (wb_r 4) ∈ wb_TB := wb_tb5 (List.mem_of_getElem? (i := 151) rfl) rfl
set_option maxRecDepth 100000 in
theorem wb_cod_5 : Cond.code (wb_y 5) (wb_b 5) (wb_pn 5) (wb_r 5) ∈ wb_TB := wb_tb5 (List.mem_of_getElem? (i := 163) rfl) rfl
set_option maxRecDepth 100000 in
theorem wb_cod_6 : Cond.code (wb_y 6) (wb_b 6) (wb_pn 6) (wb_r 6) ∈ wb_TB := wb_tb5 (List.mem_of_getElem? (i := 167) rfl) rfl
set_option maxRecDepth 100000 in
theorem wb_cod_7 : Cond.code (wb_y 7) (wb_b 7) (wb_pn 7) (wb_r 7) ∈ wb_TB := wb_tb5 (List.mem_of_getElem? (i := 171) rfl) rfl
set_option maxRecDepth 100000 in
theorem wb_cod_8 : Cond.code (wb_y 8) (wb_b 8) (wb_pn 8) (wb_r 8) ∈ wb_TB := wb_tb2 (List.mem_of_getElem? (i := 122) rfl) rfl
set_option maxRecDepth 100000 in
theorem wb_cod_9 : Cond.code (wb_y 9) (wb_b 9) (wb_pn 9) (wb_r 9) ∈ wb_TB := wb_tb4 (List.mem_of_getElem? (i := 92) rfl) rfl
set_option maxRecDepth 100000 in
theorem wb_cod_10 : Cond.code (wb_y 10) (wb_b 10) (wb_pn 10) (wb_r 10) ∈ wb_TB := wb_tb5 (List.mem_of_getElem? (i := 88) rfl) rfl
set_option maxRecDepth 100000 in
theorem wb_cod_11 : Cond.code (wb_y 11) (wb_b 11) (wb_pn 11) (wb_r 11) ∈ wb_TB := wb_tb4 (List.mem_of_getElem? (i := 100) rfl) rfl
set_option maxRecDepth 100000 in
theorem wb_cod_12 : Cond.code (wb_y 12) (wb_b 12) (wb_pn 12) (wb_r 12) ∈ wb_TB := wb_tb4 (List.mem_of_getElem? (i := 105) rfl) rfl
set_option maxRecDepth 100000 in
theorem wb_cod_13 : Cond.code (wb_y 13) (wb_b 13) (wb_pn 13) (wb_r 13) ∈ wb_TB := wb_tb4 (List.mem_of_getElem? (i := 118) rfl) rfl
set_option maxRecDepth 100000 in
theorem wb_cod_14 : Cond.code (wb_y 14) (wb_b 14) (wb_pn 14) (wb_r 14) ∈ wb_TB := wb_tb4 (List.mem_of_getElem? (i := 124) rfl) rfl
set_option maxRecDepth 100000 in
theorem wb_cod_15 : Cond.code (wb_y 15) (wb_b 15) (wb_pn 15) (wb_r 15) ∈ wb_TB := wb_tb4 (List.mem_of_getElem? (i := 140) rfl) rfl
set_option maxRecDepth 100000 in
theorem wb_cod_16 : Cond.code (wb_y 16) (wb_b 16) (wb_pn 16) (wb_r 16) ∈ wb_TB := wb_tb4 (List.mem_of_getElem? (i := 128) rfl) rfl
set_option maxRecDepth 100000 in
theorem wb_cod_17 : Cond.code (wb_y 17) (wb_b 17) (wb_pn 17) (wb_r 17) ∈ wb_TB := wb_tb4 (List.mem_of_getElem? (i := 166) rfl) rfl
set_option maxRecDepth 100000 in
theorem wb_cod_18 : Cond.code (wb_y 18) (wb_b 18) (wb_pn 18) (wb_r 18) ∈ wb_TB := wb_tb5 (List.mem_of_getElem? (i := 33) rfl) rfl
set_option maxRecDepth 100000 in
theorem wb_cod_19 : Cond.code (wb_y 19) (wb_b 19) (wb_pn 19) (wb_r 19) ∈ wb_TB := wb_tb5 (List.mem_of_getElem? (i := 45) rfl) rfl
set_option maxRecDepth 100000 in
theorem wb_cod_20 : Cond.code (wb_y 20) (wb_b 20) (wb_pn 20) (wb_r 20) ∈ wb_TB := wb_tb5 (List.mem_of_getElem? (i := 21) rfl) rfl
set_option maxRecDepth 100000 in
theorem wb_cod_21 : Cond.code (wb_y 21) (wb_b 21) (wb_pn 21) (wb_r 21) ∈ wb_TB := wb_tb4 (List.mem_of_getElem? (i := 143) rfl) rfl
set_option maxRecDepth 100000 in
theorem wb_cod_22 : Cond.code (wb_y 22) (wb_b 22) (wb_pn 22) (wb_r 22) ∈ wb_TB := wb_tb4 (List.mem_of_getElem? (i := 132) rfl) rfl
set_option maxRecDepth 100000 in
theorem wb_cod_23 : Cond.code (wb_y 23) (wb_b 23) (wb_pn 23) (wb_r 23) ∈ wb_TB := wb_tb4 (List.mem_of_getElem? (i := 146) rfl) rfl
set_option maxRecDepth 100000 in
theorem wb_cod_24 : Cond.code (wb_y 24) (wb_b 24) (wb_pn 24) (wb_r 24) ∈ wb_TB := wb_tb4 (List.mem_of_getElem? (i := 136) rfl) rfl
set_option maxRecDepth 100000 in
theorem wb_cod_25 : Cond.code (wb_y 25) (wb_b 25) (wb_pn 25) (wb_r 25) ∈ wb_TB := wb_tb4 (List.mem_of_getElem? (i := 150) rfl) rfl
set_option maxRecDepth 100000 in
theorem wb_cod_26 : Cond.code (wb_y 26) (wb_b 26) (wb_pn 26) (wb_r 26) ∈ wb_TB := wb_tb4 (List.mem_of_getElem? (i := 154) rfl) rfl
set_option maxRecDepth 100000 in
theorem wb_cod_27 : Cond.code (wb_y 27) (wb_b 27) (wb_pn 27) (wb_r 27) ∈ wb_TB := wb_tb4 (List.mem_of_getElem? (i := 158) rfl) rfl
set_option maxRecDepth 100000 in
theorem wb_cod_28 : Cond.code (wb_y 28) (wb_b 28) (wb_pn 28) (wb_r 28) ∈ wb_TB := wb_tb4 (List.mem_of_getElem? (i := 172) rfl) rfl
set_option maxRecDepth 100000 in
theorem wb_cod_29 : Cond.code (wb_y 29) (wb_b 29) (wb_pn 29) (wb_r 29) ∈ wb_TB := wb_tb4 (List.mem_of_getElem? (i := 183) rfl) rfl
set_option maxRecDepth 100000 in
theorem wb_cod_30 : Cond.code (wb_y 30) (wb_b 30) (wb_pn 30) (wb_r 30) ∈ wb_TB := wb_tb4 (List.mem_of_getElem? (i := 175) rfl) rfl
set_option maxRecDepth 100000 in
theorem wb_cod_31 : Cond.code (wb_y 31) (wb_b 31) (wb_pn 31) (wb_r 31) ∈ wb_TB := wb_tb4 (List.mem_of_getElem? (i := 178) rfl) rfl
set_option maxRecDepth 100000 in
theorem wb_cod_32 : Cond.code (wb_y 32) (wb_b 32) (wb_pn 32) (wb_r 32) ∈ wb_TB := wb_tb2 (List.mem_of_getElem? (i := 193) rfl) rfl
set_option maxRecDepth 100000 in
theorem wb_cod_33 : Cond.code (wb_y 33) (wb_b 33) (wb_pn 33) (wb_r 33) ∈ wb_TB := wb_tb5 (List.mem_of_getElem? (i := 129) rfl) rfl
set_option maxRecDepth 100000 in
theorem wb_cod_34 : Cond.code (wb_y 34) (wb_b 34) (wb_pn 34) (wb_r 34) ∈ wb_TB := wb_tb5 (List.mem_of_getElem? (i := 134) rfl) rfl
set_option maxRecDepth 100000 in
theorem wb_cod_35 : Cond.code (wb_y 35) (wb_b 35) (wb_pn 35) (wb_r 35) ∈ wb_TB := wb_tb1 (List.mem_of_getElem? (i := 177) rfl) rfl
set_option maxRecDepth 100000 in
theorem wb_cod_36 : Cond.code (wb_y 36) (wb_b 36) (wb_pn 36) (wb_r 36) ∈ wb_TB := wb_tb1 (List.mem_of_getElem? (i := 208) rfl) rfl
set_option maxRecDepth 100000 in
theorem wb_cod_37 : Cond.code (wb_y 37) (wb_b 37) (wb_pn 37) (wb_r 37) ∈ wb_TB := wb_tb3 (List.mem_of_getElem? (i := 214) rfl) rfl
set_option maxRecDepth 100000 in
theorem wb_cod_38 : Cond.code (wb_y 38) (wb_b 38) (wb_pn 38) (wb_r 38) ∈ wb_TB := wb_tb3 (List.mem_of_getElem? (i := 230) rfl) rfl
set_option maxRecDepth 100000 in
theorem wb_cod_39 : Cond.code (wb_y 39) (wb_b 39) (wb_pn 39) (wb_r 39) ∈ wb_TB := wb_tb4 (List.mem_of_getElem? (i := 1) rfl) rfl
set_option maxRecDepth 100000 in
theorem wb_cod_40 : Cond.code (wb_y 40) (wb_b 40) (wb_pn 40) (wb_r 40) ∈ wb_TB := wb_tb4 (List.mem_of_getElem? (i := 162) rfl) rfl
set_option maxRecDepth 100000 in
theorem wb_cod_41 : Cond.code (wb_y 41) (wb_b 41) (wb_pn 41) (wb_r 41) ∈ wb_TB := wb_tb4 (List.mem_of_getElem? (i := 29) rfl) rfl
set_option maxRecDepth 100000 in
theorem wb_cod_42 : Cond.code (wb_y 42) (wb_b 42) (wb_pn 42) (wb_r 42) ∈ wb_TB := wb_tb4 (List.mem_of_getElem? (i := 13) rfl) rfl
set_option maxRecDepth 100000 in
theorem wb_cod_43 : Cond.code (wb_y 43) (wb_b 43) (wb_pn 43) (wb_r 43) ∈ wb_TB := wb_tb4 (List.mem_of_getElem? (i := 18) rfl) rfl
set_option maxRecDepth 100000 in
theorem wb_cod_44 : Cond.code (wb_y 44) (wb_b 44) (wb_pn 44) (wb_r 44) ∈ wb_TB := wb_tb4 (List.mem_of_getElem? (i := 22) rfl) rfl
set_option maxRecDepth 100000 in
theorem wb_cod_45 : Cond.code (wb_y 45) (wb_b 45) (wb_pn 45) (wb_r 45) ∈ wb_TB := wb_tb4 (List.mem_of_getElem? (i := 25) rfl) rfl
set_option maxRecDepth 100000 in
theorem wb_cod_46 : Cond.code (wb_y 46) (wb_b 46) (wb_pn 46) (wb_r 46) ∈ wb_TB := wb_tb2 (List.mem_of_getElem? (i := 75) rfl) rfl
set_option maxRecDepth 100000 in
theorem wb_cod_47 : Cond.code (wb_y 47) (wb_b 47) (wb_pn 47) (wb_r 47) ∈ wb_TB := wb_tb2 (List.mem_of_getElem? (i := 228) rfl) rfl
set_option maxRecDepth 100000 in
theorem wb_cod_48 : Cond.code (wb_y 48) (wb_b 48) (wb_pn 48) (wb_r 48) ∈ wb_TB := wb_tb4 (List.mem_of_getElem? (i := 76) rfl) rfl
set_option maxRecDepth 100000 in
theorem wb_cod_49 : Cond.code (wb_y 49) (wb_b 49) (wb_pn 49) (wb_r 49) ∈ wb_TB := wb_tb4 (List.mem_of_getElem? (i := 213) rfl) rfl
set_option maxRecDepth 100000 in
theorem wb_cod_50 : Cond.code (wb_y 50) (wb_b 50) (wb_pn 50) (wb_r 50) ∈ wb_TB := wb_tb1 (List.mem_of_getElem? (i := 171) rfl) rfl
set_option maxRecDepth 100000 in
theorem wb_cod_51 : Cond.code (wb_y 51) (wb_b 51) (wb_pn 51) (wb_r 51) ∈ wb_TB := wb_tb1 (List.mem_of_getElem? (i := 204) rfl) rfl
set_option maxRecDepth 100000 in
theorem wb_cod_52 : Cond.code (wb_y 52) (wb_b 52) (wb_pn 52) (wb_r 52) ∈ wb_TB := wb_tb3 (List.mem_of_getElem? (i := 202) rfl) rfl
set_option maxRecDepth 100000 in
theorem wb_cod_53 : Cond.code (wb_y 53) (wb_b 53) (wb_pn 53) (wb_r 53) ∈ wb_TB := wb_tb4 (List.mem_of_getElem? (i := 9) rfl) rfl
set_option maxRecDepth 100000 in
theorem wb_cod_54 : Cond.code (wb_y 54) (wb_b 54) (wb_pn 54) (wb_r 54) ∈ wb_TB := wb_tb4 (List.mem_of_getElem? (i := 52) rfl) rfl
set_option maxRecDepth 100000 in
theorem wb_cod_55 : Cond.code (wb_y 55) (wb_b 55) (wb_pn 55) (wb_r 55) ∈ wb_TB := wb_tb4 (List.mem_of_getElem? (i := 56) rfl) rfl
set_option maxRecDepth 100000 in
theorem wb_cod_56 : Cond.code (wb_y 56) (wb_b 56) (wb_pn 56) (wb_r 56) ∈ wb_TB := wb_tb1 (List.mem_of_getElem? (i := 50) rfl) rfl
set_option maxRecDepth 100000 in
theorem wb_cod_57 : Cond.code (wb_y 57) (wb_b 57) (wb_pn 57) (wb_r 57) ∈ wb_TB := wb_tb3 (List.mem_of_getElem? (i := 70) rfl) rfl
set_option maxRecDepth 100000 in
theorem wb_cod_58 : Cond.code (wb_y 58) (wb_b 58) (wb_pn 58) (wb_r 58) ∈ wb_TB := wb_tb3 (List.mem_of_getElem? (i := 182) rfl) rfl
set_option maxRecDepth 100000 in
theorem wb_cod_59 : Cond.code (wb_y 59) (wb_b 59) (wb_pn 59) (wb_r 59) ∈ wb_TB := wb_tb3 (List.mem_of_getElem? (i := 194) rfl) rfl
set_option maxRecDepth 100000 in
theorem wb_cod_60 : Cond.code (wb_y 60) (wb_b 60) (wb_pn 60) (wb_r 60) ∈ wb_TB := wb_tb3 (List.mem_of_getElem? (i := 186) rfl) rfl
set_option maxRecDepth 100000 in
theorem wb_cod_61 : Cond.code (wb_y 61) (wb_b 61) (wb_pn 61) (wb_r 61) ∈ wb_TB := wb_tb3 (List.mem_of_getElem? (i := 190) rfl) rfl
set_option maxRecDepth 100000 in
theorem wb_cod_62 : Cond.code (wb_y 62) (wb_b 62) (wb_pn 62) (wb_r 62) ∈ wb_TB := wb_tb3 (List.mem_of_getElem? (i := 178) rfl) rfl
set_option maxRecDepth 100000 in
theorem wb_cod_63 : Cond.code (wb_y 63) (wb_b 63) (wb_pn 63) (wb_r 63) ∈ wb_TB := wb_tb3 (List.mem_of_getElem? (i := 198) rfl) rfl
set_option maxRecDepth 100000 in
theorem wb_cod_64 : Cond.code (wb_y 64) (wb_b 64) (wb_pn 64) (wb_r 64) ∈ wb_TB := wb_tb3 (List.mem_of_getElem? (i := 206) rfl) rfl
set_option maxRecDepth 100000 in
theorem wb_cod_65 : Cond.code (wb_y 65) (wb_b 65) (wb_pn 65) (wb_r 65) ∈ wb_TB := wb_tb4 (List.mem_of_getElem? (i := 5) rfl) rfl
set_option maxRecDepth 100000 in
theorem wb_cod_66 : Cond.code (wb_y 66) (wb_b 66) (wb_pn 66) (wb_r 66) ∈ wb_TB := wb_tb3 (List.mem_of_getElem? (i := 210) rfl) rfl
set_option maxRecDepth 100000 in
theorem wb_cod_67 : Cond.code (wb_y 67) (wb_b 67) (wb_pn 67) (wb_r 67) ∈ wb_TB := wb_tb3 (List.mem_of_getElem? (i := 218) rfl) rfl
set_option maxRecDepth 100000 in
theorem wb_cod_68 : Cond.code (wb_y 68) (wb_b 68) (wb_pn 68) (wb_r 68) ∈ wb_TB := wb_tb3 (List.mem_of_getElem? (i := 226) rfl) rfl
set_option maxRecDepth 100000 in
theorem wb_cod_69 : Cond.code (wb_y 69) (wb_b 69) (wb_pn 69) (wb_r 69) ∈ wb_TB := wb_tb3 (List.mem_of_getElem? (i := 222) rfl) rfl
set_option maxRecDepth 100000 in
theorem wb_cod_70 : Cond.code (wb_y 70) (wb_b 70) (wb_pn 70) (wb_r 70) ∈ wb_TB := wb_tb3 (List.mem_of_getElem? (i := 237) rfl) rfl
set_option maxRecDepth 100000 in
theorem wb_cod_71 : Cond.code (wb_y 71) (wb_b 71) (wb_pn 71) (wb_r 71) ∈ wb_TB := wb_tb3 (List.mem_of_getElem? (i := 233) rfl) rfl
set_option maxRecDepth 100000 in
theorem wb_cod_72 : Cond.code (wb_y 72) (wb_b 72) (wb_pn 72) (wb_r 72) ∈ wb_TB := wb_tb2 (List.mem_of_getElem? (i := 37) rfl) rfl
set_option maxRecDepth 100000 in
theorem wb_cod_73 : Cond.code (wb_y 73) (wb_b 73) (wb_pn 73) (wb_r 73) ∈ wb_TB := wb_tb4 (List.mem_of_getElem? (i := 48) rfl) rfl
set_option maxRecDepth 100000 in
theorem wb_cod_74 : Cond.code (wb_y 74) (wb_b 74) (wb_pn 74) (wb_r 74) ∈ wb_TB := wb_tb2 (List.mem_of_getElem? (i := 224) rfl) rfl
set_option maxRecDepth 100000 in
theorem wb_cod_75 : Cond.code (wb_y 75) (wb_b 75) (wb_pn 75) (wb_r 75) ∈ wb_TB := wb_tb2 (List.mem_of_getElem? (i := 217) rfl) rfl
set_option maxRecDepth 100000 in
theorem wb_cod_76 : Cond.code (wb_y 76) (wb_b 76) (wb_pn 76) (wb_r 76) ∈ wb_TB := wb_tb4 (List.mem_of_getElem? (i := 80) rfl) rfl
set_option maxRecDepth 100000 in
theorem wb_cod_77 : Cond.code (wb_y 77) (wb_b 77) (wb_pn 77) (wb_r 77) ∈ wb_TB := wb_tb4 (List.mem_of_getElem? (i := 187) rfl) rfl
set_option maxRecDepth 100000 in
theorem wb_cod_78 : Cond.code (wb_y 78) (wb_b 78) (wb_pn 78) (wb_r 78) ∈ wb_TB := wb_tb1 (List.mem_of_getElem? (i := 34) rfl) rfl
set_option maxRecDepth 100000 in
theorem wb_cod_79 : Cond.code (wb_y 79) (wb_b 79) (wb_pn 79) (wb_r 79) ∈ wb_TB := wb_tb3 (List.mem_of_getElem? (i := 54) rfl) rfl
set_option maxRecDepth 100000 in
theorem wb_cod_80 : Cond.code (wb_y 80) (wb_b 80) (wb_pn 80) (wb_r 80) ∈ wb_TB := wb_tb3 (List.mem_of_getElem? (i := 58) rfl) rfl
set_option maxRecDepth 100000 in
theorem wb_cod_81 : Cond.code (wb_y 81) (wb_b 81) (wb_pn 81) (wb_r 81) ∈ wb_TB := wb_tb3 (List.mem_of_getElem? (i := 78) rfl) rfl
set_option maxRecDepth 100000 in
theorem wb_cod_82 : Cond.code (wb_y 82) (wb_b 82) (wb_pn 82) (wb_r 82) ∈ wb_TB := wb_tb1 (List.mem_of_getElem? (i := 56) rfl) rfl
set_option maxRecDepth 100000 in
theorem wb_cod_83 : Cond.code (wb_y 83) (wb_b 83) (wb_pn 83) (wb_r 83) ∈ wb_TB := wb_tb3 (List.mem_of_getElem? (i := 74) rfl) rfl
set_option maxRecDepth 100000 in
theorem wb_cod_84 : Cond.code (wb_y 84) (wb_b 84) (wb_pn 84) (wb_r 84) ∈ wb_TB := wb_tb3 (List.mem_of_getElem? (i := 85) rfl) rfl
set_option maxRecDepth 100000 in
theorem wb_cod_85 : Cond.code (wb_y 85) (wb_b 85) (wb_pn 85) (wb_r 85) ∈ wb_TB := wb_tb3 (List.mem_of_getElem? (i := 92) rfl) rfl
set_option maxRecDepth 100000 in
theorem wb_cod_86 : Cond.code (wb_y 86) (wb_b 86) (wb_pn 86) (wb_r 86) ∈ wb_TB := wb_tb3 (List.mem_of_getElem? (i := 111) rfl) rfl
set_option maxRecDepth 100000 in
theorem wb_cod_87 : Cond.code (wb_y 87) (wb_b 87) (wb_pn 87) (wb_r 87) ∈ wb_TB := wb_tb3 (List.mem_of_getElem? (i := 96) rfl) rfl
set_option maxRecDepth 100000 in
theorem wb_cod_88 : Cond.code (wb_y 88) (wb_b 88) (wb_pn 88) (wb_r 88) ∈ wb_TB := wb_tb3 (List.mem_of_getElem? (i := 100) rfl) rfl
set_option maxRecDepth 100000 in
theorem wb_cod_89 : Cond.code (wb_y 89) (wb_b 89) (wb_pn 89) (wb_r 89) ∈ wb_TB := wb_tb3 (List.mem_of_getElem? (i := 104) rfl) rfl
set_option maxRecDepth 100000 in
theorem wb_cod_90 : Cond.code (wb_y 90) (wb_b 90) (wb_pn 90) (wb_r 90) ∈ wb_TB := wb_tb1 (List.mem_of_getElem? (i := 109) rfl) rfl
set_option maxRecDepth 100000 in
theorem wb_cod_91 : Cond.code (wb_y 91) (wb_b 91) (wb_pn 91) (wb_r 91) ∈ wb_TB := wb_tb3 (List.mem_of_getElem? (i := 81) rfl) rfl
set_option maxRecDepth 100000 in
theorem wb_cod_92 : Cond.code (wb_y 92) (wb_b 92) (wb_pn 92) (wb_r 92) ∈ wb_TB := wb_tb3 (List.mem_of_getElem? (i := 88) rfl) rfl
set_option maxRecDepth 100000 in
theorem wb_cod_93 : Cond.code (wb_y 93) (wb_b 93) (wb_pn 93) (wb_r 93) ∈ wb_TB := wb_tb3 (List.mem_of_getElem? (i := 107) rfl) rfl
set_option maxRecDepth 100000 in
theorem wb_cod_94 : Cond.code (wb_y 94) (wb_b 94) (wb_pn 94) (wb_r 94) ∈ wb_TB := wb_tb1 (List.mem_of_getElem? (i := 26) rfl) rfl
set_option maxRecDepth 100000 in
theorem wb_cod_95 : Cond.code (wb_y 95) (wb_b 95) (wb_pn 95) (wb_r 95) ∈ wb_TB := wb_tb3 (List.mem_of_getElem? (i := 50) rfl) rfl
set_option maxRecDepth 100000 in
theorem wb_cod_96 : Cond.code (wb_y 96) (wb_b 96) (wb_pn 96) (wb_r 96) ∈ wb_TB := wb_tb3 (List.mem_of_getElem? (i := 62) rfl) rfl
set_option maxRecDepth 100000 in
theorem wb_cod_97 : Cond.code (wb_y 97) (wb_b 97) (wb_pn 97) (wb_r 97) ∈ wb_TB := wb_tb3 (List.mem_of_getElem? (i := 66) rfl) rfl
set_option maxRecDepth 100000 in
theorem wb_cod_98 : Cond.code (wb_y 98) (wb_b 98) (wb_pn 98) (wb_r 98) ∈ wb_TB := wb_tb4 (List.mem_of_getElem? (i := 33) rfl) rfl
set_option maxRecDepth 100000 in
theorem wb_cod_99 : Cond.code (wb_y 99) (wb_b 99) (wb_pn 99) (wb_r 99) ∈ wb_TB := wb_tb2 (List.mem_of_getElem? (i := 213) rfl) rfl
set_option maxRecDepth 100000 in
theorem wb_cod_100 : Cond.code (wb_y 100) (wb_b 100) (wb_pn 100) (wb_r 100) ∈ wb_TB := wb_tb2 (List.mem_of_getElem? (i := 236) rfl) rfl
set_option maxRecDepth 100000 in
theorem wb_cod_101 : Cond.code (wb_y 101) (wb_b 101) (wb_pn 101) (wb_r 101) ∈ wb_TB := wb_tb4 (List.mem_of_getElem? (i := 37) rfl) rfl
set_option maxRecDepth 100000 in
theorem wb_cod_102 : Cond.code (wb_y 102) (wb_b 102) (wb_pn 102) (wb_r 102) ∈ wb_TB := wb_tb4 (List.mem_of_getElem? (i := 60) rfl) rfl
set_option maxRecDepth 100000 in
theorem wb_cod_103 : Cond.code (wb_y 103) (wb_b 103) (wb_pn 103) (wb_r 103) ∈ wb_TB := wb_tb4 (List.mem_of_getElem? (i := 64) rfl) rfl
set_option maxRecDepth 100000 in
theorem wb_cod_104 : Cond.code (wb_y 104) (wb_b 104) (wb_pn 104) (wb_r 104) ∈ wb_TB := wb_tb4 (List.mem_of_getElem? (i := 68) rfl) rfl
set_option maxRecDepth 100000 in
theorem wb_cod_105 : Cond.code (wb_y 105) (wb_b 105) (wb_pn 105) (wb_r 105) ∈ wb_TB := wb_tb4 (List.mem_of_getElem? (i := 41) rfl) rfl
set_option maxRecDepth 100000 in
theorem wb_cod_106 : Cond.code (wb_y 106) (wb_b 106) (wb_pn 106) (wb_r 106) ∈ wb_TB := wb_tb4 (List.mem_of_getElem? (i := 232) rfl) rfl
set_option maxRecDepth 100000 in
theorem wb_cod_107 : Cond.code (wb_y 107) (wb_b 107) (wb_pn 107) (wb_r 107) ∈ wb_TB := wb_tb4 (List.mem_of_getElem? (i := 44) rfl) rfl
set_option maxRecDepth 100000 in
theorem wb_cod_108 : Cond.code (wb_y 108) (wb_b 108) (wb_pn 108) (wb_r 108) ∈ wb_TB := wb_tb5 (List.mem_of_getElem? (i := 57) rfl) rfl
set_option maxRecDepth 100000 in
theorem wb_cod_109 : Cond.code (wb_y 109) (wb_b 109) (wb_pn 109) (wb_r 109) ∈ wb_TB := wb_tb4 (List.mem_of_getElem? (i := 72) rfl) rfl
set_option maxRecDepth 100000 in
theorem wb_cod_110 : Cond.code (wb_y 110) (wb_b 110) (wb_pn 110) (wb_r 110) ∈ wb_TB := wb_tb4 (List.mem_of_getElem? (i := 193) rfl) rfl
set_option maxRecDepth 100000 in
theorem wb_cod_111 : Cond.code (wb_y 111) (wb_b 111) (wb_pn 111) (wb_r 111) ∈ wb_TB := wb_tb4 (List.mem_of_getElem? (i := 197) rfl) rfl
set_option maxRecDepth 100000 in
theorem wb_cod_112 : Cond.code (wb_y 112) (wb_b 112) (wb_pn 112) (wb_r 112) ∈ wb_TB := wb_tb4 (List.mem_of_getElem? (i := 202) rfl) rfl
set_option maxRecDepth 100000 in
theorem wb_cod_113 : Cond.code (wb_y 113) (wb_b 113) (wb_pn 113) (wb_r 113) ∈ wb_TB := wb_tb4 (List.mem_of_getElem? (i := 205) rfl) rfl
set_option maxRecDepth 100000 in
theorem wb_cod_114 : Cond.code (wb_y 114) (wb_b 114) (wb_pn 114) (wb_r 114) ∈ wb_TB := wb_tb4 (List.mem_of_getElem? (i := 209) rfl) rfl
set_option maxRecDepth 100000 in
theorem wb_cod_115 : Cond.code (wb_y 115) (wb_b 115) (wb_pn 115) (wb_r 115) ∈ wb_TB := wb_tb4 (List.mem_of_getElem? (i := 217) rfl) rfl
set_option maxRecDepth 100000 in
theorem wb_cod_116 : Cond.code (wb_y 116) (wb_b 116) (wb_pn 116) (wb_r 116) ∈ wb_TB := wb_tb4 (List.mem_of_getElem? (i := 225) rfl) rfl
set_option maxRecDepth 100000 in
theorem wb_cod_117 : Cond.code (wb_y 117) (wb_b 117) (wb_pn 117) (wb_r 117) ∈ wb_TB := wb_tb4 (List.mem_of_getElem? (i := 220) rfl) rfl
set_option maxRecDepth 100000 in
theorem wb_cod_118 : Cond.code (wb_y 118) (wb_b 118) (wb_pn 118) (wb_r 118) ∈ wb_TB := wb_tb4 (List.mem_of_getElem? (i := 229) rfl) rfl
set_option maxRecDepth 100000 in
theorem wb_cod_119 : Cond.code (wb_y 119) (wb_b 119) (wb_pn 119) (wb_r 119) ∈ wb_TB := wb_tb4 (List.mem_of_getElem? (i := 238) rfl) rfl
set_option maxRecDepth 100000 in
theorem wb_cod_120 : Cond.code (wb_y 120) (wb_b 120) (wb_pn 120) (wb_r 120) ∈ wb_TB := wb_tb5 (List.mem_of_getElem? (i := 17) rfl) rfl
set_option maxRecDepth 100000 in
theorem wb_cod_121 : Cond.code (wb_y 121) (wb_b 121) (wb_pn 121) (wb_r 121) ∈ wb_TB := wb_tb5 (List.mem_of_getElem? (i := 25) rfl) rfl
set_option maxRecDepth 100000 in
theorem wb_cod_122 : Cond.code (wb_y 122) (wb_b 122) (wb_pn 122) (wb_r 122) ∈ wb_TB := wb_tb5 (List.mem_of_getElem? (i := 37) rfl) rfl
set_option maxRecDepth 100000 in
theorem wb_cod_123 : Cond.code (wb_y 123) (wb_b 123) (wb_pn 123) (wb_r 123) ∈ wb_TB := wb_tb5 (List.mem_of_getElem? (i := 41) rfl) rfl
set_option maxRecDepth 100000 in
theorem wb_cod_124 : Cond.code (wb_y 124) (wb_b 124) (wb_pn 124) (wb_r 124) ∈ wb_TB := wb_tb5 (List.mem_of_getElem? (i := 49) rfl) rfl
set_option maxRecDepth 100000 in
theorem wb_cod_125 : Cond.code (wb_y 125) (wb_b 125) (wb_pn 125) (wb_r 125) ∈ wb_TB := wb_tb5 (List.mem_of_getElem? (i := 53) rfl) rfl
set_option maxRecDepth 100000 in
theorem wb_cod_126 : Cond.code (wb_y 126) (wb_b 126) (wb_pn 126) (wb_r 126) ∈ wb_TB := wb_tb5 (List.mem_of_getElem? (i := 71) rfl) rfl
set_option maxRecDepth 100000 in
theorem wb_cod_127 : Cond.code (wb_y 127) (wb_b 127) (wb_pn 127) (wb_r 127) ∈ wb_TB := wb_tb5 (List.mem_of_getElem? (i := 75) rfl) rfl
set_option maxRecDepth 100000 in
theorem wb_cod_128 : Cond.code (wb_y 128) (wb_b 128) (wb_pn 128) (wb_r 128) ∈ wb_TB := wb_tb5 (List.mem_of_getElem? (i := 67) rfl) rfl
set_option maxRecDepth 100000 in
theorem wb_cod_129 : Cond.code (wb_y 129) (wb_b 129) (wb_pn 129) (wb_r 129) ∈ wb_TB := wb_tb5 (List.mem_of_getElem? (i := 29) rfl) rfl
set_option maxRecDepth 100000 in
theorem wb_cod_130 : Cond.code (wb_y 130) (wb_b 130) (wb_pn 130) (wb_r 130) ∈ wb_TB := wb_tb5 (List.mem_of_getElem? (i := 80) rfl) rfl
set_option maxRecDepth 100000 in
theorem wb_cod_131 : Cond.code (wb_y 131) (wb_b 131) (wb_pn 131) (wb_r 131) ∈ wb_TB := wb_tb5 (List.mem_of_getElem? (i := 84) rfl) rfl
set_option maxRecDepth 100000 in
theorem wb_cod_132 : Cond.code (wb_y 132) (wb_b 132) (wb_pn 132) (wb_r 132) ∈ wb_TB := wb_tb5 (List.mem_of_getElem? (i := 92) rfl) rfl
set_option maxRecDepth 100000 in
theorem wb_cod_133 : Cond.code (wb_y 133) (wb_b 133) (wb_pn 133) (wb_r 133) ∈ wb_TB := wb_tb5 (List.mem_of_getElem? (i := 100) rfl) rfl
set_option maxRecDepth 100000 in
theorem wb_cod_134 : Cond.code (wb_y 134) (wb_b 134) (wb_pn 134) (wb_r 134) ∈ wb_TB := wb_tb5 (List.mem_of_getElem? (i := 96) rfl) rfl
set_option maxRecDepth 100000 in
theorem wb_cod_135 : Cond.code (wb_y 135) (wb_b 135) (wb_pn 135) (wb_r 135) ∈ wb_TB := wb_tb5 (List.mem_of_getElem? (i := 104) rfl) rfl
set_option maxRecDepth 100000 in
theorem wb_cod_136 : Cond.code (wb_y 136) (wb_b 136) (wb_pn 136) (wb_r 136) ∈ wb_TB := wb_tb5 (List.mem_of_getElem? (i := 108) rfl) rfl
set_option maxRecDepth 100000 in
theorem wb_cod_137 : Cond.code (wb_y 137) (wb_b 137) (wb_pn 137) (wb_r 137) ∈ wb_TB := wb_tb5 (List.mem_of_getElem? (i := 112) rfl) rfl
set_option maxRecDepth 100000 in
theorem wb_cod_138 : Cond.code (wb_y 138) (wb_b 138) (wb_pn 138) (wb_r 138) ∈ wb_TB := wb_tb5 (List.mem_of_getElem? (i := 116) rfl) rfl
set_option maxRecDepth 100000 in
theorem wb_cod_139 : Cond.code (wb_y 139) (wb_b 139) (wb_pn 139) (wb_r 139) ∈ wb_TB := wb_tb5 (List.mem_of_getElem? (i := 121) rfl) rfl
set_option maxRecDepth 100000 in
theorem wb_cod_140 : Cond.code (wb_y 140) (wb_b 140) (wb_pn 140) (wb_r 140) ∈ wb_TB := wb_tb5 (List.mem_of_getElem? (i := 125) rfl) rfl
set_option maxRecDepth 100000 in
theorem wb_cod_141 : Cond.code (wb_y 141) (wb_b 141) (wb_pn 141) (wb_r 141) ∈ wb_TB := wb_tb5 (List.mem_of_getElem? (i := 140) rfl) rfl
set_option maxRecDepth 100000 in
theorem wb_cod_142 : Cond.code (wb_y 142) (wb_b 142) (wb_pn 142) (wb_r 142) ∈ wb_TB := wb_tb4 (List.mem_of_getElem? (i := 88) rfl) rfl
set_option maxRecDepth 100000 in
theorem wb_cod_143 : Cond.code (wb_y 143) (wb_b 143) (wb_pn 143) (wb_r 143) ∈ wb_TB := wb_tb5 (List.mem_of_getElem? (i := 6) rfl) rfl
set_option maxRecDepth 100000 in
theorem wb_cod_144 : Cond.code (wb_y 144) (wb_b 144) (wb_pn 144) (wb_r 144) ∈ wb_TB := wb_tb5 (List.mem_of_getElem? (i := 2) rfl) rfl
set_option maxRecDepth 100000 in
theorem wb_cod_145 : Cond.code (wb_y 145) (wb_b 145) (wb_pn 145) (wb_r 145) ∈ wb_TB := wb_tb5 (List.mem_of_getElem? (i := 10) rfl) rfl
set_option maxRecDepth 100000 in
theorem wb_cod_146 : Cond.code (wb_y 146) (wb_b 146) (wb_pn 146) (wb_r 146) ∈ wb_TB := wb_tb5 (List.mem_of_getElem? (i := 144) rfl) rfl
set_option maxRecDepth 100000 in
theorem wb_cod_147 : Cond.code (wb_y 147) (wb_b 147) (wb_pn 147) (wb_r 147) ∈ wb_TB := wb_tb5 (List.mem_of_getElem? (i := 147) rfl) rfl
set_option maxRecDepth 100000 in
theorem wb_cod_148 : Cond.code (wb_y 148) (wb_b 148) (wb_pn 148) (wb_r 148) ∈ wb_TB := wb_tb5 (List.mem_of_getElem? (i := 155) rfl) rfl
set_option maxRecDepth 100000 in
theorem wb_cod_149 : Cond.code (wb_y 149) (wb_b 149) (wb_pn 149) (wb_r 149) ∈ wb_TB := wb_tb5 (List.mem_of_getElem? (i := 159) rfl) rfl
set_option maxRecDepth 100000 in
theorem wb_cod_150 : Cond.code (wb_y 150) (wb_b 150) (wb_pn 150) (wb_r 150) ∈ wb_TB := wb_tb5 (List.mem_of_getElem? (i := 176) rfl) rfl
set_option maxRecDepth 100000 in
theorem wb_cod_151 : Cond.code (wb_y 151) (wb_b 151) (wb_pn 151) (wb_r 151) ∈ wb_TB := wb_tb6 (List.mem_of_getElem? (i := 162) rfl) rfl
set_option maxRecDepth 100000 in
theorem wb_cod_152 : Cond.code (wb_y 152) (wb_b 152) (wb_pn 152) (wb_r 152) ∈ wb_TB := wb_tb6 (List.mem_of_getElem? (i := 166) rfl) rfl
set_option maxRecDepth 100000 in
theorem wb_cod_153 : Cond.code (wb_y 153) (wb_b 153) (wb_pn 153) (wb_r 153) ∈ wb_TB := wb_tb6 (List.mem_of_getElem? (i := 170) rfl) rfl
set_option maxRecDepth 100000 in
theorem wb_cod_154 : Cond.code (wb_y 154) (wb_b 154) (wb_pn 154) (wb_r 154) ∈ wb_TB := wb_tb6 (List.mem_of_getElem? (i := 182) rfl) rfl
set_option maxRecDepth 100000 in
theorem wb_cod_155 : Cond.code (wb_y 155) (wb_b 155) (wb_pn 155) (wb_r 155) ∈ wb_TB := wb_tb6 (List.mem_of_getElem? (i := 192) rfl) rfl
set_option maxRecDepth 100000 in
theorem wb_cod_156 : Cond.code (wb_y 156) (wb_b 156) (wb_pn 156) (wb_r 156) ∈ wb_TB := wb_tb6 (List.mem_of_getElem? (i := 189) rfl) rfl
set_option maxRecDepth 100000 in
theorem wb_cod_157 : Cond.code (wb_y 157) (wb_b 157) (wb_pn 157) (wb_r 157) ∈ wb_TB := wb_tb5 (List.mem_of_getElem? (i := 187) rfl) rfl
set_option maxRecDepth 100000 in
theorem wb_cod_158 : Cond.code (wb_y 158) (wb_b 158) (wb_pn 158) (wb_r 158) ∈ wb_TB := wb_tb5 (List.mem_of_getElem? (i := 184) rfl) rfl
set_option maxRecDepth 100000 in
theorem wb_cod_159 : Cond.code (wb_y 159) (wb_b 159) (wb_pn 159) (wb_r 159) ∈ wb_TB := wb_tb6 (List.mem_of_getElem? (i := 186) rfl) rfl
set_option maxRecDepth 100000 in
theorem wb_cod_160 : Cond.code (wb_y 160) (wb_b 160) (wb_pn 160) (wb_r 160) ∈ wb_TB := wb_tb6 (List.mem_of_getElem? (i := 178) rfl) rfl
set_option maxRecDepth 100000 in
theorem wb_cod_161 : Cond.code (wb_y 161) (wb_b 161) (wb_pn 161) (wb_r 161) ∈ wb_TB := wb_tb6 (List.mem_of_getElem? (i := 196) rfl) rfl
set_option maxRecDepth 100000 in
theorem wb_cod_162 : Cond.code (wb_y 162) (wb_b 162) (wb_pn 162) (wb_r 162) ∈ wb_TB := wb_tb6 (List.mem_of_getElem? (i := 200) rfl) rfl
set_option maxRecDepth 100000 in
theorem wb_cod_163 : Cond.code (wb_y 163) (wb_b 163) (wb_pn 163) (wb_r 163) ∈ wb_TB := wb_tb6 (List.mem_of_getElem? (i := 208) rfl) rfl
set_option maxRecDepth 100000 in
theorem wb_cod_164 : Cond.code (wb_y 164) (wb_b 164) (wb_pn 164) (wb_r 164) ∈ wb_TB := wb_tb6 (List.mem_of_getElem? (i := 228) rfl) rfl
set_option maxRecDepth 100000 in
theorem wb_cod_165 : Cond.code (wb_y 165) (wb_b 165) (wb_pn 165) (wb_r 165) ∈ wb_TB := wb_tb6 (List.mem_of_getElem? (i := 216) rfl) rfl
set_option maxRecDepth 100000 in
theorem wb_cod_166 : Cond.code (wb_y 166) (wb_b 166) (wb_pn 166) (wb_r 166) ∈ wb_TB := wb_tb6 (List.mem_of_getElem? (i := 220) rfl) rfl
set_option maxRecDepth 100000 in
theorem wb_cod_167 : Cond.code (wb_y 167) (wb_b 167) (wb_pn 167) (wb_r 167) ∈ wb_TB := wb_tb5 (List.mem_of_getElem? (i := 181) rfl) rfl
set_option maxRecDepth 100000 in
theorem wb_cod_168 : Cond.code (wb_y 168) (wb_b 168) (wb_pn 168) (wb_r 168) ∈ wb_TB := wb_tb6 (List.mem_of_getElem? (i := 174) rfl) rfl
set_option maxRecDepth 100000 in
theorem wb_cod_169 : Cond.code (wb_y 169) (wb_b 169) (wb_pn 169) (wb_r 169) ∈ wb_TB := wb_tb7 (List.mem_of_getElem? (i := 28) rfl) rfl
set_option maxRecDepth 100000 in
theorem wb_cod_170 : Cond.code (wb_y 170) (wb_b 170) (wb_pn 170) (wb_r 170) ∈ wb_TB := wb_tb6 (List.mem_of_getElem? (i := 204) rfl) rfl
set_option maxRecDepth 100000 in
theorem wb_cod_171 : Cond.code (wb_y 171) (wb_b 171) (wb_pn 171) (wb_r 171) ∈ wb_TB := wb_tb7 (List.mem_of_getElem? (i := 24) rfl) rfl
set_option maxRecDepth 100000 in
theorem wb_cod_172 : Cond.code (wb_y 172) (wb_b 172) (wb_pn 172) (wb_r 172) ∈ wb_TB := wb_tb6 (List.mem_of_getElem? (i := 232) rfl) rfl
set_option maxRecDepth 100000 in
theorem wb_cod_173 : Cond.code (wb_y 173) (wb_b 173) (wb_pn 173) (wb_r 173) ∈ wb_TB := wb_tb6 (List.mem_of_getElem? (i := 224) rfl) rfl
set_option maxRecDepth 100000 in
theorem wb_cod_174 : Cond.code (wb_y 174) (wb_b 174) (wb_pn 174) (wb_r 174) ∈ wb_TB := wb_tb6 (List.mem_of_getElem? (i := 212) rfl) rfl
set_option maxRecDepth 100000 in
theorem wb_cod_175 : Cond.code (wb_y 175) (wb_b 175) (wb_pn 175) (wb_r 175) ∈ wb_TB := wb_tb6 (List.mem_of_getElem? (i := 236) rfl) rfl
set_option maxRecDepth 100000 in
theorem wb_cod_176 : Cond.code (wb_y 176) (wb_b 176) (wb_pn 176) (wb_r 176) ∈ wb_TB := wb_tb7 (List.mem_of_getElem? (i := 0) rfl) rfl
set_option maxRecDepth 100000 in
theorem wb_cod_177 : Cond.code (wb_y 177) (wb_b 177) (wb_pn 177) (wb_r 177) ∈ wb_TB := wb_tb7 (List.mem_of_getElem? (i := 20) rfl) rfl
set_option maxRecDepth 100000 in
theorem wb_cod_178 : Cond.code (wb_y 178) (wb_b 178) (wb_pn 178) (wb_r 178) ∈ wb_TB := wb_tb7 (List.mem_of_getElem? (i := 12) rfl) rfl
set_option maxRecDepth 100000 in
theorem wb_cod_179 : Cond.code (wb_y 179) (wb_b 179) (wb_pn 179) (wb_r 179) ∈ wb_TB := wb_tb7 (List.mem_of_getElem? (i := 16) rfl) rfl
set_option maxRecDepth 100000 in
theorem wb_cod_180 : Cond.code (wb_y 180) (wb_b 180) (wb_pn 180) (wb_r 180) ∈ wb_TB := wb_tb7 (List.mem_of_getElem? (i := 4) rfl) rfl
set_option maxRecDepth 100000 in
theorem wb_cod_181 : Cond.code (wb_y 181) (wb_b 181) (wb_pn 181) (wb_r 181) ∈ wb_TB := wb_tb7 (List.mem_of_getElem? (i := 8) rfl) rfl
set_option maxRecDepth 100000 in
theorem wb_cod_182 : Cond.code (wb_y 182) (wb_b 182) (wb_pn 182) (wb_r 182) ∈ wb_TB := wb_tb7 (List.mem_of_getElem? (i := 131) rfl) rfl
set_option maxRecDepth 100000 in
theorem wb_cod_183 : Cond.code (wb_y 183) (wb_b 183) (wb_pn 183) (wb_r 183) ∈ wb_TB := wb_tb7 (List.mem_of_getElem? (i := 39) rfl) rfl
set_option maxRecDepth 100000 in
theorem wb_cod_184 : Cond.code (wb_y 184) (wb_b 184) (wb_pn 184) (wb_r 184) ∈ wb_TB := wb_tb8 (List.mem_of_getElem? (i := 11) rfl) rfl
set_option maxRecDepth 100000 in
theorem wb_cod_185 : Cond.code (wb_y 185) (wb_b 185) (wb_pn 185) (wb_r 185) ∈ wb_TB := wb_tb7 (List.mem_of_getElem? (i := 36) rfl) rfl
set_option maxRecDepth 100000 in
theorem wb_cod_186 : Cond.code (wb_y 186) (wb_b 186) (wb_pn 186) (wb_r 186) ∈ wb_TB := wb_tb5 (List.mem_of_getElem? (i := 192) rfl) rfl
set_option maxRecDepth 100000 in
theorem wb_cod_187 : Cond.code (wb_y 187) (wb_b 187) (wb_pn 187) (wb_r 187) ∈ wb_TB := wb_tb5 (List.mem_of_getElem? (i := 196) rfl) rfl
set_option maxRecDepth 100000 in
theorem wb_cod_188 : Cond.code (wb_y 188) (wb_b 188) (wb_pn 188) (wb_r 188) ∈ wb_TB := wb_tb5 (List.mem_of_getElem? (i := 200) rfl) rfl
set_option maxRecDepth 100000 in
theorem wb_cod_189 : Cond.code (wb_y 189) (wb_b 189) (wb_pn 189) (wb_r 189) ∈ wb_TB := wb_tb7 (List.mem_of_getElem? (i := 43) rfl) rfl
set_option maxRecDepth 100000 in
theorem wb_cod_190 : Cond.code (wb_y 190) (wb_b 190) (wb_pn 190) (wb_r 190) ∈ wb_TB := wb_tb7 (List.mem_of_getElem? (i := 51) rfl) rfl
set_option maxRecDepth 100000 in
theorem wb_cod_191 : Cond.code (wb_y 191) (wb_b 191) (wb_pn 191) (wb_r 191) ∈ wb_TB := wb_tb7 (List.mem_of_getElem? (i := 47) rfl) rfl
set_option maxRecDepth 100000 in
theorem wb_cod_192 : Cond.code (wb_y 192) (wb_b 192) (wb_pn 192) (wb_r 192) ∈ wb_TB := wb_tb7 (List.mem_of_getElem? (i := 55) rfl) rfl
set_option maxRecDepth 100000 in
theorem wb_cod_193 : Cond.code (wb_y 193) (wb_b 193) (wb_pn 193) (wb_r 193) ∈ wb_TB := wb_tb7 (List.mem_of_getElem? (i := 83) rfl) rfl
set_option maxRecDepth 100000 in
theorem wb_cod_194 : Cond.code (wb_y 194) (wb_b 194) (wb_pn 194) (wb_r 194) ∈ wb_TB := wb_tb7 (List.mem_of_getElem? (i := 75) rfl) rfl
set_option maxRecDepth 100000 in
theorem wb_cod_195 : Cond.code (wb_y 195) (wb_b 195) (wb_pn 195) (wb_r 195) ∈ wb_TB := wb_tb7 (List.mem_of_getElem? (i := 71) rfl) rfl
set_option maxRecDepth 100000 in
theorem wb_cod_196 : Cond.code (wb_y 196) (wb_b 196) (wb_pn 196) (wb_r 196) ∈ wb_TB := wb_tb7 (List.mem_of_getElem? (i := 91) rfl) rfl
set_option maxRecDepth 100000 in
theorem wb_cod_197 : Cond.code (wb_y 197) (wb_b 197) (wb_pn 197) (wb_r 197) ∈ wb_TB := wb_tb7 (List.mem_of_getElem? (i := 99) rfl) rfl
set_option maxRecDepth 100000 in
theorem wb_cod_198 : Cond.code (wb_y 198) (wb_b 198) (wb_pn 198) (wb_r 198) ∈ wb_TB := wb_tb7 (List.mem_of_getElem? (i := 103) rfl) rfl
set_option maxRecDepth 100000 in
theorem wb_cod_199 : Cond.code (wb_y 199) (wb_b 199) (wb_pn 199) (wb_r 199) ∈ wb_TB := wb_tb7 (List.mem_of_getElem? (i := 111) rfl) rfl
set_option maxRecDepth 100000 in
theorem wb_cod_200 : Cond.code (wb_y 200) (wb_b 200) (wb_pn 200) (wb_r 200) ∈ wb_TB := wb_tb7 (List.mem_of_getElem? (i := 107) rfl) rfl
set_option maxRecDepth 100000 in
theorem wb_cod_201 : Cond.code (wb_y 201) (wb_b 201) (wb_pn 201) (wb_r 201) ∈ wb_TB := wb_tb7 (List.mem_of_getElem? (i := 115) rfl) rfl
set_option maxRecDepth 100000 in
theorem wb_cod_202 : Cond.code (wb_y 202) (wb_b 202) (wb_pn 202) (wb_r 202) ∈ wb_TB := wb_tb7 (List.mem_of_getElem? (i := 127) rfl) rfl
set_option maxRecDepth 100000 in
theorem wb_cod_203 : Cond.code (wb_y 203) (wb_b 203) (wb_pn 203) (wb_r 203) ∈ wb_TB := wb_tb7 (List.mem_of_getElem? (i := 123) rfl) rfl
set_option maxRecDepth 100000 in
theorem wb_cod_204 : Cond.code (wb_y 204) (wb_b 204) (wb_pn 204) (wb_r 204) ∈ wb_TB := wb_tb7 (List.mem_of_getElem? (i := 119) rfl) rfl
set_option maxRecDepth 100000 in
theorem wb_cod_205 : Cond.code (wb_y 205) (wb_b 205) (wb_pn 205) (wb_r 205) ∈ wb_TB := wb_tb7 (List.mem_of_getElem? (i := 95) rfl) rfl
set_option maxRecDepth 100000 in
theorem wb_cod_206 : Cond.code (wb_y 206) (wb_b 206) (wb_pn 206) (wb_r 206) ∈ wb_TB := wb_tb7 (List.mem_of_getElem? (i := 87) rfl) rfl
set_option maxRecDepth 100000 in
theorem wb_cod_207 : Cond.code (wb_y 207) (wb_b 207) (wb_pn 207) (wb_r 207) ∈ wb_TB := wb_tb7 (List.mem_of_getElem? (i := 79) rfl) rfl
set_option maxRecDepth 100000 in
theorem wb_cod_208 : Cond.code (wb_y 208) (wb_b 208) (wb_pn 208) (wb_r 208) ∈ wb_TB := wb_tb7 (List.mem_of_getElem? (i := 67) rfl) rfl
set_option maxRecDepth 100000 in
theorem wb_cod_209 : Cond.code (wb_y 209) (wb_b 209) (wb_pn 209) (wb_r 209) ∈ wb_TB := wb_tb7 (List.mem_of_getElem? (i := 155) rfl) rfl
set_option maxRecDepth 100000 in
theorem wb_cod_210 : Cond.code (wb_y 210) (wb_b 210) (wb_pn 210) (wb_r 210) ∈ wb_TB := wb_tb7 (List.mem_of_getElem? (i := 151) rfl) rfl
set_option maxRecDepth 100000 in
theorem wb_cod_211 : Cond.code (wb_y 211) (wb_b 211) (wb_pn 211) (wb_r 211) ∈ wb_TB := wb_tb7 (List.mem_of_getElem? (i := 206) rfl) rfl
set_option maxRecDepth 100000 in
theorem wb_cod_212 : Cond.code (wb_y 212) (wb_b 212) (wb_pn 212) (wb_r 212) ∈ wb_TB := wb_tb7 (List.mem_of_getElem? (i := 202) rfl) rfl
set_option maxRecDepth 100000 in
theorem wb_cod_213 : Cond.code (wb_y 213) (wb_b 213) (wb_pn 213) (wb_r 213) ∈ wb_TB := wb_tb7 (List.mem_of_getElem? (i := 224) rfl) rfl
set_option maxRecDepth 100000 in
theorem wb_cod_214 : Cond.code (wb_y 214) (wb_b 214) (wb_pn 214) (wb_r 214) ∈ wb_TB := wb_tb7 (List.mem_of_getElem? (i := 212) rfl) rfl
set_option maxRecDepth 100000 in
theorem wb_cod_215 : Cond.code (wb_y 215) (wb_b 215) (wb_pn 215) (wb_r 215) ∈ wb_TB := wb_tb7 (List.mem_of_getElem? (i := 209) rfl) rfl
set_option maxRecDepth 100000 in
theorem wb_cod_216 : Cond.code (wb_y 216) (wb_b 216) (wb_pn 216) (wb_r 216) ∈ wb_TB := wb_tb7 (List.mem_of_getElem? (i := 146) rfl) rfl
set_option maxRecDepth 100000 in
theorem wb_cod_217 : Cond.code (wb_y 217) (wb_b 217) (wb_pn 217) (wb_r 217) ∈ wb_TB := wb_tb7 (List.mem_of_getElem? (i := 143) rfl) rfl
set_option maxRecDepth 100000 in
theorem wb_cod_218 : Cond.code (wb_y 218) (wb_b 218) (wb_pn 218) (wb_r 218) ∈ wb_TB := wb_tb7 (List.mem_of_getElem? (i := 139) rfl) rfl
set_option maxRecDepth 100000 in
theorem wb_cod_219 : Cond.code (wb_y 219) (wb_b 219) (wb_pn 219) (wb_r 219) ∈ wb_TB := wb_tb7 (List.mem_of_getElem? (i := 135) rfl) rfl
set_option maxRecDepth 100000 in
theorem wb_cod_220 : Cond.code (wb_y 220) (wb_b 220) (wb_pn 220) (wb_r 220) ∈ wb_TB := wb_tb7 (List.mem_of_getElem? (i := 32) rfl) rfl
set_option maxRecDepth 100000 in
theorem wb_cod_221 : Cond.code (wb_y 221) (wb_b 221) (wb_pn 221) (wb_r 221) ∈ wb_TB := wb_tb7 (List.mem_of_getElem? (i := 59) rfl) rfl
set_option maxRecDepth 100000 in
theorem wb_cod_222 : Cond.code (wb_y 222) (wb_b 222) (wb_pn 222) (wb_r 222) ∈ wb_TB := wb_tb7 (List.mem_of_getElem? (i := 159) rfl) rfl
set_option maxRecDepth 100000 in
theorem wb_cod_223 : Cond.code (wb_y 223) (wb_b 223) (wb_pn 223) (wb_r 223) ∈ wb_TB := wb_tb7 (List.mem_of_getElem? (i := 63) rfl) rfl
set_option maxRecDepth 100000 in
theorem wb_cod_224 : Cond.code (wb_y 224) (wb_b 224) (wb_pn 224) (wb_r 224) ∈ wb_TB := wb_tb7 (List.mem_of_getElem? (i := 163) rfl) rfl
set_option maxRecDepth 100000 in
theorem wb_cod_225 : Cond.code (wb_y 225) (wb_b 225) (wb_pn 225) (wb_r 225) ∈ wb_TB := wb_tb7 (List.mem_of_getElem? (i := 171) rfl) rfl
set_option maxRecDepth 100000 in
theorem wb_cod_226 : Cond.code (wb_y 226) (wb_b 226) (wb_pn 226) (wb_r 226) ∈ wb_TB := wb_tb7 (List.mem_of_getElem? (i := 167) rfl) rfl
set_option maxRecDepth 100000 in
theorem wb_cod_227 : Cond.code (wb_y 227) (wb_b 227) (wb_pn 227) (wb_r 227) ∈ wb_TB := wb_tb7 (List.mem_of_getElem? (i := 175) rfl) rfl
set_option maxRecDepth 100000 in
theorem wb_cod_228 : Cond.code (wb_y 228) (wb_b 228) (wb_pn 228) (wb_r 228) ∈ wb_TB := wb_tb7 (List.mem_of_getElem? (i := 179) rfl) rfl
set_option maxRecDepth 100000 in
theorem wb_cod_229 : Cond.code (wb_y 229) (wb_b 229) (wb_pn 229) (wb_r 229) ∈ wb_TB := wb_tb7 (List.mem_of_getElem? (i := 186) rfl) rfl
set_option maxRecDepth 100000 in
theorem wb_cod_230 : Cond.code (wb_y 230) (wb_b 230) (wb_pn 230) (wb_r 230) ∈ wb_TB := wb_tb7 (List.mem_of_getElem? (i := 194) rfl) rfl
set_option maxRecDepth 100000 in
theorem wb_cod_231 : Cond.code (wb_y 231) (wb_b 231) (wb_pn 231) (wb_r 231) ∈ wb_TB := wb_tb7 (List.mem_of_getElem? (i := 190) rfl) rfl
set_option maxRecDepth 100000 in
theorem wb_cod_232 : Cond.code (wb_y 232) (wb_b 232) (wb_pn 232) (wb_r 232) ∈ wb_TB := wb_tb7 (List.mem_of_getElem? (i := 183) rfl) rfl
set_option maxRecDepth 100000 in
theorem wb_cod_233 : Cond.code (wb_y 233) (wb_b 233) (wb_pn 233) (wb_r 233) ∈ wb_TB := wb_tb7 (List.mem_of_getElem? (i := 198) rfl) rfl
set_option maxRecDepth 100000 in
theorem wb_cod_234 : Cond.code (wb_y 234) (wb_b 234) (wb_pn 234) (wb_r 234) ∈ wb_TB := wb_tb7 (List.mem_of_getElem? (i := 216) rfl) rfl
set_option maxRecDepth 100000 in
theorem wb_cod_235 : Cond.code (wb_y 235) (wb_b 235) (wb_pn 235) (wb_r 235) ∈ wb_TB := wb_tb7 (List.mem_of_getElem? (i := 220) rfl) rfl
set_option maxRecDepth 100000 in
theorem wb_cod_236 : Cond.code (wb_y 236) (wb_b 236) (wb_pn 236) (wb_r 236) ∈ wb_TB := wb_tb7 (List.mem_of_getElem? (i := 228) rfl) rfl
set_option maxRecDepth 100000 in
theorem wb_cod_237 : Cond.code (wb_y 237) (wb_b 237) (wb_pn 237) (wb_r 237) ∈ wb_TB := wb_tb7 (List.mem_of_getElem? (i := 232) rfl) rfl
set_option maxRecDepth 100000 in
theorem wb_cod_238 : Cond.code (wb_y 238) (wb_b 238) (wb_pn 238) (wb_r 238) ∈ wb_TB := wb_tb7 (List.mem_of_getElem? (i := 236) rfl) rfl
set_option maxRecDepth 100000 in
theorem wb_cod_239 : Cond.code (wb_y 239) (wb_b 239) (wb_pn 239) (wb_r 239) ∈ wb_TB := wb_tb8 (List.mem_of_getElem? (i := 15) rfl) rfl
set_option maxRecDepth 100000 in
theorem wb_cod_240 : Cond.code (wb_y 240) (wb_b 240) (wb_pn 240) (wb_r 240) ∈ wb_TB := wb_tb8 (List.mem_of_getElem? (i := 8) rfl) rfl
set_option maxRecDepth 100000 in
theorem wb_cod_241 : Cond.code (wb_y 241) (wb_b 241) (wb_pn 241) (wb_r 241) ∈ wb_TB := wb_tb8 (List.mem_of_getElem? (i := 4) rfl) rfl
set_option maxRecDepth 100000 in
theorem wb_cod_242 : Cond.code (wb_y 242) (wb_b 242) (wb_pn 242) (wb_r 242) ∈ wb_TB := wb_tb8 (List.mem_of_getElem? (i := 0) rfl) rfl
set_option maxRecDepth 100000 in
theorem wb_cod_243 : Cond.code (wb_y 243) (wb_b 243) (wb_pn 243) (wb_r 243) ∈ wb_TB := wb_tb8 (List.mem_of_getElem? (i := 19) rfl) rfl
set_option maxRecDepth 100000 in
theorem wb_cod_244 : Cond.code (wb_y 244) (wb_b 244) (wb_pn 244) (wb_r 244) ∈ wb_TB := wb_tb8 (List.mem_of_getElem? (i := 23) rfl) rfl
set_option maxRecDepth 100000 in
theorem wb_cod_245 : Cond.code (wb_y 245) (wb_b 245) (wb_pn 245) (wb_r 245) ∈ wb_TB := wb_tb8 (List.mem_of_getElem? (i := 27) rfl) rfl
set_option maxRecDepth 100000 in
theorem wb_cod_246 : Cond.code (wb_y 246) (wb_b 246) (wb_pn 246) (wb_r 246) ∈ wb_TB := wb_tb8 (List.mem_of_getElem? (i := 35) rfl) rfl
set_option maxRecDepth 100000 in
theorem wb_cod_247 : Cond.code (wb_y 247) (wb_b 247) (wb_pn 247) (wb_r 247) ∈ wb_TB := wb_tb8 (List.mem_of_getElem? (i := 31) rfl) rfl
set_option maxRecDepth 100000 in
theorem wb_cod_248 : Cond.code (wb_y 248) (wb_b 248) (wb_pn 248) (wb_r 248) ∈ wb_TB := wb_tb8 (List.mem_of_getElem? (i := 39) rfl) rfl
set_option maxRecDepth 100000 in
theorem wb_cod_249 : Cond.code (wb_y 249) (wb_b 249) (wb_pn 249) (wb_r 249) ∈ wb_TB := wb_tb8 (List.mem_of_getElem? (i := 43) rfl) rfl
set_option maxRecDepth 100000 in
theorem wb_cod_250 : Cond.code (wb_y 250) (wb_b 250) (wb_pn 250) (wb_r 250) ∈ wb_TB := wb_tb8 (List.mem_of_getElem? (i := 51) rfl) rfl
set_option maxRecDepth 100000 in
theorem wb_cod_251 : Cond.code (wb_y 251) (wb_b 251) (wb_pn 251) (wb_r 251) ∈ wb_TB := wb_tb8 (List.mem_of_getElem? (i := 47) rfl) rfl
set_option maxRecDepth 100000 in
theorem wb_cod_252 : Cond.code (wb_y 252) (wb_b 252) (wb_pn 252) (wb_r 252) ∈ wb_TB := wb_tb8 (List.mem_of_getElem? (i := 59) rfl) rfl
set_option maxRecDepth 100000 in
theorem wb_cod_253 : Cond.code (wb_y 253) (wb_b 253) (wb_pn 253) (wb_r 253) ∈ wb_TB := wb_tb8 (List.mem_of_getElem? (i := 63) rfl) rfl
set_option maxRecDepth 100000 in
theorem wb_cod_254 : Cond.code (wb_y 254) (wb_b 254) (wb_pn 254) (wb_r 254) ∈ wb_TB := wb_tb8 (List.mem_of_getElem? (i := 55) rfl) rfl
set_option maxRecDepth 100000 in
theorem wb_cod_255 : Cond.code (wb_y 255) (wb_b 255) (wb_pn 255) (wb_r 255) ∈ wb_TB := wb_tb8 (List.mem_of_getElem? (i := 71) rfl) rfl
set_option maxRecDepth 100000 in
theorem wb_cod_256 : Cond.code (wb_y 256) (wb_b 256) (wb_pn 256) (wb_r 256) ∈ wb_TB := wb_tb8 (List.mem_of_getElem? (i := 67) rfl) rfl
set_option maxRecDepth 100000 in
theorem wb_cod_257 : Cond.code (wb_y 257) (wb_b 257) (wb_pn 257) (wb_r 257) ∈ wb_TB := wb_tb8 (List.mem_of_getElem? (i := 75) rfl) rfl
set_option maxRecDepth 100000 in
theorem wb_cod_258 : Cond.code (wb_y 258) (wb_b 258) (wb_pn 258) (wb_r 258) ∈ wb_TB := wb_tb8 (List.mem_of_getElem? (i := 79) rfl) rfl
set_option maxRecDepth 100000 in
theorem wb_cod_259 : Cond.code (wb_y 259) (wb_b 259) (wb_pn 259) (wb_r 259) ∈ wb_TB := wb_tb8 (List.mem_of_getElem? (i := 83) rfl) rfl
set_option maxRecDepth 100000 in
theorem wb_cod_260 : Cond.code (wb_y 260) (wb_b 260) (wb_pn 260) (wb_r 260) ∈ wb_TB := wb_tb8 (List.mem_of_getElem? (i := 91) rfl) rfl
set_option maxRecDepth 100000 in
theorem wb_cod_261 : Cond.code (wb_y 261) (wb_b 261) (wb_pn 261) (wb_r 261) ∈ wb_TB := wb_tb8 (List.mem_of_getElem? (i := 87) rfl) rfl
set_option maxRecDepth 100000 in
theorem wb_cod_262 : Cond.code (wb_y 262) (wb_b 262) (wb_pn 262) (wb_r 262) ∈ wb_TB := wb_tb8 (List.mem_of_getElem? (i := 95) rfl) rfl
set_option maxRecDepth 100000 in
theorem wb_cod_263 : Cond.code (wb_y 263) (wb_b 263) (wb_pn 263) (wb_r 263) ∈ wb_TB := wb_tb8 (List.mem_of_getElem? (i := 99) rfl) rfl
set_option maxRecDepth 100000 in
theorem wb_cod_264 : Cond.code (wb_y 264) (wb_b 264) (wb_pn 264) (wb_r 264) ∈ wb_TB := wb_tb8 (List.mem_of_getElem? (i := 103) rfl) rfl
set_option maxRecDepth 100000 in
theorem wb_cod_265 : Cond.code (wb_y 265) (wb_b 265) (wb_pn 265) (wb_r 265) ∈ wb_TB := wb_tb5 (List.mem_of_getElem? (i := 60) rfl) rfl
set_option maxRecDepth 100000 in
theorem wb_cod_266 : Cond.code (wb_y 266) (wb_b 266) (wb_pn 266) (wb_r 266) ∈ wb_TB := wb_tb5 (List.mem_of_getElem? (i := 13) rfl) rfl
set_option maxRecDepth 100000 in
theorem wb_cod_267 : Cond.code (wb_y 267) (wb_b 267) (wb_pn 267) (wb_r 267) ∈ wb_TB := wb_tb3 (List.mem_of_getElem? (i := 132) rfl) rfl
set_option maxRecDepth 100000 in
theorem wb_cod_268 : Cond.code (wb_y 268) (wb_b 268) (wb_pn 268) (wb_r 268) ∈ wb_TB := wb_tb3 (List.mem_of_getElem? (i := 135) rfl) rfl
set_option maxRecDepth 100000 in
theorem wb_cod_269 : Cond.code (wb_y 269) (wb_b 269) (wb_pn 269) (wb_r 269) ∈ wb_TB := wb_tb1 (List.mem_of_getElem? (i := 62) rfl) rfl
set_option maxRecDepth 100000 in
theorem wb_cod_270 : Cond.code (wb_y 270) (wb_b 270) (wb_pn 270) (wb_r 270) ∈ wb_TB := wb_tb1 (List.mem_of_getElem? (i := 72) rfl) rfl
set_option maxRecDepth 100000 in
theorem wb_cod_271 : Cond.code (wb_y 271) (wb_b 271) (wb_pn 271) (wb_r 271) ∈ wb_TB := wb_tb3 (List.mem_of_getElem? (i := 118) rfl) rfl
set_option maxRecDepth 100000 in
theorem wb_cod_272 : Cond.code (wb_y 272) (wb_b 272) (wb_pn 272) (wb_r 272) ∈ wb_TB := wb_tb3 (List.mem_of_getElem? (i := 122) rfl) rfl
set_option maxRecDepth 100000 in
theorem wb_cod_273 : Cond.code (wb_y 273) (wb_b 273) (wb_pn 273) (wb_r 273) ∈ wb_TB := wb_tb1 (List.mem_of_getElem? (i := 66) rfl) rfl
set_option maxRecDepth 100000 in
theorem wb_cod_274 : Cond.code (wb_y 274) (wb_b 274) (wb_pn 274) (wb_r 274) ∈ wb_TB := wb_tb1 (List.mem_of_getElem? (i := 76) rfl) rfl
set_option maxRecDepth 100000 in
theorem wb_cod_275 : Cond.code (wb_y 275) (wb_b 275) (wb_pn 275) (wb_r 275) ∈ wb_TB := wb_tb1 (List.mem_of_getElem? (i := 82) rfl) rfl
set_option maxRecDepth 100000 in
theorem wb_cod_276 : Cond.code (wb_y 276) (wb_b 276) (wb_pn 276) (wb_r 276) ∈ wb_TB := wb_tb1 (List.mem_of_getElem? (i := 79) rfl) rfl
set_option maxRecDepth 100000 in
theorem wb_cod_277 : Cond.code (wb_y 277) (wb_b 277) (wb_pn 277) (wb_r 277) ∈ wb_TB := wb_tb3 (List.mem_of_getElem? (i := 129) rfl) rfl
set_option maxRecDepth 100000 in
theorem wb_cod_278 : Cond.code (wb_y 278) (wb_b 278) (wb_pn 278) (wb_r 278) ∈ wb_TB := wb_tb3 (List.mem_of_getElem? (i := 126) rfl) rfl
set_option maxRecDepth 100000 in
theorem wb_cod_279 : Cond.code (wb_y 279) (wb_b 279) (wb_pn 279) (wb_r 279) ∈ wb_TB := wb_tb3 (List.mem_of_getElem? (i := 138) rfl) rfl
set_option maxRecDepth 100000 in
theorem wb_cod_280 : Cond.code (wb_y 280) (wb_b 280) (wb_pn 280) (wb_r 280) ∈ wb_TB := wb_tb4 (List.mem_of_getElem? (i := 113) rfl) rfl
set_option maxRecDepth 100000 in
theorem wb_cod_281 : Cond.code (wb_y 281) (wb_b 281) (wb_pn 281) (wb_r 281) ∈ wb_TB := wb_tb2 (List.mem_of_getElem? (i := 220) rfl) rfl
set_option maxRecDepth 100000 in
theorem wb_cod_282 : Cond.code (wb_y 282) (wb_b 282) (wb_pn 282) (wb_r 282) ∈ wb_TB := wb_tb4 (List.mem_of_getElem? (i := 110) rfl) rfl
set_option maxRecDepth 100000 in
theorem wb_cod_283 : Cond.code (wb_y 283) (wb_b 283) (wb_pn 283) (wb_r 283) ∈ wb_TB := wb_tb1 (List.mem_of_getElem? (i := 87) rfl) rfl
theorem wb_cod : ∀ y, 2 ≤ y → y < 284 → Cond.code (wb_y y) (wb_b y) (wb_pn y) (wb_r y) ∈ wb_TB := by
  intro m h1 h2
  match m, h1, h2 with
  | 2, _, _ => exact wb_cod_2
  | 3, _, _ => exact wb_cod_3
  | 4, _, _ => exact wb_cod_4
  | 5, _, _ => exact wb_cod_5
  | 6, _, _ => exact wb_cod_6
  | 7, _, _ => exact wb_cod_7
  | 8, _, _ => exact wb_cod_8
  | 9, _, _ => exact wb_cod_9
  | 10, _, _ => exact wb_cod_10
  | 11, _, _ => exact wb_cod_11
  | 12, _, _ => exact wb_cod_12
  | 13, _, _ => exact wb_cod_13
  | 14, _, _ => exact wb_cod_14
  | 15, _, _ => exact wb_cod_15
  | 16, _, _ => exact wb_cod_16
  | 17, _, _ => exact wb_cod_17
  | 18, _, _ => exact wb_cod_18
  | 19, _, _ => exact wb_cod_19
  | 20, _, _ => exact wb_cod_20
  | 21, _, _ => exact wb_cod_21
  | 22, _, _ => exact wb_cod_22
  | 23, _, _ => exact wb_cod_23
  | 24, _, _ => exact wb_cod_24
  | 25, _, _ => exact wb_cod_25
  | 26, _, _ => exact wb_cod_26
  | 27, _, _ => exact wb_cod_27
  | 28, _, _ => exact wb_cod_28
  | 29, _, _ => exact wb_cod_29
  | 30, _, _ => exact wb_cod_30
  | 31, _, _ => exact wb_cod_31
  | 32, _, _ => exact wb_cod_32
  | 33, _, _ => exact wb_cod_33
  | 34, _, _ => exact wb_cod_34
  | 35, _, _ => exact wb_cod_35
  | 36, _, _ => exact wb_cod_36
  | 37, _, _ => exact wb_cod_37
  | 38, _, _ => exact wb_cod_38
  | 39, _, _ => exact wb_cod_39
  | 40, _, _ => exact wb_cod_40
  | 41, _, _ => exact wb_cod_41
  | 42, _, _ => exact wb_cod_42
  | 43, _, _ => exact wb_cod_43
  | 44, _, _ => exact wb_cod_44
  | 45, _, _ => exact wb_cod_45
  | 46, _, _ => exact wb_cod_46
  | 47, _, _ => exact wb_cod_47
  | 48, _, _ => exact wb_cod_48
  | 49, _, _ => exact wb_cod_49
  | 50, _, _ => exact wb_cod_50
  | 51, _, _ => exact wb_cod_51
  | 52, _, _ => exact wb_cod_52
  | 53, _, _ => exact wb_cod_53
  | 54, _, _ => exact wb_cod_54
  | 55, _, _ => exact wb_cod_55
  | 56, _, _ => exact wb_cod_56
  | 57, _, _ => exact wb_cod_57
  | 58, _, _ => exact wb_cod_58
  | 59, _, _ => exact wb_cod_59
  | 60, _, _ => exact wb_cod_60
  | 61, _, _ => exact wb_cod_61
  | 62, _, _ => exact wb_cod_62
  | 63, _, _ => exact wb_cod_63
  | 64, _, _ => exact wb_cod_64
  | 65, _, _ => exact wb_cod_65
  | 66, _, _ => exact wb_cod_66
  | 67, _, _ => exact wb_cod_67
  | 68, _, _ => exact wb_cod_68
  | 69, _, _ => exact wb_cod_69
  | 70, _, _ => exact wb_cod_70
  | 71, _, _ => exact wb_cod_71
  | 72, _, _ => exact wb_cod_72
  | 73, _, _ => exact wb_cod_73
  | 74, _, _ => exact wb_cod_74
  | 75, _, _ => exact wb_cod_75
  | 76, _, _ => exact wb_cod_76
  | 77, _, _ => exact wb_cod_77
  | 78, _, _ => exact wb_cod_78
  | 79, _, _ => exact wb_cod_79
  | 80, _, _ => exact wb_cod_80
  | 81, _, _ => exact wb_cod_81
  | 82, _, _ => exact wb_cod_82
  | 83, _, _ => exact wb_cod_83
  | 84, _, _ => exact wb_cod_84
  | 85, _, _ => exact wb_cod_85
  | 86, _, _ => exact wb_cod_86
  | 87, _, _ => exact wb_cod_87
  | 88, _, _ => exact wb_cod_88
  | 89, _, _ => exact wb_cod_89
  | 90, _, _ => exact wb_cod_90
  | 91, _, _ => exact wb_cod_91
  | 92, _, _ => exact wb_cod_92
  | 93, _, _ => exact wb_cod_93
  | 94, _, _ => exact wb_cod_94
  | 95, _, _ => exact wb_cod_95
  | 96, _, _ => exact wb_cod_96
  | 97, _, _ => exact wb_cod_97
  | 98, _, _ => exact wb_cod_98
  | 99, _, _ => exact wb_cod_99
  | 100, _, _ => exact wb_cod_100
  | 101, _, _ => exact wb_cod_101
  | 102, _, _ => exact wb_cod_102
  | 103, _, _ => exact wb_cod_103
  | 104, _, _ => exact wb_cod_104
  | 105, _, _ => exact wb_cod_105
  | 106, _, _ => exact wb_cod_106
  | 107, _, _ => exact wb_cod_107
  | 108, _, _ => exact wb_cod_108
  | 109, _, _ => exact wb_cod_109
  | 110, _, _ => exact wb_cod_110
  | 111, _, _ => exact wb_cod_111
  | 112, _, _ => exact wb_cod_112
  | 113, _, _ => exact wb_cod_113
  | 114, _, _ => exact wb_cod_114
  | 115, _, _ => exact wb_cod_115
  | 116, _, _ => exact wb_cod_116
  | 117, _, _ => exact wb_cod_117
  | 118, _, _ => exact wb_cod_118
  | 119, _, _ => exact wb_cod_119
  | 120, _, _ => exact wb_cod_120
  | 121, _, _ => exact wb_cod_121
  | 122, _, _ => exact wb_cod_122
  | 123, _, _ => exact wb_cod_123
  | 124, _, _ => exact wb_cod_124
  | 125, _, _ => exact wb_cod_125
  | 126, _, _ => exact wb_cod_126
  | 127, _, _ => exact wb_cod_127
  | 128, _, _ => exact wb_cod_128
  | 129, _, _ => exact wb_cod_129
  | 130, _, _ => exact wb_cod_130
  | 131, _, _ => exact wb_cod_131
  | 132, _, _ => exact wb_cod_132
  | 133, _, _ => exact wb_cod_133
  | 134, _, _ => exact wb_cod_134
  | 135, _, _ => exact wb_cod_135
  | 136, _, _ => exact wb_cod_136
  | 137, _, _ => exact wb_cod_137
  | 138, _, _ => exact wb_cod_138
  | 139, _, _ => exact wb_cod_139
  | 140, _, _ => exact wb_cod_140
  | 141, _, _ => exact wb_cod_141
  | 142, _, _ => exact wb_cod_142
  | 143, _, _ => exact wb_cod_143
  | 144, _, _ => exact wb_cod_144
  | 145, _, _ => exact wb_cod_145
  | 146, _, _ => exact wb_cod_146
  | 147, _, _ => exact wb_cod_147
  | 148, _, _ => exact wb_cod_148
  | 149, _, _ => exact wb_cod_149
  | 150, _, _ => exact wb_cod_150
  | 151, _, _ => exact wb_cod_151
  | 152, _, _ => exact wb_cod_152
  | 153, _, _ => exact wb_cod_153
  | 154, _, _ => exact wb_cod_154
  | 155, _, _ => exact wb_cod_155
  | 156, _, _ => exact wb_cod_156
  | 157, _, _ => exact wb_cod_157
  | 158, _, _ => exact wb_cod_158
  | 159, _, _ => exact wb_cod_159
  | 160, _, _ => exact wb_cod_160
  | 161, _, _ => exact wb_cod_161
  | 162, _, _ => exact wb_cod_162
  | 163, _, _ => exact wb_cod_163
  | 164, _, _ => exact wb_cod_164
  | 165, _, _ => exact wb_cod_165
  | 166, _, _ => exact wb_cod_166
  | 167, _, _ => exact wb_cod_167
  | 168, _, _ => exact wb_cod_168
  | 169, _, _ => exact wb_cod_169
  | 170, _, _ => exact wb_cod_170
  | 171, _, _ => exact wb_cod_171
  | 172, _, _ => exact wb_cod_172
  | 173, _, _ => exact wb_cod_173
  | 174, _, _ => exact wb_cod_174
  | 175, _, _ => exact wb_cod_175
  | 176, _, _ => exact wb_cod_176
  | 177, _, _ => exact wb_cod_177
  | 178, _, _ => exact wb_cod_178
  | 179, _, _ => exact wb_cod_179
  | 180, _, _ => exact wb_cod_180
  | 181, _, _ => exact wb_cod_181
  | 182, _, _ => exact wb_cod_182
  | 183, _, _ => exact wb_cod_183
  | 184, _, _ => exact wb_cod_184
  | 185, _, _ => exact wb_cod_185
  | 186, _, _ => exact wb_cod_186
  | 187, _, _ => exact wb_cod_187
  | 188, _, _ => exact wb_cod_188
  | 189, _, _ => exact wb_cod_189
  | 190, _, _ => exact wb_cod_190
  | 191, _, _ => exact wb_cod_191
  | 192, _, _ => exact wb_cod_192
  | 193, _, _ => exact wb_cod_193
  | 194, _, _ => exact wb_cod_194
  | 195, _, _ => exact wb_cod_195
  | 196, _, _ => exact wb_cod_196
  | 197, _, _ => exact wb_cod_197
  | 198, _, _ => exact wb_cod_198
  | 199, _, _ => exact wb_cod_199
  | 200, _, _ => exact wb_cod_200
  | 201, _, _ => exact wb_cod_201
  | 202, _, _ => exact wb_cod_202
  | 203, _, _ => exact wb_cod_203
  | 204, _, _ => exact wb_cod_204
  | 205, _, _ => exact wb_cod_205
  | 206, _, _ => exact wb_cod_206
  | 207, _, _ => exact wb_cod_207
  | 208, _, _ => exact wb_cod_208
  | 209, _, _ => exact wb_cod_209
  | 210, _, _ => exact wb_cod_210
  | 211, _, _ => exact wb_cod_211
  | 212, _, _ => exact wb_cod_212
  | 213, _, _ => exact wb_cod_213
  | 214, _, _ => exact wb_cod_214
  | 215, _, _ => exact wb_cod_215
  | 216, _, _ => exact wb_cod_216
  | 217, _, _ => exact wb_cod_217
  | 218, _, _ => exact wb_cod_218
  | 219, _, _ => exact wb_cod_219
  | 220, _, _ => exact wb_cod_220
  | 221, _, _ => exact wb_cod_221
  | 222, _, _ => exact wb_cod_222
  | 223, _, _ => exact wb_cod_223
  | 224, _, _ => exact wb_cod_224
  | 225, _, _ => exact wb_cod_225
  | 226, _, _ => exact wb_cod_226
  | 227, _, _ => exact wb_cod_227
  | 228, _, _ => exact wb_cod_228
  | 229, _, _ => exact wb_cod_229
  | 230, _, _ => exact wb_cod_230
  | 231, _, _ => exact wb_cod_231
  | 232, _, _ => exact wb_cod_232
  | 233, _, _ => exact wb_cod_233
  | 234, _, _ => exact wb_cod_234
  | 235, _, _ => exact wb_cod_235
  | 236, _, _ => exact wb_cod_236
  | 237, _, _ => exact wb_cod_237
  | 238, _, _ => exact wb_cod_238
  | 239, _, _ => exact wb_cod_239
  | 240, _, _ => exact wb_cod_240
  | 241, _, _ => exact wb_cod_241
  | 242, _, _ => exact wb_cod_242
  | 243, _, _ => exact wb_cod_243
  | 244, _, _ => exact wb_cod_244
  | 245, _, _ => exact wb_cod_245
  | 246, _, _ => exact wb_cod_246
  | 247, _, _ => exact wb_cod_247
  | 248, _, _ => exact wb_cod_248
  | 249, _, _ => exact wb_cod_249
  | 250, _, _ => exact wb_cod_250
  | 251, _, _ => exact wb_cod_251
  | 252, _, _ => exact wb_cod_252
  | 253, _, _ => exact wb_cod_253
  | 254, _, _ => exact wb_cod_254
  | 255, _, _ => exact wb_cod_255
  | 256, _, _ => exact wb_cod_256
  | 257, _, _ => exact wb_cod_257
  | 258, _, _ => exact wb_cod_258
  | 259, _, _ => exact wb_cod_259
  | 260, _, _ => exact wb_cod_260
  | 261, _, _ => exact wb_cod_261
  | 262, _, _ => exact wb_cod_262
  | 263, _, _ => exact wb_cod_263
  | 264, _, _ => exact wb_cod_264
  | 265, _, _ => exact wb_cod_265
  | 266, _, _ => exact wb_cod_266
  | 267, _, _ => exact wb_cod_267
  | 268, _, _ => exact wb_cod_268
  | 269, _, _ => exact wb_cod_269
  | 270, _, _ => exact wb_cod_270
  | 271, _, _ => exact wb_cod_271
  | 272, _, _ => exact wb_cod_272
  | 273, _, _ => exact wb_cod_273
  | 274, _, _ => exact wb_cod_274
  | 275, _, _ => exact wb_cod_275
  | 276, _, _ => exact wb_cod_276
  | 277, _, _ => exact wb_cod_277
  | 278, _, _ => exact wb_cod_278
  | 279, _, _ => exact wb_cod_279
  | 280, _, _ => exact wb_cod_280
  | 281, _, _ => exact wb_cod_281
  | 282, _, _ => exact wb_cod_282
  | 283, _, _ => exact wb_cod_283
  | 0, h1, _ => exact absurd h1 (by decide)
  | 1, h1, _ => exact absurd h1 (by decide)
  | k + 284, _, h2 => exact absurd h2 (by omega)
end
section
/-! Calls and returns. -/
def wb_ws (y : Nat) : List Cond := Cond.code (wb_y y) (wb_b y) (wb_pn y) (wb_r y) :: wb_TB
def wb_rm (y : Nat) : Room := { frames := wb_nf y, cells := wb_mc y, slots := wb_ms y, locals := wb_nl y }
theorem wb_TB_good {w : Cond} (h : w ∈ wb_TB) : (w.onTables && w.keeps) = true ∨ ∃ ty, w = .arrayClass ty := good_of_word (List.mem_filter.mp h).2
theorem wb_goodIn {y : Nat} (h : Cond.code (wb_y y) (wb_b y) (wb_pn y) (wb_r y) ∈ wb_TB) : GoodIn wb_TB (wb_ws y) := by
  intro w hw
  rcases List.mem_cons.mp hw with e | hw
  · subst e; exact ⟨h, wb_TB_good h⟩
  · exact ⟨hw, wb_TB_good hw⟩
theorem wb_pop_ok : ∀ (k : Nat) (acc st : List wb_V) (as st' : List wb_V), wb_pop k acc st = some (as, st') → ∃ bs, bs.length = k ∧ as = bs ++ acc ∧ st = bs.reverse ++ st'
  | 0, acc, st, as, st', h => by
    simp only [wb_pop, Option.some.injEq, Prod.mk.injEq] at h
    exact ⟨[], rfl, h.1.symm, h.2⟩
  | k + 1, acc, [], as, st', h => by cases h
  | k + 1, acc, v :: st, as, st', h => by
    obtain ⟨bs, h1, h2, h3⟩ := wb_pop_ok k (v :: acc) st as st' h
    exact ⟨bs ++ [v], by simp [h1], by simp [h2], by simp [h3]⟩
theorem wb_el_has {rv : Nat → Value} {adr : Nat → Nat → Nat} (hcat : ∀ t, rv t = .null ∨ ∃ a, rv t = .ref a) : ∀ (as : List wb_V) (n i : Nat) (v : wb_V) (k : Nat), wb_g (wb_el as n) k = some v → (i + k, wb_tv rv adr v) ∈ lv_args i (as.map (wb_tv rv adr))
  | _, 0, i, v, k, h => by simp [wb_el, wb_g] at h
  | [], n + 1, i, v, 0, h => by simp [wb_el, wb_g] at h
  | [], n + 1, i, v, k + 1, h => by
    have := wb_el_has (adr := adr) hcat [] n (i + 1) v k (by simpa [wb_el, wb_g] using h)
    simp [lv_args] at this
  | .inr (.inl x) :: as, n + 1, i, v, 0, h => by
    cases n <;> simp [wb_el, wb_g] at h <;> (subst h; exact List.mem_cons_self)
  | .inr (.inl x) :: as, 1, i, v, k + 1, h => by simp [wb_el, wb_g] at h
  | .inr (.inl x) :: as, n + 2, i, v, 1, h => by simp [wb_el, wb_g] at h
  | .inr (.inl x) :: as, n + 2, i, v, k + 2, h => by
    have := wb_el_has (adr := adr) hcat as n (i + 2) v k (by simpa [wb_el, wb_g] using h)
    refine List.mem_cons_of_mem _ ?_
    have e : (if (Value.long x).category = 2 then i + 2 else i + 1) = i + 2 := rfl
    rw [show wb_tv rv adr (.inr (.inl x)) = .long x from rfl, e, show i + (k + 2) = i + 2 + k by omega]
    exact this
  | .inl x :: as, n + 1, i, v, 0, h => by
    simp [wb_el, wb_g] at h
    subst h
    exact List.mem_cons_self
  | .inl x :: as, n + 1, i, v, k + 1, h => by
    have := wb_el_has (adr := adr) hcat as n (i + 1) v k (by simpa [wb_el, wb_g] using h)
    refine List.mem_cons_of_mem _ ?_
    have e : (if (Value.int x).category = 2 then i + 2 else i + 1) = i + 1 := rfl
    rw [show wb_tv rv adr (.inl x) = .int x from rfl, e, show i + (k + 1) = i + 1 + k by omega]
    exact this
  | .inr (.inr r) :: as, n + 1, i, v, 0, h => by
    simp [wb_el, wb_g] at h
    subst h
    exact List.mem_cons_self
  | .inr (.inr r) :: as, n + 1, i, v, k + 1, h => by
    have := wb_el_has (adr := adr) hcat as n (i + 1) v k (by simpa [wb_el, wb_g] using h)
    refine List.mem_cons_of_mem _ ?_
    have e : (if (wb_tv rv adr (.inr (.inr r))).category = 2 then i + 2 else i + 1) = i + 1 := by
      rw [if_neg]
      rw [wb_cat1 hcat]; decide
    rw [e, show i + (k + 1) = i + 1 + k by omega]
    exact this
theorem wb_sl_len {rv : Nat → Value} {adr : Nat → Nat → Nat} (hcat : ∀ t, rv t = .null ∨ ∃ a, rv t = .ref a) : ∀ as : List wb_V, (lg_sl (as.map (wb_tv rv adr))).length = wb_rw as
  | [] => rfl
  | v :: as => by
    have ih := wb_sl_len (adr := adr) hcat as
    simp only [lg_sl, wb_rw, List.map_cons, List.flatMap_cons, List.length_append, List.sum_cons] at ih ⊢
    rw [ih]
    congr 1
    match v with
    | .inl _ => rfl
    | .inr (.inl _) => rfl
    | .inr (.inr r) =>
      rw [if_neg]
      · rfl
      · rw [wb_cat1 hcat]; decide
section WBC
variable {p : Program} {l : Launch} {e : Env} {R : Room} {s : State} {mth : MethodId} {args : Array Value} {below : List Frame} {meth : Method} {c : Code} {Q : State → Prop}
variable {fz : Bool} {sc : wb_X} {m pc : Nat} {rv : Nat → Value} {A : Nat → Prop} {D : va_G} {adr0 : Nat → Nat → Nat} {L0 : List (Nat × Nat)} {x : List Nat} {ls : wb_L} {st : List wb_V} {h : wb_H} {n : wb_N} {c' : wb_C}
variable {adr : Nat → Nat → Nat} {cA : Nat → Nat → ClassId} {L : List (Nat × Nat)} {cn : Nat → Nat} {H : Heap}
theorem wb_rep_moved {U : State} (hv : s.vm.Alike U.vm) (hR : wb_rep fz D adr cA L cn h A H s) : wb_rep fz D adr cA L cn h A H U :=
  ⟨hR.1, hR.2.1, hR.2.2.1, va_K.moved hv hR.2.2.2.1, fun t o hm hk => ⟨arrOfT_moved hv (hR.2.2.2.2 t o hm hk).1, (hR.2.2.2.2 t o hm hk).2.moved hv⟩⟩
theorem wb_rep_mono {B : Nat → Prop} (hAB : ∀ q, A q → B q) (hR : wb_rep fz D adr cA L cn h A H s) : wb_rep fz D adr cA L cn h B H s :=
  ⟨hR.1, hR.2.1, hR.2.2.1.weaken (fun _ _ _ z => hAB _ z), hR.2.2.2.1, hR.2.2.2.2⟩
theorem wb_rep_self {sz : Nat} (hR : wb_rep fz D adr cA L cn h A H s) : wb_rep fz D adr cA L cn h (va_A (wb_wd fz adr cA h L) sz) H s :=
  ⟨hR.1, hR.2.1, hR.2.2.1.self, hR.2.2.2.1, hR.2.2.2.2⟩
theorem wb_RO_same {U V : State} {B : Nat → Prop} (hv : V.vm = U.vm) (hh : V.heap = U.heap) (h : wb_RO sc rv B U) : wb_RO sc rv B V := by
  have ha : U.vm.Alike V.vm := by rw [hv]; exact Vm.Alike.refl _
  obtain ⟨h0, h1, h2, h3, h4, h5, h6, h7, h8, h9, h10, h11, h12⟩ := h
  refine ⟨h0, fun t q h => ?_, fun t q h => ?_, fun t ht => ?_, fun a ha => (h4 a ha).same hv, fun a ha => (h5 a ha).same hv, ?_, ?_, ?_, ?_, ?_, fun w hw hn => wb_Nw_same hn hv.symm (h11 w hw hn), h12.moved ha⟩
  · obtain ⟨a, e, g⟩ := h1 t q h
    exact ⟨a, e, by rw [hh]; exact g.moved ha⟩
  · obtain ⟨a, e, g⟩ := h2 t q h
    exact ⟨a, e, by rw [hh]; exact g.moved ha⟩
  · obtain ⟨a, e, g1, g2, g3⟩ := h3 t ht
    exact ⟨a, e, by rw [hh]; exact g1.moved ha, by rw [hh]; exact g2.moved ha, by rw [hh]; exact g3.moved ha⟩
  all_goals rw [hh]
  · exact h6.moved ha
  · exact h7.moved ha
  · exact h8.moved ha
  · exact h9.moved ha
  · exact h10.moved ha
/-- a method's start -/
def wb_Pc (fz : Bool) (sc : wb_X) (rv : Nat → Value) (D : va_G) (adr : Nat → Nat → Nat) (cA : Nat → Nat → ClassId) (L : List (Nat × Nat)) (cn : Nat → Nat) (h : wb_H) (H : Heap) (as : List wb_V) : Array Value → State → Prop :=
  va_Pc (as.map (wb_tv rv adr)) (fun U => U.heap = H ∧ wb_rep fz D adr cA L cn h (va_A (wb_wd fz adr cA h L) H.size) H U ∧ wb_RO sc rv (va_A (wb_wd fz adr cA h L) H.size) U)
/-- a method's end -/
def wb_Qc (fz : Bool) (rv : Nat → Value) (D : va_G) (adr : Nat → Nat → Nat) (cA : Nat → Nat → ClassId) (L : List (Nat × Nat)) (h : wb_H) (H : Heap) (r : wb_R) : Array Value → State → Outcome → State → Prop := fun _ st o t =>
  (∃ (adr' : Nat → Nat → Nat) (cA' : Nat → Nat → ClassId) (L' : List (Nat × Nat)), o = .returned (r.1.map (wb_tv rv adr')) ∧ wb_rep fz D adr' cA' L' r.2.2.1 r.2.1 (va_A (wb_wd fz adr cA h L) H.size) t.heap t ∧ (∀ q ∈ L, q ∈ L' ∧ adr' q.1 q.2 = adr q.1 q.2) ∧ (fz = true → adr' = adr)) ∧ va_F (va_A (wb_wd fz adr cA h L) H.size) st t
def wb_Met (l : Launch) (fz : Bool) (sc : wb_X) (D : va_G) (y : Nat) (as : List wb_V) (h : wb_H) (cn : Nat → Nat) (r : wb_R) : Prop :=
  ∀ (rv : Nat → Value) (adr : Nat → Nat → Nat) (cA : Nat → Nat → ClassId) (L : List (Nat × Nat)) (H : Heap), Met l (wb_y y) (wb_ws y) (wb_rm y) (wb_Pc fz sc rv D adr cA L cn h H as) (wb_Qc fz rv D adr cA L h H r) (wb_mc y) (wb_ms y) (va_A (wb_wd fz adr cA h L) H.size)
theorem wb_Pc_blind {as : List wb_V} : FrameBlind (wb_Pc fz sc rv D adr cA L cn h H as) := fun a U g mk q => by
  obtain ⟨q1, q2, q3, q4⟩ := q
  exact ⟨q1, q2, wb_rep_moved (Vm.Alike.refl _) q3, wb_RO_same (U := U) (V := U.calling g mk a) rfl rfl q4⟩
theorem wb_Pc_at {as : List wb_V} {locs : List Loc} (hR : wb_rep fz D adr cA L cn h A H s) (hro : wb_RO sc rv A s) (hA : ∀ q, s.heap.size ≤ q → A q) (hS : va_S A s.heap H locs) (U : State) (hU : U.heap = H) (hW : s.WarmedH U.vm) : wb_Pc fz sc rv D adr cA L cn h H as (as.map (wb_tv rv adr)).toArray U :=
  ⟨rfl, hU, wb_rep_moved hW.alike (wb_rep_self hR), hro.call hS hU hW (fun q hq => by
    rcases hq with ⟨k, en, hk⟩ | hq
    · exact hR.2.2.1.2 k (q, en) hk
    · exact hA q (Nat.le_trans hS.1 hq))⟩
theorem wb_vok_ext {adr' : Nat → Nat → Nat} (hm : ∀ t o, (t, o) ∈ L ↔ 10 ≤ t ∧ o < cn t) (he : ∀ q ∈ L, adr' q.1 q.2 = adr q.1 q.2) {v : wb_V} (hv : wb_vok cn v = true) : wb_tv rv adr' v = wb_tv rv adr v := by
  match v, hv with
  | .inl x, _ => rfl
  | .inr (.inl x), _ => rfl
  | .inr (.inr (t', o')), hv =>
    simp only [wb_tv]
    by_cases h10 : t' < 10
    · rw [if_pos h10, if_pos h10]
    · rw [if_neg h10, if_neg h10]
      simp only [wb_vok, Bool.or_eq_true, decide_eq_true_eq] at hv
      rw [he (t', o') ((hm t' o').mpr ⟨by omega, by omega⟩)]
theorem wb_aok_ext {adr' : Nat → Nat → Nat} (hm : ∀ t o, (t, o) ∈ L ↔ 10 ≤ t ∧ o < cn t) (he : ∀ q ∈ L, adr' q.1 q.2 = adr q.1 q.2) : ∀ {st : List wb_V}, wb_aok cn st = true → st.map (wb_tv rv adr') = st.map (wb_tv rv adr)
  | [], _ => rfl
  | v :: st, h => by
    simp only [wb_aok, Bool.and_eq_true] at h
    rw [List.map_cons, List.map_cons, wb_vok_ext hm he h.1, wb_aok_ext hm he h.2]
/-- behind a call -/
theorem wb_after {y : Nat} {as : List wb_V} {r : wb_R} {locs : List Loc} {J : Array Slot} {st0 : List Value} {a : Array Value} {st' st2 : List wb_V} {kd : Nat}
    (hA : ∀ q, s.heap.size ≤ q → A q) (hR : wb_rep fz D adr cA L n.1 h A H s) (hxt : (∀ q ∈ L0, q ∈ L ∧ adr q.1 q.2 = adr0 q.1 q.2) ∧ (fz = true → adr = adr0)) (hl : wb_lc (wb_tv rv adr) ls J (wb_pn m)) (hS : va_S A s.heap H locs) (hok : wb_fok fz n.1 ls st' = true) (hfz : fz = true → r.2.2.1 = n.1)
    (hk : wb_rk kd r.1 st' = some st2) (G : wb_G p l e R s mth args below meth c Q fz m rv A D adr0 L0 (pc + 3, ls, st2, r.2.1, wb_nn fz n r.2.2 y))
    (hmc : fz = true → n.2.1 + wb_mc y = n.2.1 ∧ n.2.2 + wb_ms y = n.2.2)
    (hr : va_Run p l e R s mth args below meth c H locs n.2.1 n.2.2 (wb_mc y) (wb_ms y) (F0 mth pc J st0) (st'.map (wb_tv rv adr)) (wb_Qc fz rv D adr cA L h H r a) (va_A (wb_wd fz adr cA h L) H.size)) :
    W p l e R s mth args below meth c H locs n.2.1 n.2.2 Q (F0 mth pc J st0) := by
  intro T hT X
  obtain ⟨v, st₀, t, T', Lc, h0, X', hL, e1, e2, ⟨⟨adr', cA', L', hv, hR', hext, hfa⟩, hF⟩, st⟩ := hr T hT X
  have hv : v = r.1.map (wb_tv rv adr') := by injection hv
  have hA1 : ∀ q, va_A (wb_wd fz adr cA h L) H.size q → A q := fun q hq => by
    rcases hq with ⟨k, en, hk⟩ | hq
    · exact hR.2.2.1.2 k (q, en) hk
    · exact hA q (Nat.le_trans hS.1 hq)
  unfold va_F at hF
  rw [h0] at hF
  have hvm : s.vm.Alike t.vm := by rw [← e2]; exact X'.warmed.alike
  have hR2 : wb_rep fz D adr' cA' L' r.2.2.1 r.2.1 A t.heap s := wb_rep_mono hA1 (wb_rep_moved hvm.symm hR')
  have hn1 : (wb_nn fz n r.2.2 y).1 = r.2.2.1 := by
    cases fz with
    | true => exact (hfz rfl).symm
    | false => rfl
  have hn2 : (wb_nn fz n r.2.2 y).2.1 = n.2.1 + wb_mc y ∧ (wb_nn fz n r.2.2 y).2.2 = n.2.2 + wb_ms y := by
    cases fz with
    | true => exact ⟨(hmc rfl).1.symm, (hmc rfl).2.symm⟩
    | false => exact ⟨rfl, rfl⟩
  have hlc : wb_lc (wb_tv rv adr') ls J (wb_pn m) := by
    cases fz with
    | true => rw [hfa rfl]; exact hl
    | false =>
      simp only [wb_fok, Bool.and_eq_true] at hok
      exact ⟨hl.1, hl.2.1, fun k w hw => by rw [wb_vok_ext hR.1.2.1 (fun q hq => (hext q hq).2) (wb_lok_g hok.1 hw)]; exact hl.2.2 k w hw⟩
  have hst : st'.map (wb_tv rv adr') = st'.map (wb_tv rv adr) := by
    cases fz with
    | true => rw [hfa rfl]
    | false =>
      simp only [wb_fok, Bool.and_eq_true] at hok
      exact wb_aok_ext hR.1.2.1 (fun q hq => (hext q hq).2) hok.2
  have hst2 : v.toList ++ st'.map (wb_tv rv adr) = st2.map (wb_tv rv adr') := by
    rw [hv, ← hst]
    unfold wb_rk at hk
    split at hk
    · rename_i e; rw [e]; cases hk; rfl
    · rename_i e; rw [e]; cases hk; rfl
    · rename_i e; rw [e]; cases hk; rfl
    · rename_i k0 r0 e
      rw [e]
      cases hb0 : (Nat.beq r0.1 k0 && Nat.beq r0.2 0) with
      | false => rw [hb0] at hk; cases hk
      | true =>
        rw [hb0] at hk
        cases hk
        rw [Bool.and_eq_true] at hb0
        obtain ⟨t0, o0⟩ := r0
        have q1 : t0 = k0 := Nat.eq_of_beq_eq_true hb0.1
        have q2 : o0 = 0 := Nat.eq_of_beq_eq_true hb0.2
        subst q1; subst q2
        rfl
    · cases hk
  have G1 := G adr' cA' L' t.heap (locs ++ Lc) J (by show wb_rep fz D adr' cA' L' (wb_nn fz n r.2.2 y).1 r.2.1 A t.heap s; rw [hn1]; exact hR2)
    ⟨fun q hq => ⟨(hext q (hxt.1 q hq).1).1, (hext q (hxt.1 q hq).1).2.trans (hxt.1 q hq).2⟩, fun q => (hfa q).trans (hxt.2 q)⟩ hlc
    ⟨Nat.le_trans hS.1 hF.1, fun q g1 g2 => by rw [hF.2 q (Nat.lt_of_lt_of_le g1 hS.1) (fun z => g2 (hA1 q z))]; exact hS.2.1 q g1 g2, fun q hq => by
      rcases List.mem_append.mp hq with g | g
      · exact hS.2.2 q g
      · exact hA1 _ (hL q g)⟩
  simp only [hn2.1, hn2.2, ← hst2] at G1
  obtain ⟨t2, a1, b1⟩ := G1 T' e1 X'
  exact ⟨t2, st t2 a1, b1⟩
def wb_cky (m idx : Nat) (i : Instr) (x : List Nat) : Bool := match x with
  | [y, k, _, ci, lk, code, ini, sec, sel, nest] =>
    Nat.ble 2 y && Nat.blt y 284 && Nat.blt y wb_NM && wb_at ini (.initialized (wb_y y).cls) &&
    (match nest with
      | 0 => wb_at lk (.methodLink (wb_y m).cls idx (wb_y y))
      | _ => wb_atn lk (.methodLinkNest (wb_y m).cls idx (wb_y y) "WhichBin")) &&
    decide ((wb_y y).cls ≠ "java/lang/invoke/MethodHandle" ∧ (wb_y y).cls ≠ "java/lang/invoke/VarHandle") &&
    decide (wb_nf y + 1 ≤ wb_nf m ∧ 8 + (wb_pn y + 11) + wb_nl y ≤ wb_nl m) &&
    (match i with
      | .invokestatic _ => wb_at sec (.static (wb_y y)) && decide ((parseMethodDescriptor (wb_y y).desc).map (fun d => d.parameters.length) = some k)
      | .invokevirtual _ => wb_at sec (.instanceMethod (wb_y y)) && wb_at sel (.selects (wb_y y).cls (wb_y y) (wb_y y)) && decide ((parseMethodDescriptor (wb_y y).desc).map (fun d => d.parameters.length + 1) = some k) &&
        ((Nat.beq ci 100 && decide ((wb_y y).cls = "java/lang/String")) || (Nat.blt ci 12 && decide ((wb_cls[ci]?).map (fun q => q.1) = some (wb_y y).cls)))
      | .invokespecial _ => wb_at sec (.instanceMethod (wb_y y)) && decide ((wb_y y).name = "<init>") && decide (wb_r y = none) && decide ((parseMethodDescriptor (wb_y y).desc).map (fun d => d.parameters.length + 1) = some k) && Nat.beq ci 201
      | _ => false)
  | _ => false
end WBC
end
section
/-! A run of the plain machine is a run of the JVM. -/
section WBS
variable {p : Program} {l : Launch} {e : Env} {R : Room} {s : State} {mth : MethodId} {args : Array Value} {below : List Frame} {meth : Method} {c : Code} {Q : State → Prop}
variable {fz : Bool} {sc : wb_X} {m pc : Nat} {rv : Nat → Value} {A : Nat → Prop} {D : va_G} {adr0 : Nat → Nat → Nat} {L0 : List (Nat × Nat)} {x : List Nat} {ls : wb_L} {st : List wb_V} {h : wb_H} {n : wb_N} {c' : wb_C}
variable {adr : Nat → Nat → Nat} {cA : Nat → Nat → ClassId} {L : List (Nat × Nat)} {cn : Nat → Nat} {H : Heap}
theorem wb_ca_inv {q : wb_K} {b : Bool × (Nat × (Nat × (wb_L × List wb_V)))} {y : Nat} {as : List wb_V} {h1 : wb_H} {n1 : wb_N} (ha : wb_ca fz m pc x ls st h n = .inr (.inl ((y, as, h1, n1), b))) :
    ∃ k kd ci x' st', x = y :: k :: kd :: ci :: x' ∧ 2 ≤ y ∧ wb_pop k [] st = some (as, st') ∧ h1 = h ∧ n1 = n ∧ wb_rw st' ≤ 8 ∧ wb_rw as ≤ wb_pn y ∧
      b = ((wb_fok fz n.1 ls st' && wb_fo2 fz n.1 as y && decide (n.2.1 + wb_mc y ≤ wb_mc m) && decide (n.2.2 + wb_ms y ≤ wb_ms m)) && wb_rc n.1 ci as, kd, pc + 3, ls, st') := by
  unfold wb_ca at ha
  split at ha
  · split at ha
    · split at ha <;> cases ha
    · cases ha
  · split at ha
    · split at ha <;> cases ha
    · cases ha
  · rename_i y' k kd ci x' h0 h1'
    split at ha
    · rename_i as' st' hpop
      split at ha
      · rename_i hrw
        simp only [Bool.and_eq_true, decide_eq_true_eq] at hrw
        cases ha
        refine ⟨k, kd, ci, x', st', rfl, ?_, hpop, rfl, rfl, hrw.1, hrw.2, rfl⟩
        cases y with
        | zero => exact (h0 rfl).elim
        | succ y =>
          cases y with
          | zero => exact (h1' rfl).elim
          | succ y => omega
      · cases ha
    · cases ha
  · cases ha
set_option maxHeartbeats 4000000 in
/-- a call, by the callee's contract -/
theorem wb_o_call {i : Instr} {idx : Nat} (hi : i = .invokestatic idx ∨ i = .invokevirtual idx ∨ i = .invokespecial idx) (F : wb_fr p R s mth args meth c m A) (hd : decode (wb_b m) pc = .ok (i, 3)) (hck : wb_cky m idx i x = true) (hro : wb_RO sc rv A s)
    {y kd p' : Nat} {as st' st2 : List wb_V} {h1 : wb_H} {n1 : wb_N} {b : Bool} {ls' : wb_L} (ha : wb_ca fz m pc x ls st h n = .inr (.inl ((y, as, h1, n1), b, kd, p', ls', st'))) (hb : b = true) {r : wb_R} (hM : wb_Met l fz sc D y as h1 n1.1 r) (hfz : fz = true → r.2.2.1 = n.1)
    (hk : wb_rk kd r.1 st' = some st2) (G : wb_G p l e R s mth args below meth c Q fz m rv A D adr0 L0 (p', ls', st2, r.2.1, wb_nn fz n1 r.2.2 y)) : wb_G p l e R s mth args below meth c Q fz m rv A D adr0 L0 (pc, ls, st, h, n) := by
  obtain ⟨hx, hbb, hts, hown, hml, hA, hin, hnf, hnl, hnc, hns⟩ := F
  obtain ⟨k, kd', ci, x', st'', rfl, hy2, hpop, rfl, rfl, hrw, hra, hbe⟩ := wb_ca_inv (q := ((y, as, h1, n1), b, kd, p', ls', st')) ha
  cases hbe
  simp only [Bool.and_eq_true, decide_eq_true_eq] at hb
  obtain ⟨⟨⟨⟨hok, hf2⟩, hcc⟩, hss⟩, hrc⟩ := hb
  intro adr cA L H locs J hR hxt hl hS
  replace hR : wb_rep fz D adr cA L n1.1 h1 A H s := hR
  have hcat := hro.1
  have hmc : fz = true → n1.2.1 + wb_mc y = n1.2.1 ∧ n1.2.2 + wb_ms y = n1.2.2 := by
    intro q
    subst q
    simp only [wb_fo2, Bool.and_eq_true] at hf2
    have q1 := Nat.eq_of_beq_eq_true hf2.1
    have q2 := Nat.eq_of_beq_eq_true hf2.2
    omega
  obtain ⟨bs, hbl, hbs, hst⟩ := wb_pop_ok k [] st as st' hpop
  rw [List.append_nil] at hbs
  subst hbs
  have hS' : CallFix p mth c (wb_b m) (wb_pn m) s args wb_TB (wb_y m).cls := ⟨hx, hbb, hml, hown, hts⟩
  unfold wb_cky at hck
  split at hck
  · rename_i y' k' kd'' ci' lk code ini sec sel nest e
    cases e
    simp only [Bool.and_eq_true, decide_eq_true_eq] at hck
    obtain ⟨⟨⟨⟨⟨⟨⟨hy2', hy3⟩, -⟩, wini⟩, wlk⟩, hcls⟩, hroom⟩, hrest⟩ := hck
    have hG := wb_goodIn (wb_cod y hy2 (Nat.lt_of_succ_le (Nat.le_of_ble_eq_true hy3)))
    have hini := hts _ (wb_at_in wini)
    have hroom2 : (wb_rm y).frames + 1 ≤ R.frames ∧ 8 + (wb_pn y + 11) + (wb_rm y).locals ≤ R.locals := ⟨Nat.le_trans hroom.1 hnf, Nat.le_trans hroom.2 hnl⟩
    have hmap : st.map (wb_tv rv adr) = (as.map (wb_tv rv adr)).reverse ++ st'.map (wb_tv rv adr) := by rw [hst, List.map_append, List.map_reverse]
    have hWr : ((st'.map (wb_tv rv adr)).map fun v => v.category).sum ≤ 8 := by rw [wb_rw_sum hcat]; exact hrw
    have hff : n1.2.1 + wb_mc y ≤ R.cells ∧ n1.2.2 + wb_ms y ≤ R.slots := ⟨Nat.le_trans hcc hnc, Nat.le_trans hss hns⟩
    have hPs := wb_Pc_at (as := as) hR hro hA hS
    rcases hi with rfl | rfl | rfl
    · simp only [Bool.and_eq_true, decide_eq_true_eq] at hrest
      have hstt := hts _ (wb_at_in hrest.1)
      have hpre : PreS s H (wb_Pc fz sc rv D adr cA L n1.1 h1 H as) (as.map (wb_tv rv adr)) := ⟨wb_Pc_blind, hPs⟩
      have hlen : (as.map (wb_tv rv adr)).length = k := by rw [List.length_map, hbl]
      rw [show (pc, ls, st, h1, n1).2.2.1 = st from rfl, hmap]
      refine wb_after (y := y) (as := []) hA hR hxt hl hS hok hfz hk G hmc (a := (as.map (wb_tv rv adr)).toArray) ?_
      cases nest with
      | zero => exact va_runS hS' (hM rv adr cA L H) ⟨callB_of k hts hG rfl rfl rfl hini (hts _ (wb_at_in wlk)) ⟨hcls.1, hcls.2, hrest.2⟩ hroom2, hstt⟩ hpre rfl hlen hl.1 rfl (lv_room hWr) hd hff
      | succ nest => exact va_runSN hS' (hM rv adr cA L H) ⟨va_cnB k hts hG rfl rfl rfl (wb_atn_in wlk hro) hini ⟨hcls.1, hcls.2, hrest.2⟩ hroom2, hstt, trivial⟩ hpre rfl hlen hl.1 rfl (lv_room hWr) hd hff
    · simp only [Bool.and_eq_true, Bool.or_eq_true, decide_eq_true_eq] at hrest
      obtain ⟨⟨⟨wsec, wsel⟩, hpar⟩, hci⟩ := hrest
      obtain ⟨t, o, as', rfl, hrecv⟩ : ∃ t o as', as = .inr (.inr (t, o)) :: as' ∧ ∃ bb, wb_tv rv adr (.inr (.inr (t, o))) = .ref bb ∧ ∃ cellB : Cell, H[bb]? = some cellB ∧ cellB.vm.isStatics = false ∧ s.vm.findClass (wb_y y).cls = some cellB.cls := by
        rcases hci with ⟨q1, q2⟩ | ⟨q1, q2⟩
        · have q1 := Nat.eq_of_beq_eq_true q1
          subst q1
          match as, hrc with
          | .inr (.inr (t, o)) :: as', hrc =>
            replace hrc : (Nat.beq t 5 || Nat.beq t 6) = true := hrc
            simp only [Bool.or_eq_true] at hrc
            have ht : t = 5 ∨ t = 6 := hrc.imp Nat.eq_of_beq_eq_true Nat.eq_of_beq_eq_true
            obtain ⟨a, ha1, ⟨cell, g1, g2, g3, g4⟩, -⟩ := hro.2.2.2.1 t ht
            refine ⟨t, o, as', rfl, a, wb_tvro (by omega) ha1, cell, ?_, g2, by rw [q2]; exact g3⟩
            rw [hS.2.1 a (Array.getElem?_eq_some_iff.mp g1).1 g4]; exact g1
          | [], hrc => cases hrc
          | .inl _ :: _, hrc => cases hrc
          | .inr (.inl _) :: _, hrc => cases hrc
        · have q1 : ci < 12 := Nat.lt_of_succ_le (Nat.le_of_ble_eq_true q1)
          unfold wb_rc at hrc
          split at hrc
          · omega
          · omega
          · omega
          · rename_i t o as' _ _ _
            simp only [Bool.and_eq_true, decide_eq_true_eq] at hrc
            have hsh : wb_shp t = (0, ci) := Prod.ext (Nat.eq_of_beq_eq_true hrc.1) (Nat.eq_of_beq_eq_true hrc.2.1)
            obtain ⟨ht10, -, -⟩ := wb_tag_obj hsh
            obtain ⟨i0, hi0, hwd⟩ := wb_rep_at hR ht10 hrc.2.2
            rw [wb_ent_obj hsh] at hwd
            obtain ⟨C, T, N, hcl, -, -⟩ := wb_cls_at q1
            rw [hcl] at q2
            simp only [Option.map_some, Option.some.injEq] at q2
            obtain ⟨cell, g1, g2, g3⟩ := va_recv hR.2.2.2.1 hR.2.1 hcl hwd
            exact ⟨t, o, as', rfl, _, wb_tvr ht10, cell, g1, g2, by rw [← q2]; exact g3⟩
          · cases hrc
      obtain ⟨bb, hbb2, hrecv⟩ := hrecv
      have hinst := hts _ (wb_at_in wsec)
      have hsel := hts _ (wb_at_in wsel)
      have hm2 : (Sum.inr (Sum.inr (t, o)) :: as' : List wb_V).map (wb_tv rv adr) = .ref bb :: as'.map (wb_tv rv adr) := by rw [List.map_cons, hbb2]
      rw [hm2] at hPs hmap
      have hpre : PreV s H (wb_y y).cls bb (wb_Pc fz sc rv D adr cA L n1.1 h1 H (.inr (.inr (t, o)) :: as')) (as'.map (wb_tv rv adr)) := ⟨wb_Pc_blind, hrecv, hPs⟩
      have hlen : (as'.map (wb_tv rv adr)).length = k - 1 := by rw [List.length_map]; simp only [List.length_cons] at hbl; omega
      have hpar2 : (parseMethodDescriptor (wb_y y).desc).map (fun d => d.parameters.length) = some (k - 1) := by
        cases hq : parseMethodDescriptor (wb_y y).desc with
        | none => rw [hq] at hpar; cases hpar
        | some d =>
          rw [hq] at hpar
          simp only [Option.map_some, Option.some.injEq] at hpar ⊢
          omega
      rw [show (pc, ls, st, h1, n1).2.2.1 = st from rfl, hmap]
      refine wb_after (y := y) (as := []) hA hR hxt hl hS hok hfz hk G hmc (a := (Value.ref bb :: as'.map (wb_tv rv adr)).toArray) ?_
      have hsk : (Value.ref bb :: as'.map (wb_tv rv adr)).reverse ++ st'.map (wb_tv rv adr) = (as'.map (wb_tv rv adr)).reverse ++ Value.ref bb :: st'.map (wb_tv rv adr) := by simp
      cases nest with
      | zero => exact va_runV hS' (hM rv adr cA L H) ⟨callB_of (k - 1) hts hG rfl rfl rfl hini (hts _ (wb_at_in wlk)) ⟨hcls.1, hcls.2, hpar2⟩ hroom2, hinst, hsel⟩ hpre rfl hlen hl.1 hsk (lv_room hWr) hd hff
      | succ nest => exact va_runVN hS' (hM rv adr cA L H) ⟨va_cnB (k - 1) hts hG rfl rfl rfl (wb_atn_in wlk hro) hini ⟨hcls.1, hcls.2, hpar2⟩ hroom2, hinst, hsel⟩ hpre rfl hlen hl.1 hsk (lv_room hWr) hd hff
    · simp only [Bool.and_eq_true, decide_eq_true_eq] at hrest
      obtain ⟨⟨⟨⟨wsec, hname⟩, hret⟩, hpar⟩, hci⟩ := hrest
      have hci := Nat.eq_of_beq_eq_true hci
      subst hci
      obtain ⟨t, o, as', rfl, ht10⟩ : ∃ t o as', as = .inr (.inr (t, o)) :: as' ∧ 10 ≤ t := by
        match as, hrc with
        | .inr (.inr (t, o)) :: as', hrc => exact ⟨t, o, as', rfl, Nat.le_of_ble_eq_true hrc⟩
        | [], hrc => cases hrc
        | .inl _ :: _, hrc => cases hrc
        | .inr (.inl _) :: _, hrc => cases hrc
      have hinst := hts _ (wb_at_in wsec)
      have hm2 : (Sum.inr (Sum.inr (t, o)) :: as' : List wb_V).map (wb_tv rv adr) = .ref (adr t o) :: as'.map (wb_tv rv adr) := by rw [List.map_cons, wb_tvr ht10]
      rw [hm2] at hPs hmap
      have hpre : PreS s H (wb_Pc fz sc rv D adr cA L n1.1 h1 H (.inr (.inr (t, o)) :: as')) (Value.ref (adr t o) :: as'.map (wb_tv rv adr)) := ⟨wb_Pc_blind, hPs⟩
      have hlen : (as'.map (wb_tv rv adr)).length = k - 1 := by rw [List.length_map]; simp only [List.length_cons] at hbl; omega
      have hpar2 : (parseMethodDescriptor (wb_y y).desc).map (fun d => d.parameters.length) = some (k - 1) := by
        cases hq : parseMethodDescriptor (wb_y y).desc with
        | none => rw [hq] at hpar; cases hpar
        | some d =>
          rw [hq] at hpar
          simp only [Option.map_some, Option.some.injEq] at hpar ⊢
          omega
      rw [show (pc, ls, st, h1, n1).2.2.1 = st from rfl, hmap]
      refine wb_after (y := y) (as := []) hA hR hxt hl hS hok hfz hk G hmc (a := (Value.ref (adr t o) :: as'.map (wb_tv rv adr)).toArray) ?_
      have hsk : (Value.ref (adr t o) :: as'.map (wb_tv rv adr)).reverse ++ st'.map (wb_tv rv adr) = (as'.map (wb_tv rv adr)).reverse ++ Value.ref (adr t o) :: st'.map (wb_tv rv adr) := by simp
      have hMr := hM rv adr cA L H
      have hwsr : wb_ws y = Cond.code (wb_y y) (wb_b y) (wb_pn y) none :: wb_TB := by rw [wb_ws, hret]
      cases nest with
      | zero => exact va_runI hS' hMr ⟨callB_of (k - 1) hts hG hwsr rfl rfl hini (hts _ (wb_at_in wlk)) ⟨hcls.1, hcls.2, hpar2⟩ hroom2, hname, hinst⟩ hpre rfl hlen hl.1 hsk (lv_room hWr) hd hff
      | succ nest => exact va_runIN hS' hMr ⟨va_cnB (k - 1) hts hG hwsr rfl rfl (wb_atn_in wlk hro) hini ⟨hcls.1, hcls.2, hpar2⟩ hroom2, hname, hinst⟩ hpre rfl hlen hl.1 hsk (lv_room hWr) hd hff
  · cases hck
end WBS
end
section
/-! The main theorem: by the check of each entry, a run of the plain machine is a run of the JVM. -/
def wb_ln (i : Instr) (x : List Nat) : Nat := match i with
  | .aload _ => 2 | .iload _ => 2 | .lload _ => 2 | .istore _ => 2 | .lstore _ => 2 | .astore _ => 2 | .bipush _ => 2 | .ldc _ => 2 | .newarray _ => 2
  | .sipush _ => 3 | .ldc_w _ => 3 | .ldc2_w _ => 3 | .iinc _ _ => 3 | .if_icmp _ _ => 3 | .ifCond _ _ => 3 | .goto _ => 3 | .getfield _ => 3 | .putfield _ => 3 | .getstatic _ => 3
  | .invokevirtual _ => 3 | .invokestatic _ => 3 | .invokespecial _ => 3 | .new _ => 3 | .anewarray _ => 3
  | .tableswitch _ _ _ _ => x.headD 0 | .lookupswitch _ _ => x.headD 0
  | _ => 1
def wb_ckj (pc : Nat) (off : Int) (x : List Nat) : Bool := match x with
  | [t] => decide ((pc : Int) + off = (t : Int))
  | _ => false
def wb_ckr (m : Nat) (x : List Nat) : Bool := match x with
  | [0] => decide (wb_r m = some .int)
  | [1] => decide (wb_r m = some .boolean)
  | [2] => decide (wb_r m = some .char)
  | [3] => decide (wb_r m = some .byte)
  | _ => false
def wb_cki2 (m : Nat) (e : Nat × Instr × List Nat) : Bool := match e.2.1 with
  | .istore_n k => decide (k.val < wb_pn m)
  | .astore_n k => decide (k.val < wb_pn m)
  | .lstore_n k => decide (k.val + 1 < wb_pn m)
  | .istore k => decide (k < wb_pn m)
  | .astore k => decide (k < wb_pn m)
  | .lstore k => decide (k + 1 < wb_pn m)
  | .bipush z => decide ((Int8.ofInt z).toInt32 = Int32.ofInt z)
  | .sipush z => decide ((Int16.ofInt z).toInt32 = Int32.ofInt z)
  | .if_icmp _ off => wb_ckj e.1 off e.2.2
  | .ifCond _ off => wb_ckj e.1 off e.2.2
  | .goto off => wb_ckj e.1 off e.2.2
  | .tableswitch d lo hi offs => wb_ckw e.1 d lo hi offs e.2.2
  | .lookupswitch d ps => wb_ckk e.1 d ps e.2.2
  | .getfield idx => wb_ckg m idx e.2.2
  | .putfield idx => wb_ckp m idx e.2.2
  | .getstatic idx => wb_cks m idx e.2.2
  | .ldc idx => wb_ckl m idx e.2.2
  | .ldc_w idx => wb_ckl m idx e.2.2
  | .ldc2_w idx => wb_ck2 m idx e.2.2
  | .new idx => wb_ckn m idx e.2.2
  | .newarray a => wb_ckm a e.2.2
  | .anewarray idx => wb_cka m idx e.2.2
  | .invokespecial idx => wb_cki m idx e.2.2 || wb_cky m idx e.2.1 e.2.2
  | .invokestatic idx => wb_ckx m idx e.2.2 || wb_cky m idx e.2.1 e.2.2
  | .invokevirtual idx => wb_cky m idx e.2.1 e.2.2
  | .ireturn => wb_ckr m e.2.2
  | .lreturn => decide (wb_r m = some .long)
  | .areturn => (match wb_r m with | some (.object _) => true | _ => false)
  | .return_ => decide (wb_r m = none)
  | _ => true
def wb_ck (m : Nat) (e : wb_E) : Bool := decide (decode (wb_b m) e.1 = .ok (e.2.1, wb_ln e.2.1 e.2.2.1)) && wb_cki2 m (e.1, e.2.1, e.2.2.1)
theorem wb_ft_mem : ∀ (cl : List wb_E) (p : Nat) (e : wb_E), wb_ft cl p = some e → e ∈ cl ∧ e.1 = p
  | [], p, e, h => by cases h
  | e0 :: cl, p, e, h => by
    simp only [wb_ft] at h
    cases hb : Nat.beq e0.1 p with
    | true =>
      rw [hb] at h
      simp only [cond_true, Option.some.injEq] at h
      subst h
      exact ⟨List.mem_cons_self, Nat.eq_of_beq_eq_true hb⟩
    | false =>
      rw [hb] at h
      simp only [cond_false] at h
      obtain ⟨h1, h2⟩ := wb_ft_mem cl p e h
      exact ⟨List.mem_cons_of_mem _ h1, h2⟩
section WBM
variable {p : Program} {l : Launch} {e : Env} {R : Room} {s : State} {mth : MethodId} {args : Array Value} {below : List Frame} {meth : Method} {c : Code} {Q : State → Prop}
variable {fz : Bool} {sc : wb_X} {m pc : Nat} {rv : Nat → Value} {A : Nat → Prop} {D : va_G} {adr0 : Nat → Nat → Nat} {L0 : List (Nat × Nat)} {x : List Nat} {ls : wb_L} {st : List wb_V} {h : wb_H} {n : wb_N} {c' : wb_C}
variable {adr : Nat → Nat → Nat} {cA : Nat → Nat → ClassId} {L : List (Nat × Nat)} {cn : Nat → Nat} {H : Heap}
theorem wb_ca_pk {x : List Nat} (hy : ∀ y x', x = y :: x' → 2 ≤ y) (hp : wb_pk (wb_ca fz m pc x ls st h n) = some c') : False := by
  unfold wb_ca at hp
  split at hp
  · exact absurd (hy _ _ rfl) (by omega)
  · exact absurd (hy _ _ rfl) (by omega)
  · split at hp
    · split at hp <;> cases hp
    · cases hp
  · cases hp
theorem wb_cky_y {idx : Nat} {i : Instr} (h : wb_cky m idx i x = true) : ∀ y x', x = y :: x' → 2 ≤ y := by
  intro y x' e
  subst e
  unfold wb_cky at h
  split at h
  · rename_i e
    cases e
    simp only [Bool.and_eq_true] at h
    exact Nat.le_of_ble_eq_true h.1.1.1.1.1.1.1
  · cases h
set_option maxHeartbeats 4000000 in
/-- an instruction that is no call and no return -/
theorem wb_o_all {i : Instr} (F : wb_fr p R s mth args meth c m A) (hd : decode (wb_b m) pc = .ok (i, wb_ln i x)) (hck : wb_cki2 m (pc, i, x) = true) (hro : wb_RO sc rv A s) (hp : wb_pk (wb_st fz sc m pc i x ls st h n) = some c') (G : wb_G p l e R s mth args below meth c Q fz m rv A D adr0 L0 c') : wb_G p l e R s mth args below meth c Q fz m rv A D adr0 L0 (pc, ls, st, h, n) := by
  have hcat := hro.1
  have hrv : ∀ t, 1 ≤ t → t ≠ 9 → t < 10 → ∃ a, rv t = .ref a := by
    intro t h1 h2 h3
    rcases (show t = 1 ∨ t = 2 ∨ t = 3 ∨ t = 4 ∨ t = 5 ∨ t = 6 ∨ t = 7 ∨ t = 8 by omega) with rfl | rfl | rfl | rfl | rfl | rfl | rfl | rfl
    · obtain ⟨a, q, -⟩ := hro.2.1 1 _ rfl; exact ⟨a, q⟩
    · obtain ⟨a, q, -⟩ := hro.2.1 2 _ rfl; exact ⟨a, q⟩
    · obtain ⟨a, q, -⟩ := hro.2.1 3 _ rfl; exact ⟨a, q⟩
    · obtain ⟨a, q, -⟩ := hro.2.1 4 _ rfl; exact ⟨a, q⟩
    · obtain ⟨a, q, -⟩ := hro.2.2.2.1 5 (Or.inl rfl); exact ⟨a, q⟩
    · obtain ⟨a, q, -⟩ := hro.2.2.2.1 6 (Or.inr rfl); exact ⟨a, q⟩
    · obtain ⟨a, q, -⟩ := hro.2.2.1 7 _ rfl; exact ⟨a, q⟩
    · obtain ⟨a, q, -⟩ := hro.2.2.1 8 _ rfl; exact ⟨a, q⟩
  have hj : ∀ off, wb_ckj pc off x = true → ∀ t, x = [t] → (pc : Int) + off = ((t : Nat) : Int) := by
    intro off q t e
    subst e
    exact of_decide_eq_true q
  have ofd := @of_decide_eq_true
  cases i with
  | aload_n k => exact wb_o_aload_n F hd hrv hp G
  | aload k => exact wb_o_aload F hd hrv hp G
  | iload_n k => exact wb_o_iload_n F hd hp G
  | iload k => exact wb_o_iload F hd hp G
  | lload_n k => exact wb_o_lload_n F hd hp G
  | lload k => exact wb_o_lload F hd hp G
  | astore_n k => exact wb_o_astore_n F hd (of_decide_eq_true hck) hrv hcat hp G
  | astore k => exact wb_o_astore F hd (of_decide_eq_true hck) hrv hcat hp G
  | istore_n k => exact wb_o_istore_n F hd (of_decide_eq_true hck) hcat hp G
  | istore k => exact wb_o_istore F hd (of_decide_eq_true hck) hcat hp G
  | lstore_n k => exact wb_o_lstore_n F hd (of_decide_eq_true hck) hcat hp G
  | lstore k => exact wb_o_lstore F hd (of_decide_eq_true hck) hcat hp G
  | iconst z => exact wb_o_iconst F hd hp G
  | bipush z => exact wb_o_bipush F hd (of_decide_eq_true hck) hp G
  | sipush z => exact wb_o_sipush F hd (of_decide_eq_true hck) hp G
  | lconst z => exact wb_o_lconst F hd hp G
  | ldc idx => exact wb_o_ldc F hd hck hro hp G
  | ldc_w idx => exact wb_o_ldcw F hd hck hp G
  | ldc2_w idx => exact wb_o_ldc2 F hd hck hp G
  | iinc k z => exact wb_o_iinc F hd hcat hp G
  | iadd => exact wb_o_iadd F hd hp G
  | isub => exact wb_o_isub F hd hp G
  | imul => exact wb_o_imul F hd hp G
  | iand => exact wb_o_iand F hd hp G
  | ior => exact wb_o_ior F hd hp G
  | ixor => exact wb_o_ixor F hd hp G
  | ishl => exact wb_o_ishl F hd hp G
  | ishr => exact wb_o_ishr F hd hp G
  | iushr => exact wb_o_iushr F hd hp G
  | idiv => exact wb_o_idiv F hd hp G
  | irem => exact wb_o_irem F hd hp G
  | ineg => exact wb_o_ineg F hd hp G
  | ladd => exact wb_o_ladd F hd hp G
  | lsub => exact wb_o_lsub F hd hp G
  | lmul => exact wb_o_lmul F hd hp G
  | ldiv => exact wb_o_ldiv F hd hp G
  | lrem => exact wb_o_lrem F hd hp G
  | lneg => exact wb_o_lneg F hd hp G
  | lcmp => exact wb_o_lcmp F hd hp G
  | i2l => exact wb_o_i2l F hd hp G
  | l2i => exact wb_o_l2i F hd hp G
  | i2b => exact wb_o_i2b F hd hp G
  | i2c => exact wb_o_i2c F hd hp G
  | dup => exact wb_o_dup F hd hcat hp G
  | dup2 => exact wb_o_dup2 F hd hcat hp G
  | pop => exact wb_o_pop F hd hp G
  | if_icmp cc off => exact wb_o_icmp F hd (hj off hck) hp G
  | ifCond cc off => exact wb_o_ifc F hd (hj off hck) hp G
  | goto off => exact wb_o_goto F hd (hj off hck) hp G
  | tableswitch d lo hi offs => exact wb_o_tableswitch F hd hck hp G
  | lookupswitch d ps => exact wb_o_lookupswitch F hd hck hp G
  | getfield idx => exact wb_o_getfield F hd hck hro hp G
  | putfield idx => exact wb_o_putfield F hd hck hp G
  | getstatic idx => exact wb_o_getstatic F hd hck hro hp G
  | iaload => exact wb_o_iaload F hd hro hp G
  | baload => exact wb_o_baload F hd hro hp G
  | laload => exact wb_o_laload F hd hp G
  | aaload => exact wb_o_aaload F hd hp G
  | iastore => exact wb_o_iastore F hd hp G
  | bastore => exact wb_o_bastore F hd hp G
  | lastore => exact wb_o_lastore F hd hp G
  | aastore => exact wb_o_aastore F hd hp G
  | arraylength => exact wb_o_arraylength F hd hro hp G
  | new idx => exact wb_o_new F hd hck hp G
  | newarray a => exact wb_o_newarray F hd hck hp G
  | anewarray idx => exact wb_o_anewarray F hd hck hro hp G
  | invokespecial idx =>
    have hck : (wb_cki m idx x || wb_cky m idx (.invokespecial idx) x) = true := hck
    rw [Bool.or_eq_true] at hck
    rcases hck with hck | hck
    · exact wb_o_objinit F hd hck hcat hp G
    · exact (wb_ca_pk (wb_cky_y hck) hp).elim
  | invokestatic idx =>
    have hck : (wb_ckx m idx x || wb_cky m idx (.invokestatic idx) x) = true := hck
    rw [Bool.or_eq_true] at hck
    rcases hck with hck | hck
    · exact wb_o_copy F hd hck hcat hp G
    · exact (wb_ca_pk (wb_cky_y hck) hp).elim
  | invokevirtual idx => exact (wb_ca_pk (wb_cky_y (m := m) (idx := idx) (i := .invokevirtual idx) hck) hp).elim
  | ireturn =>
    exfalso
    simp only [wb_st] at hp
    unfold wb_rt at hp
    split at hp <;> cases hp
  | lreturn =>
    exfalso
    simp only [wb_st] at hp
    split at hp <;> cases hp
  | areturn =>
    exfalso
    simp only [wb_st] at hp
    split at hp <;> cases hp
  | return_ =>
    exfalso
    simp only [wb_st] at hp
    split at hp <;> cases hp
  | _ => cases hp
end WBM
end
section
/-! What a step is, by its kind; counts stay when all is made; the main theorem. -/
def wb_isl : wb_A → Bool
  | .inl _ => true
  | _ => false
def wb_icl : Instr → Nat
  | .invokestatic _ => 1 | .invokevirtual _ => 1 | .invokespecial _ => 1
  | .ireturn => 2 | .lreturn => 2 | .areturn => 2 | .return_ => 2
  | _ => 0
def wb_ns (n : wb_N) : wb_A → Prop
  | .inl b => ∀ c', wb_pick b.1 b.2 = some c' → c'.2.2.2.2 = n
  | .inr (.inl q) => q.1.2.2.2 = n
  | .inr (.inr r) => r.2.2.2 = n
section WBZ
variable {fz : Bool} {sc : wb_X} {m pc : Nat} {x : List Nat} {ls : wb_L} {st : List wb_V} {h : wb_H} {n : wb_N} {c' : wb_C}
theorem wb_isl_gf : wb_isl (wb_gf fz pc x ls st h n) = true := by unfold wb_gf; repeat' split
                                                                  all_goals rfl
theorem wb_isl_pf : wb_isl (wb_pf fz pc x ls st h n) = true := by unfold wb_pf; repeat' split
                                                                  all_goals rfl
theorem wb_isl_gs : wb_isl (wb_gs pc x ls st h n) = true := by unfold wb_gs; repeat' split
                                                               all_goals rfl
theorem wb_isl_il : wb_isl (wb_il sc pc ls st h n) = true := by unfold wb_il; repeat' split
                                                                all_goals rfl
theorem wb_isl_bl : wb_isl (wb_bl pc ls st h n) = true := by unfold wb_bl; repeat' split
                                                             all_goals rfl
theorem wb_isl_ll : wb_isl (wb_ll pc ls st h n) = true := by unfold wb_ll; repeat' split
                                                             all_goals rfl
theorem wb_isl_ql : wb_isl (wb_ql fz pc ls st h n) = true := by unfold wb_ql; repeat' split
                                                                all_goals rfl
theorem wb_isl_is : wb_isl (wb_is pc ls st h n) = true := by unfold wb_is; repeat' split
                                                             all_goals rfl
theorem wb_isl_bs : wb_isl (wb_bs pc ls st h n) = true := by unfold wb_bs; repeat' split
                                                             all_goals rfl
theorem wb_isl_ls : wb_isl (wb_ls pc ls st h n) = true := by unfold wb_ls; repeat' split
                                                             all_goals rfl
theorem wb_isl_qs : wb_isl (wb_qs fz pc ls st h n) = true := by unfold wb_qs; repeat' split
                                                                all_goals rfl
theorem wb_isl_al : wb_isl (wb_al sc pc ls st h n) = true := by unfold wb_al; repeat' split
                                                                all_goals rfl
theorem wb_isl_ne : wb_isl (wb_ne fz m pc x ls st h n) = true := by unfold wb_ne; repeat' split
                                                                    all_goals rfl
theorem wb_isl_na {a : ArrayType} : wb_isl (wb_na fz m pc a x ls st h n) = true := by unfold wb_na; repeat' split
                                                                                      all_goals rfl
theorem wb_isl_an : wb_isl (wb_an fz m pc x ls st h n) = true := by unfold wb_an; repeat' split
                                                                    all_goals rfl
set_option maxHeartbeats 4000000 in
theorem wb_isl_st {i : Instr} (hi : wb_icl i = 0) : wb_isl (wb_st fz sc m pc i x ls st h n) = true := by
  cases i with
  | getfield idx => exact wb_isl_gf
  | putfield idx => exact wb_isl_pf
  | getstatic idx => exact wb_isl_gs
  | iaload => exact wb_isl_il
  | baload => exact wb_isl_bl
  | laload => exact wb_isl_ll
  | aaload => exact wb_isl_ql
  | iastore => exact wb_isl_is
  | bastore => exact wb_isl_bs
  | lastore => exact wb_isl_ls
  | aastore => exact wb_isl_qs
  | arraylength => exact wb_isl_al
  | new idx => exact wb_isl_ne
  | newarray a => exact wb_isl_na
  | anewarray idx => exact wb_isl_an
  | invokespecial idx => cases hi
  | invokestatic idx => cases hi
  | invokevirtual idx => cases hi
  | ireturn => cases hi
  | lreturn => cases hi
  | areturn => cases hi
  | return_ => cases hi
  | _ => simp only [wb_st]; first | rfl | (repeat' split) <;> rfl
theorem wb_ns_wr : wb_ns n wb_wr := fun c' q => by cases q
theorem wb_ns_nx {p : Nat} {ls : wb_L} {st : List wb_V} {h : wb_H} : wb_ns n (wb_nx p ls st h n) := fun c' q => by cases q; rfl
theorem wb_ns_if {b : Bool} {p : Nat} {ls : wb_L} {st : List wb_V} {h : wb_H} : wb_ns n (wb_if b p ls st h n) := fun c' q => by
  obtain ⟨-, rfl⟩ := wb_pk_if q; rfl
theorem wb_ns_br {b : Bool} {p p2 : Nat} {ls : wb_L} {st : List wb_V} {h : wb_H} : wb_ns n (wb_br b p p2 ls st h n) := fun c' q => by
  rcases wb_pk_br q with ⟨-, rfl⟩ | ⟨-, rfl⟩ <;> rfl
theorem wb_ns_re {b : Bool} {v : Option wb_V} : wb_ns n (wb_re b m v h n) := rfl
theorem wb_ns_sw {v : Int32} {ls : wb_L} {st : List wb_V} {h : wb_H} {d : Nat} : ∀ (ts : List Nat) (z : Int) (c' : wb_C), wb_pick (wb_sw v ls st h n z ts) (some (d, ls, st, h, n)) = some c' → c'.2.2.2.2 = n := by
  intro ts z c' q
  rcases wb_sw_pick ts z q with ⟨j, t, -, -, rfl⟩ | ⟨-, rfl⟩ <;> rfl
theorem wb_ns_lw {v : Int32} {ls : wb_L} {st : List wb_V} {h : wb_H} {d : Nat} : ∀ (ps : List (Int × Int)) (ts : List Nat) (c' : wb_C), wb_pick (wb_lw v ls st h n ps ts) (some (d, ls, st, h, n)) = some c' → c'.2.2.2.2 = n
  | [], ts, c', q => by cases ts <;> (simp only [wb_lw, wb_pick, Option.some.injEq] at q; rw [← q])
  | z :: zs, [], c', q => by simp only [wb_lw, wb_pick, Option.some.injEq] at q; rw [← q]
  | z :: zs, t :: ts, c', q => by
    simp only [wb_lw, wb_pick] at q
    cases hb : decide (v = Int32.ofInt z.1) with
    | true => rw [hb] at q; simp only [cond_true, Option.some.injEq] at q; rw [← q]
    | false => rw [hb] at q; exact wb_ns_lw zs ts c' q
theorem wb_ns_gf : wb_ns n (wb_gf true pc x ls st h n) := by
  unfold wb_gf; repeat' split
  all_goals first | exact wb_ns_wr | exact wb_ns_nx | exact wb_ns_if
theorem wb_ns_pf : wb_ns n (wb_pf true pc x ls st h n) := by
  unfold wb_pf; repeat' split
  all_goals first | exact wb_ns_wr | exact wb_ns_nx | exact wb_ns_if
theorem wb_ns_gs : wb_ns n (wb_gs pc x ls st h n) := by
  unfold wb_gs; repeat' split
  all_goals first | exact wb_ns_wr | exact wb_ns_nx | exact wb_ns_if
theorem wb_ns_il : wb_ns n (wb_il sc pc ls st h n) := by
  unfold wb_il; repeat' split
  all_goals first | exact wb_ns_wr | exact wb_ns_nx | exact wb_ns_if
theorem wb_ns_bl : wb_ns n (wb_bl pc ls st h n) := by
  unfold wb_bl; repeat' split
  all_goals first | exact wb_ns_wr | exact wb_ns_nx | exact wb_ns_if
theorem wb_ns_ll : wb_ns n (wb_ll pc ls st h n) := by
  unfold wb_ll; repeat' split
  all_goals first | exact wb_ns_wr | exact wb_ns_nx | exact wb_ns_if
theorem wb_ns_ql : wb_ns n (wb_ql true pc ls st h n) := by
  unfold wb_ql; repeat' split
  all_goals first | exact wb_ns_wr | exact wb_ns_nx | exact wb_ns_if
theorem wb_ns_is : wb_ns n (wb_is pc ls st h n) := by
  unfold wb_is; repeat' split
  all_goals first | exact wb_ns_wr | exact wb_ns_nx | exact wb_ns_if
theorem wb_ns_bs : wb_ns n (wb_bs pc ls st h n) := by
  unfold wb_bs; repeat' split
  all_goals first | exact wb_ns_wr | exact wb_ns_nx | exact wb_ns_if
theorem wb_ns_ls : wb_ns n (wb_ls pc ls st h n) := by
  unfold wb_ls; repeat' split
  all_goals first | exact wb_ns_wr | exact wb_ns_nx | exact wb_ns_if
theorem wb_ns_al : wb_ns n (wb_al sc pc ls st h n) := by
  unfold wb_al; repeat' split
  all_goals first | exact wb_ns_wr | exact wb_ns_nx | exact wb_ns_if
theorem wb_ns_ca : wb_ns n (wb_ca true m pc x ls st h n) := by
  unfold wb_ca; repeat' split
  all_goals first | exact wb_ns_wr | exact wb_ns_nx | exact wb_ns_if | rfl
theorem wb_ns_rt : wb_ns n (wb_rt m x st h n) := by
  unfold wb_rt; repeat' split
  all_goals first | exact wb_ns_wr | exact wb_ns_re
set_option maxHeartbeats 4000000 in
theorem wb_ns_st {i : Instr} : wb_ns n (wb_st true sc m pc i x ls st h n) := by
  cases i with
  | getfield idx => exact wb_ns_gf
  | putfield idx => exact wb_ns_pf
  | getstatic idx => exact wb_ns_gs
  | iaload => exact wb_ns_il
  | baload => exact wb_ns_bl
  | laload => exact wb_ns_ll
  | aaload => exact wb_ns_ql
  | iastore => exact wb_ns_is
  | bastore => exact wb_ns_bs
  | lastore => exact wb_ns_ls
  | aastore => exact wb_ns_wr
  | arraylength => exact wb_ns_al
  | new idx => exact wb_ns_wr
  | newarray a => exact wb_ns_wr
  | anewarray idx => exact wb_ns_wr
  | invokespecial idx => exact wb_ns_ca
  | invokestatic idx => exact wb_ns_ca
  | invokevirtual idx => exact wb_ns_ca
  | ireturn => exact wb_ns_rt
  | tableswitch d lo hi offs =>
    simp only [wb_st]
    split
    · exact fun c' q => wb_ns_sw _ _ c' q
    · exact wb_ns_wr
  | lookupswitch d ps =>
    simp only [wb_st]
    split
    · exact fun c' q => wb_ns_lw _ _ c' q
    · exact wb_ns_wr
  | _ => simp only [wb_st]; first | exact wb_ns_wr | exact wb_ns_nx | (repeat' split) <;> first | exact wb_ns_wr | exact wb_ns_nx | exact wb_ns_if | exact wb_ns_br | exact wb_ns_re
theorem wb_ru_n : ∀ (k m : Nat) (c : wb_C) (r : wb_R), wb_ru true sc k m c = some r → r.2.2.1 = c.2.2.2.2.1
  | 0, m, c, r, q => by cases q
  | k + 1, m, c, r, q => by
    simp only [wb_ru] at q
    have hns : wb_ns c.2.2.2.2 (wb_ac true sc m (wb_code m) c) := by
      unfold wb_ac
      split
      · exact wb_ns_st
      · exact wb_ns_wr
    revert q hns
    cases wb_ac true sc m (wb_code m) c with
    | inl b =>
      intro q hns
      simp only [wb_ex, wb_ib_pick] at q
      cases hp : wb_pick b.1 b.2 with
      | none => rw [hp] at q; cases q
      | some c' =>
        rw [hp] at q
        rw [wb_ru_n k m c' r q, hns c' hp]
    | inr q0 =>
      cases q0 with
      | inl q1 =>
        intro q hns
        obtain ⟨⟨y, as, h1, n1⟩, b, kd, p', ls', st'⟩ := q1
        have hns : n1 = c.2.2.2.2 := hns
        simp only [wb_ex] at q
        cases b with
        | false => cases q
        | true =>
          simp only [cond_true, Option.bind_eq_some_iff] at q
          obtain ⟨r1, h2, st2, h3, h4⟩ := q
          rw [wb_ru_n k m _ r h4]
          exact congrArg Prod.fst hns
      | inr q1 =>
        intro q hns
        obtain ⟨b, r1⟩ := q1
        simp only [wb_ex] at q
        cases b with
        | false => cases q
        | true =>
          simp only [cond_true, Option.some.injEq] at q
          subst q
          exact congrArg Prod.fst hns
end WBZ
end
section
/-! THE MAIN THEOREM. -/
theorem wb_g_dr : ∀ (ks : List Nat) (ls : wb_L) (j : Nat) (v : wb_V), wb_g (wb_dr ls ks) j = some v → wb_g ls j = some v
  | [], _, _, _, h => h
  | k :: ks, ls, j, v, h => by
    have h1 := wb_g_dr ks (wb_s ls k none) j v h
    by_cases hj : j = k
    · subst hj; rw [wb_g_s_none] at h1; cases h1
    · rwa [wb_g_s_ne _ _ _ _ hj] at h1
section WBT
variable {fz : Bool} {sc : wb_X} {D : va_G}
/-- a method at its return -/
def wb_rtc (m pc : Nat) (v : Option wb_V) (st : List Value) (tv : wb_V → Value) : Prop :=
  (∃ x rt, decode (wb_b m) pc = .ok (.ireturn, 1) ∧ v = some (.inl x) ∧ st = [.int x] ∧ wb_r m = some rt ∧ narrow rt (.int x) = .int x) ∨
  (∃ x, decode (wb_b m) pc = .ok (.lreturn, 1) ∧ v = some (.inr (.inl x)) ∧ st = [.long x] ∧ wb_r m = some .long) ∨
  (∃ r a o, decode (wb_b m) pc = .ok (.areturn, 1) ∧ v = some (.inr (.inr r)) ∧ tv (.inr (.inr r)) = .ref a ∧ st = [.ref a] ∧ wb_r m = some (.object o)) ∨
  (decode (wb_b m) pc = .ok (.return_, 1) ∧ v = none ∧ st = [] ∧ wb_r m = none)
def wb_hret (fz : Bool) (m : Nat) (rv : Nat → Value) (A : Nat → Prop) (D : va_G) (adr0 : Nat → Nat → Nat) (L0 : List (Nat × Nat)) (r : wb_R) (s : State) (K : Heap → List Loc → Nat → Nat → Nat → Array Slot → List Value → Prop) : Prop :=
  ∀ (adr : Nat → Nat → Nat) (cA : Nat → Nat → ClassId) (L : List (Nat × Nat)) (H : Heap) (locs : List Loc) (J : Array Slot) (pc : Nat) (st : List Value),
    wb_rep fz D adr cA L r.2.2.1 r.2.1 A H s → ((∀ q ∈ L0, q ∈ L ∧ adr q.1 q.2 = adr0 q.1 q.2) ∧ (fz = true → adr = adr0)) → va_S A s.heap H locs → wb_rtc m pc r.1 st (wb_tv rv adr) → r.2.2.2.1 ≤ wb_mc m → r.2.2.2.2 ≤ wb_ms m → K H locs r.2.2.2.1 r.2.2.2.2 pc J st
theorem wb_rt_inv {m : Nat} {x : List Nat} {st : List wb_V} {h : wb_H} {n : wb_N} {b : Bool} {r : wb_R} (hck : wb_ckr m x = true) (ha : wb_rt m x st h n = .inr (.inr (b, r))) (hb : b = true) : ∃ y rt, r = (some (.inl y), h, n) ∧ st = [.inl y] ∧ wb_r m = some rt ∧ narrow rt (.int y) = .int y ∧ n.2.1 ≤ wb_mc m ∧ n.2.2 ≤ wb_ms m := by
  unfold wb_rt at ha
  split at ha
  · rename_i y
    cases ha
    simp only [wb_rok, Bool.and_eq_true, decide_eq_true_eq] at hb
    exact ⟨y, .int, rfl, rfl, of_decide_eq_true hck, rfl, hb.1.1, hb.1.2⟩
  · rename_i y
    cases ha
    simp only [wb_rok, Bool.and_eq_true, decide_eq_true_eq] at hb
    exact ⟨y, .boolean, rfl, rfl, of_decide_eq_true hck, by rcases wb_nb_or hb.2 with rfl | rfl <;> rfl, hb.1.1, hb.1.2⟩
  · rename_i y
    cases ha
    simp only [wb_rok, Bool.and_eq_true, decide_eq_true_eq] at hb
    refine ⟨y, .char, rfl, rfl, of_decide_eq_true hck, ?_, hb.1.1, hb.1.2⟩
    have e := hb.2
    rw [vp_nar_char] at e
    show Value.int _ = Value.int _
    first | (congr 1) | skip
    all_goals first | exact e | simpa using e
  · rename_i y
    cases ha
    simp only [wb_rok, Bool.and_eq_true, decide_eq_true_eq] at hb
    refine ⟨y, .byte, rfl, rfl, of_decide_eq_true hck, ?_, hb.1.1, hb.1.2⟩
    have e := hb.2
    rw [vp_nar_byte] at e
    show Value.int _ = Value.int _
    first | (congr 1) | skip
    all_goals first | exact e | simpa using e
  · cases ha
set_option maxHeartbeats 4000000 in
theorem wb_main (hall : ∀ m, 2 ≤ m → m < wb_NM → (wb_code m).all (wb_ck m) = true) (hpl : ∀ m, 2 ≤ m → m < wb_NM → plainName (wb_y m).cls = true) (l : Launch) : ∀ k : Nat,
    (∀ (y : Nat) (as : List wb_V) (h : wb_H) (n : wb_N) (r : wb_R), 2 ≤ y → y < wb_NM → wb_rw as ≤ wb_pn y → wb_ru fz sc k y (wb_en y as h n) = some r → wb_Met l fz sc D y as h n.1 r) ∧
    (∀ (m : Nat) (c0 : wb_C) (r : wb_R), 2 ≤ m → m < wb_NM → wb_ru fz sc k m c0 = some r → ∀ (p : Program) (e : Env) (R : Room) (s : State) (mth : MethodId) (args : Array Value) (below : List Frame) (meth : Method) (c : Code) (Q : State → Prop) (rv : Nat → Value) (A : Nat → Prop) (adr0 : Nat → Nat → Nat) (L0 : List (Nat × Nat)),
      wb_fr p R s mth args meth c m A → wb_RO sc rv A s → wb_hret fz m rv A D adr0 L0 r s (fun H locs kc ks pc J st => W p l e R s mth args below meth c H locs kc ks Q (F0 mth pc J st)) → wb_G p l e R s mth args below meth c Q fz m rv A D adr0 L0 c0) := by
  intro k
  have first : ∀ k, (∀ (m : Nat) (c0 : wb_C) (r : wb_R), 2 ≤ m → m < wb_NM → wb_ru fz sc k m c0 = some r → ∀ (p : Program) (e : Env) (R : Room) (s : State) (mth : MethodId) (args : Array Value) (below : List Frame) (meth : Method) (c : Code) (Q : State → Prop) (rv : Nat → Value) (A : Nat → Prop) (adr0 : Nat → Nat → Nat) (L0 : List (Nat × Nat)),
      wb_fr p R s mth args meth c m A → wb_RO sc rv A s → wb_hret fz m rv A D adr0 L0 r s (fun H locs kc ks pc J st => W p l e R s mth args below meth c H locs kc ks Q (F0 mth pc J st)) → wb_G p l e R s mth args below meth c Q fz m rv A D adr0 L0 c0) →
      (∀ (y : Nat) (as : List wb_V) (h : wb_H) (n : wb_N) (r : wb_R), 2 ≤ y → y < wb_NM → wb_rw as ≤ wb_pn y → wb_ru fz sc k y (wb_en y as h n) = some r → wb_Met l fz sc D y as h n.1 r) := by
    intro k second y as h n r hy2 hyN hrw hrun rv adr cA L H
    refine Met.ofW (cc := wb_b y) (maxL := wb_pn y) (ret := wb_r y) (hpl y hy2 hyN) rfl ?_
    intro p e s m args below meth c s₁ B hml hv
    obtain ⟨rfl, rfl, hR, hro⟩ := hv
    have hts := atoms_spec (ws := wb_ws y) B.pre
    have hcat := hro.1
    rw [lg_entry_eq]
    have hle : (lg_sl (as.map (wb_tv rv adr))).length ≤ wb_pn y := by rw [wb_sl_len hcat]; exact hrw
    have hl := lv_entry (as.map (wb_tv rv adr)) (n := wb_pn y) hle
    generalize (lg_sl (as.map (wb_tv rv adr)) ++ List.replicate (wb_pn y - (lg_sl (as.map (wb_tv rv adr))).length) Slot.unset).toArray = J at hl ⊢
    have hS0 : va_S (va_A (wb_wd fz adr cA h L) s.heap.size) s.heap s.heap [] := va_S.rf
    have F : wb_fr p (headSpec (wb_ws y) (wb_rm y)).room s m (as.map (wb_tv rv adr)).toArray meth c y (va_A (wb_wd fz adr cA h L) s.heap.size) :=
      ⟨B.exec, B.bytes, fun w hw => hts w (List.mem_cons_of_mem _ hw), findClass_of_methodNamed B.named, hml, fun q hq => Or.inr hq, fun q => (name_of_methodNamed B.named B.method).1.trans q, Nat.le_refl _, Nat.le_refl _, Nat.le_refl _, Nat.le_refl _⟩
    have hlc : wb_lc (wb_tv rv adr) (wb_el as (wb_pn y)) J (wb_pn y) := ⟨hl.1, hl.2.1, fun k v hk => by
      have := wb_el_has (adr := adr) hcat as (wb_pn y) 0 v k hk
      rw [Nat.zero_add] at this
      exact hl.2.2 _ this⟩
    refine second y (wb_en y as h n) r hy2 hyN hrun p e (headSpec (wb_ws y) (wb_rm y)).room s m (as.map (wb_tv rv adr)).toArray below meth c _ rv _ adr L F hro ?_ adr cA L s.heap [] J hR ⟨fun q hq => ⟨hq, rfl⟩, fun _ => rfl⟩ hlc hS0
    intro adr' cA' L' H' locs J' pc st hR' hxt hS hrt hk1 hk2
    refine W.widen hk1 hk2 ?_
    have hpost : ∀ (o : Outcome) (t : State), o = .returned (r.1.map (wb_tv rv adr')) → t.heap = H' → s.WarmedH t.vm → wb_Qc fz rv D adr cA L h s.heap r (as.map (wb_tv rv adr)).toArray s o t := by
      intro o t ho ht hW
      subst ht
      exact ⟨⟨adr', cA', L', ho, wb_rep_moved hW.alike hR', hxt.1, hxt.2⟩, hS.F rfl⟩
    rcases hrt with ⟨x, rt, hd, hv, rfl, hrr, hn⟩ | ⟨x, hd, hv, rfl, hrr⟩ | ⟨r1, a, o, hd, hv, hta, rfl, hrr⟩ | ⟨hd, hv, rfl, hrr⟩
    · exact W.zret (v := x) B.exec B.bytes (B.returns.trans hrr) hn (fun t ht hW => hpost _ t (by rw [hv]; rfl) ht hW) hS.2.2 hd B.notSynchronized
    · exact W.lret (v := x) B.exec B.bytes (B.returns.trans hrr) (fun t ht hW => hpost _ t (by rw [hv]; rfl) ht hW) hS.2.2 hd B.notSynchronized
    · exact W.aret (v := .ref a) B.exec B.bytes (B.returns.trans hrr) (Or.inl ⟨o, rfl⟩) (Or.inr ⟨a, rfl⟩) (fun t ht hW => hpost _ t (by rw [hv, ← hta]; rfl) ht hW) hS.2.2 hd B.notSynchronized
    · exact W.vret B.exec B.bytes (B.returns.trans hrr) (fun t ht hW => hpost _ t (by rw [hv]; rfl) ht hW) hS.2.2 hd B.notSynchronized
  suffices second : (∀ (m : Nat) (c0 : wb_C) (r : wb_R), 2 ≤ m → m < wb_NM → wb_ru fz sc k m c0 = some r → ∀ (p : Program) (e : Env) (R : Room) (s : State) (mth : MethodId) (args : Array Value) (below : List Frame) (meth : Method) (c : Code) (Q : State → Prop) (rv : Nat → Value) (A : Nat → Prop) (adr0 : Nat → Nat → Nat) (L0 : List (Nat × Nat)),
      wb_fr p R s mth args meth c m A → wb_RO sc rv A s → wb_hret fz m rv A D adr0 L0 r s (fun H locs kc ks pc J st => W p l e R s mth args below meth c H locs kc ks Q (F0 mth pc J st)) → wb_G p l e R s mth args below meth c Q fz m rv A D adr0 L0 c0) from ⟨first k second, second⟩
  induction k with
  | zero => intro m c0 r _ _ q; cases q
  | succ k ih =>
    intro m c0 r hm2 hmN hrun p e R s mth args below meth c Q rv A adr0 L0 F hro hret
    have callee := first k ih
    simp only [wb_ru] at hrun
    obtain ⟨pc0, ls, st, h, n⟩ := c0
    cases hft : wb_ft (wb_code m) pc0 with
    | none =>
      have : wb_ac fz sc m (wb_code m) (pc0, ls, st, h, n) = wb_wr := by simp only [wb_ac, hft]
      rw [this] at hrun
      cases hrun
    | some en =>
      obtain ⟨hmem, hpc⟩ := wb_ft_mem _ _ _ hft
      have hck := List.all_eq_true.mp (hall m hm2 hmN) en hmem
      have hac : wb_ac fz sc m (wb_code m) (pc0, ls, st, h, n) = wb_st fz sc m pc0 en.2.1 en.2.2.1 (wb_dr ls en.2.2.2) st h n := by simp only [wb_ac, hft, hpc]
      rw [hac] at hrun
      obtain ⟨p0, i, x, dd⟩ := en
      simp only at hpc hrun hck
      subst hpc
      suffices hdr : wb_G p l e R s mth args below meth c Q fz m rv A D adr0 L0 (p0, wb_dr ls dd, st, h, n) from
        fun adr cA L H locs J hR hxt hl hS => hdr adr cA L H locs J hR hxt ⟨hl.1, hl.2.1, fun k v hk => hl.2.2 k v (wb_g_dr dd ls k v hk)⟩ hS
      generalize wb_dr ls dd = ls at hrun ⊢
      unfold wb_ck at hck
      simp only [Bool.and_eq_true, decide_eq_true_eq] at hck
      obtain ⟨hd, hck⟩ := hck
      cases ha : wb_st fz sc m p0 i x ls st h n with
      | inl b =>
        rw [ha] at hrun
        simp only [wb_ex, wb_ib_pick] at hrun
        cases hp : wb_pick b.1 b.2 with
        | none => rw [hp] at hrun; cases hrun
        | some c' =>
          rw [hp] at hrun
          exact wb_o_all F hd hck hro (by rw [ha]; exact hp) (ih m c' r hm2 hmN hrun p e R s mth args below meth c Q rv A adr0 L0 F hro hret)
      | inr q =>
        have hicl : wb_icl i ≠ 0 := by
          intro q0
          have := wb_isl_st (fz := fz) (sc := sc) (m := m) (pc := p0) (x := x) (ls := ls) (st := st) (h := h) (n := n) q0
          rw [ha] at this
          cases this
        cases q with
        | inl q =>
          obtain ⟨⟨y, as, h1, n1⟩, b, kd, p', ls', st'⟩ := q
          have hcall : ∃ idx, (i = .invokestatic idx ∨ i = .invokevirtual idx ∨ i = .invokespecial idx) ∧ wb_ca fz m p0 x ls st h n = .inr (.inl ((y, as, h1, n1), b, kd, p', ls', st')) ∧ wb_cky m idx i x = true := by
            have ckx : ∀ idx, wb_ca fz m p0 x ls st h n = .inr (.inl ((y, as, h1, n1), b, kd, p', ls', st')) → wb_ckx m idx x = true → False := by
              intro idx q1 q2
              obtain ⟨k0, kd0, ci0, x0, st0, rfl, hy, -⟩ := wb_ca_inv (q := ((y, as, h1, n1), b, kd, p', ls', st')) q1
              unfold wb_ckx at q2
              split at q2
              · rename_i e; cases e; omega
              · cases q2
            have cki : ∀ idx, wb_ca fz m p0 x ls st h n = .inr (.inl ((y, as, h1, n1), b, kd, p', ls', st')) → wb_cki m idx x = true → False := by
              intro idx q1 q2
              obtain ⟨k0, kd0, ci0, x0, st0, rfl, hy, -⟩ := wb_ca_inv (q := ((y, as, h1, n1), b, kd, p', ls', st')) q1
              unfold wb_cki at q2
              split at q2
              · rename_i e; cases e; omega
              · cases q2
            cases i with
            | invokestatic idx =>
              have ha2 : wb_ca fz m p0 x ls st h n = .inr (.inl ((y, as, h1, n1), b, kd, p', ls', st')) := ha
              have hck2 : (wb_ckx m idx x || wb_cky m idx (.invokestatic idx) x) = true := hck
              rw [Bool.or_eq_true] at hck2
              exact ⟨idx, Or.inl rfl, ha2, hck2.resolve_left (fun q => ckx idx ha2 q)⟩
            | invokevirtual idx => exact ⟨idx, Or.inr (Or.inl rfl), ha, hck⟩
            | invokespecial idx =>
              have ha2 : wb_ca fz m p0 x ls st h n = .inr (.inl ((y, as, h1, n1), b, kd, p', ls', st')) := ha
              have hck2 : (wb_cki m idx x || wb_cky m idx (.invokespecial idx) x) = true := hck
              rw [Bool.or_eq_true] at hck2
              exact ⟨idx, Or.inr (Or.inr rfl), ha2, hck2.resolve_left (fun q => cki idx ha2 q)⟩
            | ireturn =>
              simp only [wb_st] at ha
              unfold wb_rt at ha
              split at ha <;> cases ha
            | lreturn => simp only [wb_st] at ha; split at ha <;> cases ha
            | areturn => simp only [wb_st] at ha; split at ha <;> cases ha
            | return_ => simp only [wb_st] at ha; split at ha <;> cases ha
            | _ => exact absurd rfl hicl
          obtain ⟨idx, hi, hca, hcky⟩ := hcall
          rw [ha] at hrun
          simp only [wb_ex] at hrun
          cases b with
          | false => cases hrun
          | true =>
            simp only [cond_true, Option.bind_eq_some_iff] at hrun
            obtain ⟨r1, hr1, st2, hk2, hr2⟩ := hrun
            obtain ⟨k0, kd0, ci0, x0, st0, rfl, hy2, hpop, rfl, rfl, hrw, hra, -⟩ := wb_ca_inv (q := ((y, as, h1, n1), true, kd, p', ls', st')) hca
            have hyN : y < wb_NM := by
              unfold wb_cky at hcky
              split at hcky
              · rename_i e
                cases e
                simp only [Bool.and_eq_true] at hcky
                exact Nat.lt_of_succ_le (Nat.le_of_ble_eq_true hcky.1.1.1.1.1.2)
              · cases hcky
            have hd3 : decode (wb_b m) p0 = .ok (i, 3) := by
              rcases hi with rfl | rfl | rfl <;> exact hd
            exact wb_o_call hi F hd3 hcky hro hca rfl (callee y as h1 n1 r1 hy2 hyN hra hr1) (fun q => by subst q; exact wb_ru_n k y _ r1 hr1) hk2 (ih m _ r hm2 hmN hr2 p e R s mth args below meth c Q rv A adr0 L0 F hro hret)
        | inr q =>
          obtain ⟨b, r1⟩ := q
          rw [ha] at hrun
          simp only [wb_ex] at hrun
          cases b with
          | false => cases hrun
          | true =>
            simp only [cond_true, Option.some.injEq] at hrun
            subst hrun
            intro adr cA L H locs J hR hxt hl hS
            cases i with
            | ireturn =>
              obtain ⟨y, rt, rfl, rfl, h1, h2, h3, h4⟩ := wb_rt_inv hck ha rfl
              exact hret adr cA L H locs J p0 _ hR hxt hS (Or.inl ⟨y, rt, hd, rfl, rfl, h1, h2⟩) h3 h4
            | lreturn =>
              simp only [wb_st] at ha
              split at ha
              · rename_i y
                have ha2 := Sum.inr.inj (Sum.inr.inj ha)
                have hb := congrArg Prod.fst ha2
                have hr1 := congrArg Prod.snd ha2
                simp only at hb hr1
                subst hr1
                exact hret adr cA L H locs J p0 _ hR hxt hS (Or.inr (Or.inl ⟨y, hd, rfl, rfl, of_decide_eq_true hck⟩)) (by simp only [wb_rok, Bool.and_eq_true, decide_eq_true_eq] at hb; exact hb.1.1) (by simp only [wb_rok, Bool.and_eq_true, decide_eq_true_eq] at hb; exact hb.1.2)
              · cases ha
            | areturn =>
              simp only [wb_st] at ha
              split at ha
              · rename_i r0
                have ha2 := Sum.inr.inj (Sum.inr.inj ha)
                have hb := congrArg Prod.fst ha2
                have hr1 := congrArg Prod.snd ha2
                simp only at hb hr1
                subst hr1
                simp only [wb_rok, Bool.and_eq_true, decide_eq_true_eq] at hb
                obtain ⟨t, o⟩ := r0
                have hck2 : ∃ o, wb_r m = some (.object o) := by
                  have : (match wb_r m with | some (.object _) => true | _ => false) = true := hck
                  split at this
                  · rename_i o e; exact ⟨o, e⟩
                  · cases this
                obtain ⟨ob, hck2⟩ := hck2
                exact hret adr cA L H locs J p0 _ hR hxt hS (Or.inr (Or.inr (Or.inl ⟨(t, o), adr t o, ob, hd, rfl, wb_tvr hb.2, by rw [List.map_cons, wb_tvr hb.2]; rfl, hck2⟩))) hb.1.1 hb.1.2
              · cases ha
            | return_ =>
              simp only [wb_st] at ha
              split at ha
              · have ha2 := Sum.inr.inj (Sum.inr.inj ha)
                have hb := congrArg Prod.fst ha2
                have hr1 := congrArg Prod.snd ha2
                simp only at hb hr1
                subst hr1
                simp only [wb_rok, Bool.and_eq_true, decide_eq_true_eq] at hb
                exact hret adr cA L H locs J p0 _ hR hxt hS (Or.inr (Or.inr (Or.inr ⟨hd, rfl, rfl, of_decide_eq_true hck⟩))) hb.1.1 hb.1.2
              · cases ha
            | invokestatic idx =>
              have ha : wb_ca fz m p0 x ls st h n = _ := ha
              unfold wb_ca at ha
              repeat' split at ha
              all_goals cases ha
            | invokevirtual idx =>
              have ha : wb_ca fz m p0 x ls st h n = _ := ha
              unfold wb_ca at ha
              repeat' split at ha
              all_goals cases ha
            | invokespecial idx =>
              have ha : wb_ca fz m p0 x ls st h n = _ := ha
              unfold wb_ca at ha
              repeat' split at ha
              all_goals cases ha
            | _ => exact absurd rfl hicl
end WBT
end
section
/-! Once all is made: the plain machine as functions. -/
def wb_n0 : wb_N := (wb_cnt, 0, 0)
theorem wb_ru_mono {fz : Bool} {sc : wb_X} : ∀ (k m : Nat) (c : wb_C) (r : wb_R), wb_ru fz sc k m c = some r → wb_ru fz sc (k + 1) m c = some r
  | 0, m, c, r, h => by cases h
  | k + 1, m, c, r, h => by
    rw [wb_ru] at h ⊢
    revert h
    cases wb_ac fz sc m (wb_code m) c with
    | inl b =>
      intro h
      simp only [wb_ex, wb_ib_pick] at h ⊢
      cases hp : wb_pick b.1 b.2 with
      | none => rw [hp] at h; cases h
      | some c' => rw [hp] at h; exact wb_ru_mono k m c' r h
    | inr q =>
      cases q with
      | inl q =>
        obtain ⟨⟨y, as, h1, n1⟩, b, kd, p', ls', st'⟩ := q
        intro h
        simp only [wb_ex] at h ⊢
        cases b with
        | false => cases h
        | true =>
          simp only [cond_true, Option.bind_eq_some_iff] at h ⊢
          obtain ⟨r1, h2, st2, h3, h4⟩ := h
          exact ⟨r1, wb_ru_mono k y _ r1 h2, st2, h3, wb_ru_mono k m _ r h4⟩
      | inr q => intro h; exact h
theorem wb_ru_le {fz : Bool} {sc : wb_X} {k m : Nat} {c : wb_C} {r : wb_R} (h : wb_ru fz sc k m c = some r) : ∀ j, wb_ru fz sc (k + j) m c = some r
  | 0 => h
  | j + 1 => wb_ru_mono (k + j) m c r (wb_ru_le h j)
noncomputable def wb_D (sc : wb_X) (m : Nat) (c : wb_C) : Option wb_R := @dite (Option wb_R) (∃ r, ∃ k, wb_ru true sc k m c = some r) (Classical.propDecidable _) (fun h => some h.choose) (fun _ => none)
theorem wb_D_iff {sc : wb_X} {m : Nat} {c : wb_C} {r : wb_R} : wb_D sc m c = some r ↔ ∃ k, wb_ru true sc k m c = some r := by
  unfold wb_D
  constructor
  · intro h
    split at h
    · rename_i hx
      cases h
      exact hx.choose_spec
    · cases h
  · rintro ⟨k, hk⟩
    have hx : ∃ r, ∃ k, wb_ru true sc k m c = some r := ⟨r, k, hk⟩
    rw [dif_pos hx]
    obtain ⟨k2, hk2⟩ := hx.choose_spec
    have h1 := wb_ru_le hk k2
    have h2 := wb_ru_le hk2 k
    rw [Nat.add_comm] at h2
    exact h2.symm.trans h1
theorem wb_D_eq (sc : wb_X) (m : Nat) (c : wb_C) : wb_D sc m c = wb_ex true (wb_D sc m) (wb_D sc) (wb_ac true sc m (wb_code m) c) := by
  apply Option.ext
  intro r
  rw [wb_D_iff]
  constructor
  · rintro ⟨k, hk⟩
    cases k with
    | zero => cases hk
    | succ k =>
      rw [wb_ru] at hk
      revert hk
      cases wb_ac true sc m (wb_code m) c with
      | inl b =>
        intro h
        simp only [wb_ex, wb_ib_pick] at h ⊢
        cases hp : wb_pick b.1 b.2 with
        | none => rw [hp] at h; cases h
        | some c' => rw [hp] at h; exact wb_D_iff.mpr ⟨k, h⟩
      | inr q =>
        cases q with
        | inl q =>
          obtain ⟨⟨y, as, h1, n1⟩, b, kd, p', ls', st'⟩ := q
          intro h
          simp only [wb_ex] at h ⊢
          cases b with
          | false => cases h
          | true =>
            simp only [cond_true, Option.bind_eq_some_iff] at h ⊢
            obtain ⟨r1, h2, st2, h3, h4⟩ := h
            exact ⟨r1, wb_D_iff.mpr ⟨k, h2⟩, st2, h3, wb_D_iff.mpr ⟨k, h4⟩⟩
        | inr q => intro h; exact h
  · intro h
    have key : ∃ k, wb_ex true (wb_ru true sc k m) (wb_ru true sc k) (wb_ac true sc m (wb_code m) c) = some r := by
      revert h
      cases wb_ac true sc m (wb_code m) c with
      | inl b =>
        intro h
        simp only [wb_ex, wb_ib_pick] at h ⊢
        cases hp : wb_pick b.1 b.2 with
        | none => rw [hp] at h; cases h
        | some c' =>
          rw [hp] at h
          obtain ⟨k, hk⟩ := wb_D_iff.mp h
          exact ⟨k, hk⟩
      | inr q =>
        cases q with
        | inl q =>
          obtain ⟨⟨y, as, h1, n1⟩, b, kd, p', ls', st'⟩ := q
          intro h
          simp only [wb_ex] at h ⊢
          cases b with
          | false => cases h
          | true =>
            simp only [cond_true, Option.bind_eq_some_iff] at h ⊢
            obtain ⟨r1, h2, st2, h3, h4⟩ := h
            obtain ⟨k1, g1⟩ := wb_D_iff.mp h2
            obtain ⟨k2, g2⟩ := wb_D_iff.mp h4
            exact ⟨k1 + k2, r1, wb_ru_le g1 k2, st2, h3, by rw [Nat.add_comm]; exact wb_ru_le g2 k1⟩
        | inr q => intro h; exact ⟨0, h⟩
    obtain ⟨k, hk⟩ := key
    exact ⟨k + 1, by rw [wb_ru]; exact hk⟩
def wb_vv : wb_R → Option wb_H
  | (none, h, _) => some h
  | _ => none
def wb_vi : wb_R → Option (Int32 × wb_H)
  | (some (.inl x), h, _) => some (x, h)
  | _ => none
def wb_vl : wb_R → Option (Int64 × wb_H)
  | (some (.inr (.inl x)), h, _) => some (x, h)
  | _ => none
def wb_vr (t : Nat) : wb_R → Option wb_H
  | (some (.inr (.inr r)), h, _) => bif Nat.beq r.1 t && Nat.beq r.2 0 then some h else none
  | _ => none
noncomputable def wb_Q {ρ : Type} (sc : wb_X) (rt : wb_R → Option ρ) (m p : Nat) (ls : wb_L) (st : List wb_V) (h : wb_H) : Option ρ := (wb_D sc m (p, ls, st, h, wb_n0)).bind rt
noncomputable def wb_F {ρ : Type} (sc : wb_X) (rt : wb_R → Option ρ) (m : Nat) (as : List wb_V) (h : wb_H) : Option ρ := wb_Q sc rt m 0 (wb_el as (wb_pn m)) [] h
noncomputable def wb_gx {ρ : Type} (sc : wb_X) (rt : wb_R → Option ρ) (K : wb_C → Option ρ) : wb_A → Option ρ
  | .inl b => wb_ib K b.1 b.2
  | .inr (.inl ((y, as, h, n), b, kd, p, ls, st)) => bif b then (match kd with
    | 0 => (wb_F sc wb_vv y as h).bind (fun h1 => K (p, ls, st, h1, n))
    | 1 => (wb_F sc wb_vi y as h).bind (fun r => K (p, ls, .inl r.1 :: st, r.2, n))
    | 2 => (wb_F sc wb_vl y as h).bind (fun r => K (p, ls, .inr (.inl r.1) :: st, r.2, n))
    | k + 3 => (wb_F sc (wb_vr k) y as h).bind (fun h1 => K (p, ls, .inr (.inr (k, 0)) :: st, h1, n))) else none
  | .inr (.inr (b, r)) => bif b then rt r else none
def wb_mem (p : Nat) : List Nat → Bool
  | [] => false
  | q :: l => bif Nat.beq p q then true else wb_mem p l
def wb_dp (cl : List wb_E) (p : Nat) (ls : wb_L) : wb_L := match wb_ft cl p with
  | some e => wb_dr ls e.2.2.2
  | none => ls
noncomputable def wb_go {ρ : Type} (sc : wb_X) (rt : wb_R → Option ρ) (cut : List Nat) (m : Nat) (cl : List wb_E) : Nat → Nat → wb_L → List wb_V → wb_H → Option ρ
  | 0, p, ls, st, h => wb_Q sc rt m p ls st h
  | f + 1, p, ls, st, h => wb_gx sc rt (fun c => bif wb_mem c.1 cut then wb_Q sc rt m c.1 (wb_dp cl c.1 c.2.1) c.2.2.1 c.2.2.2.1 else wb_go sc rt cut m cl f c.1 c.2.1 c.2.2.1 c.2.2.2.1) (wb_ac true sc m cl (p, ls, st, h, wb_n0))
theorem wb_s_comm : ∀ (ls : wb_L) (a b : Nat), wb_s (wb_s ls a none) b none = wb_s (wb_s ls b none) a none
  | [], a, b => by simp [wb_s]
  | x :: l, 0, 0 => rfl
  | x :: l, 0, b + 1 => by simp [wb_s]
  | x :: l, a + 1, 0 => by simp [wb_s]
  | x :: l, a + 1, b + 1 => by simp [wb_s, wb_s_comm l a b]
theorem wb_s_idem : ∀ (ls : wb_L) (a : Nat), wb_s (wb_s ls a none) a none = wb_s ls a none
  | [], a => by simp [wb_s]
  | x :: l, 0 => by simp [wb_s]
  | x :: l, a + 1 => by simp [wb_s, wb_s_idem l a]
theorem wb_dr_s : ∀ (ks : List Nat) (ls : wb_L) (k : Nat), wb_dr (wb_s ls k none) ks = wb_s (wb_dr ls ks) k none
  | [], ls, k => rfl
  | j :: ks, ls, k => by simp only [wb_dr]; rw [wb_s_comm, wb_dr_s ks]
theorem wb_dr_idem : ∀ (ks : List Nat) (ls : wb_L), wb_dr (wb_dr ls ks) ks = wb_dr ls ks
  | [], ls => rfl
  | k :: ks, ls => by
    simp only [wb_dr]
    rw [wb_dr_s ks ls k, wb_s_idem, wb_dr_s, wb_dr_idem ks ls]
theorem wb_D_dp (sc : wb_X) (m p : Nat) (ls : wb_L) (st : List wb_V) (h : wb_H) (n : wb_N) : wb_D sc m (p, wb_dp (wb_code m) p ls, st, h, n) = wb_D sc m (p, ls, st, h, n) := by
  rw [wb_D_eq, wb_D_eq sc m (p, ls, st, h, n)]
  congr 1
  simp only [wb_ac, wb_dp]
  cases wb_ft (wb_code m) p with
  | none => rfl
  | some e => simp only [wb_dr_idem]
theorem wb_go_eq {ρ : Type} {sc : wb_X} {m : Nat} {cl : List wb_E} (hcl : wb_code m = cl) (rt : wb_R → Option ρ) (cut : List Nat) : ∀ (f p : Nat) (ls : wb_L) (st : List wb_V) (h : wb_H), wb_go sc rt cut m cl f p ls st h = wb_Q sc rt m p ls st h := by
  subst hcl
  intro f
  induction f with
  | zero => intro p ls st h; rfl
  | succ f ih =>
    intro p ls st h
    have hK : ∀ c : wb_C, c.2.2.2.2 = wb_n0 → (bif wb_mem c.1 cut then wb_Q sc rt m c.1 (wb_dp (wb_code m) c.1 c.2.1) c.2.2.1 c.2.2.2.1 else wb_go sc rt cut m (wb_code m) f c.1 c.2.1 c.2.2.1 c.2.2.2.1) = (wb_D sc m c).bind rt := by
      rintro ⟨p', ls', st', h', n'⟩ hn
      simp only at hn
      subst hn
      cases wb_mem p' cut with
      | true => simp only [cond_true, wb_Q, wb_D_dp]
      | false => simp only [cond_false, ih, wb_Q]
    rw [wb_go, wb_Q, wb_D_eq]
    have hns : wb_ns wb_n0 (wb_ac true sc m (wb_code m) (p, ls, st, h, wb_n0)) := by
      unfold wb_ac
      split
      · exact wb_ns_st
      · exact wb_ns_wr
    revert hns
    cases wb_ac true sc m (wb_code m) (p, ls, st, h, wb_n0) with
    | inl b =>
      intro hns
      simp only [wb_gx, wb_ex, wb_ib_pick]
      cases hp : wb_pick b.1 b.2 with
      | none => rfl
      | some c' => exact hK c' (hns c' hp)
    | inr q =>
      cases q with
      | inl q =>
        obtain ⟨⟨y, as, h1, n1⟩, b, kd, p', ls', st'⟩ := q
        intro hns
        have hns : n1 = wb_n0 := hns
        subst hns
        simp only [wb_gx, wb_ex]
        cases b with
        | false => rfl
        | true =>
          simp only [cond_true]
          rw [Option.bind_assoc]
          have hen : wb_en y as h1 wb_n0 = (0, wb_el as (wb_pn y), [], h1, wb_n0) := rfl
          rw [hen]
          split
          · simp only [wb_F, wb_Q, Option.bind_assoc]
            congr 1
            funext r
            obtain ⟨v, h2, n2⟩ := r
            cases v with
            | none => exact hK (p', ls', st', h2, wb_n0) rfl
            | some v => rfl
          · simp only [wb_F, wb_Q, Option.bind_assoc]
            congr 1
            funext r
            obtain ⟨v, h2, n2⟩ := r
            match v with
            | none => rfl
            | some (.inl x) => exact hK (p', ls', .inl x :: st', h2, wb_n0) rfl
            | some (.inr (.inl x)) => rfl
            | some (.inr (.inr x)) => rfl
          · simp only [wb_F, wb_Q, Option.bind_assoc]
            congr 1
            funext r
            obtain ⟨v, h2, n2⟩ := r
            match v with
            | none => rfl
            | some (.inl x) => rfl
            | some (.inr (.inl x)) => exact hK (p', ls', .inr (.inl x) :: st', h2, wb_n0) rfl
            | some (.inr (.inr x)) => rfl
          · rename_i k
            simp only [wb_F, wb_Q, Option.bind_assoc]
            congr 1
            funext r
            obtain ⟨v, h2, n2⟩ := r
            match v with
            | none => rfl
            | some (.inl x) => rfl
            | some (.inr (.inl x)) => rfl
            | some (.inr (.inr x)) =>
              simp only [wb_vr, wb_rk]
              cases (Nat.beq x.1 k && Nat.beq x.2 0) with
              | false => rfl
              | true => exact hK (p', ls', .inr (.inr (k, 0)) :: st', h2, wb_n0) rfl
      | inr q => intro _; obtain ⟨b, r⟩ := q; cases b <;> rfl
end
section
/-! Unfolding equations, written by wip/whole/gen5.py; each is checked by the kernel against the code lists. -/
set_option maxRecDepth 100000
noncomputable def q_Tape_hasRoomFor (sc : wb_X) (h : wb_H) (a1 : Int32) : Option (Int32 × wb_H) := wb_F sc wb_vi 79 [.inr (.inr (18, 0)), .inl a1] h
theorem q_Tape_hasRoomFor_eq (sc : wb_X) (h : wb_H) (a1 : Int32) : q_Tape_hasRoomFor sc h a1 = (bif (decide ((Int32.ofInt 2000) < ((h.1 18 0 1) + a1))) then some ((Int32.ofInt 0), h) else some ((Int32.ofInt 1), h)) :=
  (wb_go_eq (m := 79) (cl := wb_k_Tape_hasRoomFor) rfl wb_vi [] 3000 0 _ [] h).symm.trans rfl
noncomputable def q_Tape_add (sc : wb_X) (h : wb_H) (a1 : Int32) : Option (wb_H) := wb_F sc wb_vv 80 [.inr (.inr (18, 0)), .inl a1] h
noncomputable def q_Tape_add_L3 (sc : wb_X) (h : wb_H) (v1 : Int32) (v2 : Int32) : Option (wb_H) := wb_Q sc wb_vv 80 3 [some (.inr (.inr (18, 0))), some (.inl v1), some (.inl v2)] [] h
theorem q_Tape_add_eq (sc : wb_X) (h : wb_H) (a1 : Int32) : q_Tape_add sc h a1 = ((q_Tape_add_L3 sc h a1 (Int32.ofInt 24))) :=
  (wb_go_eq (m := 80) (cl := wb_k_Tape_add) rfl wb_vv [3] 3000 0 _ [] h).symm.trans rfl
theorem q_Tape_add_L3_eq (sc : wb_X) (h : wb_H) (v1 : Int32) (v2 : Int32) : q_Tape_add_L3 sc h v1 v2 = (bif (decide (v2 < (Int32.ofInt 0))) then some h else bif (decide ((Int32.ofInt 2000) ≤ (h.1 18 0 1))) then (q_Tape_add_L3 sc h v1 (v2 + (Int32.ofInt (-8)))) else bif (wb_in (h.1 18 0 1) 2000) then (q_Tape_add_L3 sc (wb_iu (wb_iu h 55 0 ((h.1 18 0 1)).toNatClampNeg (vp_nar .byte (((v1).toUInt32 >>> ((v2).toUInt32 &&& Int32.toUInt32 31)).toInt32).toInt8.toInt32)) 18 0 1 (((wb_iu h 55 0 ((h.1 18 0 1)).toNatClampNeg (vp_nar .byte (((v1).toUInt32 >>> ((v2).toUInt32 &&& Int32.toUInt32 31)).toInt32).toInt8.toInt32)).1 18 0 1) + (Int32.ofInt 1))) v1 (v2 + (Int32.ofInt (-8)))) else none) :=
  (wb_go_eq (m := 80) (cl := wb_k_Tape_add) rfl wb_vv [3] 3000 3 [some (.inr (.inr (18, 0))), some (.inl v1), some (.inl v2)] [] h).symm.trans rfl
noncomputable def q_X_feed (sc : wb_X) (h : wb_H) (a1 : Int32) (a2 : Int32) (a3 : Int32) (a4 : Int32) (a5 : Int32) : Option (Int32 × wb_H) := wb_F sc wb_vi 95 [.inr (.inr (20, 0)), .inl a1, .inl a2, .inl a3, .inl a4, .inl a5] h
theorem q_X_feed_eq (sc : wb_X) (h : wb_H) (a1 : Int32) (a2 : Int32) (a3 : Int32) (a4 : Int32) (a5 : Int32) : q_X_feed sc h a1 a2 a3 a4 a5 = (((q_Tape_hasRoomFor sc h (Int32.ofInt 20)).bind fun r1 => bif (!decide (r1.1 = (Int32.ofInt 0))) then ((q_Tape_add sc r1.2 a1).bind fun h2 => ((q_Tape_add sc h2 a2).bind fun h3 => ((q_Tape_add sc h3 a3).bind fun h4 => ((q_Tape_add sc h4 a4).bind fun h5 => ((q_Tape_add sc h5 a5).bind fun h6 => some ((h6.1 18 0 1), h6)))))) else some ((Int32.ofInt (-1)), r1.2))) :=
  (wb_go_eq (m := 95) (cl := wb_k_X_feed) rfl wb_vi [] 3000 0 _ [] h).symm.trans rfl
noncomputable def q_M_put (sc : wb_X) (h : wb_H) (a1 : Int32) : Option (wb_H) := wb_F sc wb_vv 152 [.inr (.inr (21, 0)), .inl a1] h
noncomputable def q_M_put_L3 (sc : wb_X) (h : wb_H) (v1 : Int32) (v2 : Int32) : Option (wb_H) := wb_Q sc wb_vv 152 3 [some (.inr (.inr (21, 0))), some (.inl v1), some (.inl v2)] [] h
theorem q_M_put_eq (sc : wb_X) (h : wb_H) (a1 : Int32) : q_M_put sc h a1 = ((q_M_put_L3 sc h a1 (Int32.ofInt 24))) :=
  (wb_go_eq (m := 152) (cl := wb_k_M_put) rfl wb_vv [3] 3000 0 _ [] h).symm.trans rfl
theorem q_M_put_L3_eq (sc : wb_X) (h : wb_H) (v1 : Int32) (v2 : Int32) : q_M_put_L3 sc h v1 v2 = (bif (decide (v2 < (Int32.ofInt 0))) then some h else bif (wb_in (h.1 21 0 2) 2000) then (q_M_put_L3 sc (wb_iu (wb_iu h 65 0 ((h.1 21 0 2)).toNatClampNeg (vp_nar .byte ((v1 >>> (v2 &&& 31))).toInt8.toInt32)) 21 0 2 (((wb_iu h 65 0 ((h.1 21 0 2)).toNatClampNeg (vp_nar .byte ((v1 >>> (v2 &&& 31))).toInt8.toInt32)).1 21 0 2) + (Int32.ofInt 1))) v1 (v2 + (Int32.ofInt (-8)))) else none) :=
  (wb_go_eq (m := 152) (cl := wb_k_M_put) rfl wb_vv [3] 3000 3 [some (.inr (.inr (21, 0))), some (.inl v1), some (.inl v2)] [] h).symm.trans rfl
noncomputable def q_M_feed (sc : wb_X) (h : wb_H) (a1 : Int32) (a2 : Int32) (a3 : Int32) (a4 : Int32) (a5 : Int32) : Option (Int32 × wb_H) := wb_F sc wb_vi 151 [.inr (.inr (21, 0)), .inl a1, .inl a2, .inl a3, .inl a4, .inl a5] h
theorem q_M_feed_eq (sc : wb_X) (h : wb_H) (a1 : Int32) (a2 : Int32) (a3 : Int32) (a4 : Int32) (a5 : Int32) : q_M_feed sc h a1 a2 a3 a4 a5 = (bif (decide (((h.1 21 0 2) + (Int32.ofInt 20)) ≤ (Int32.ofInt 2000))) then ((q_M_put sc h a1).bind fun h1 => ((q_M_put sc h1 a2).bind fun h2 => ((q_M_put sc h2 a3).bind fun h3 => ((q_M_put sc h3 a4).bind fun h4 => ((q_M_put sc h4 a5).bind fun h5 => some ((h5.1 21 0 2), h5)))))) else some ((Int32.ofInt (-1)), h)) :=
  (wb_go_eq (m := 151) (cl := wb_k_M_feed) rfl wb_vi [] 3000 0 _ [] h).symm.trans rfl
noncomputable def q_X_back (sc : wb_X) (h : wb_H) (a1 : Int32) : Option (Int32 × wb_H) := wb_F sc wb_vi 96 [.inr (.inr (20, 0)), .inl a1] h
theorem q_X_back_eq (sc : wb_X) (h : wb_H) (a1 : Int32) : q_X_back sc h a1 = (bif (decide (a1 < (Int32.ofInt 0))) then some ((Int32.ofInt (-1)), h) else bif (decide (a1 ≤ (h.1 18 0 1))) then some (((wb_iu h 18 0 1 ((h.1 18 0 1) - a1)).1 18 0 1), (wb_iu h 18 0 1 ((h.1 18 0 1) - a1))) else some ((Int32.ofInt (-1)), h)) :=
  (wb_go_eq (m := 96) (cl := wb_k_X_back) rfl wb_vi [] 3000 0 _ [] h).symm.trans rfl
noncomputable def q_M_back (sc : wb_X) (h : wb_H) (a1 : Int32) : Option (Int32 × wb_H) := wb_F sc wb_vi 153 [.inr (.inr (21, 0)), .inl a1] h
theorem q_M_back_eq (sc : wb_X) (h : wb_H) (a1 : Int32) : q_M_back sc h a1 = (bif (decide (a1 < (Int32.ofInt 0))) then some ((Int32.ofInt (-1)), h) else bif (decide (a1 ≤ (h.1 21 0 2))) then some (((wb_iu h 21 0 2 ((h.1 21 0 2) - a1)).1 21 0 2), (wb_iu h 21 0 2 ((h.1 21 0 2) - a1))) else some ((Int32.ofInt (-1)), h)) :=
  (wb_go_eq (m := 153) (cl := wb_k_M_back) rfl wb_vi [] 3000 0 _ [] h).symm.trans rfl
noncomputable def q_Tokens_add (sc : wb_X) (h : wb_H) (a1 : Int32) (a2 : Int32) (a3 : Int64) : Option (wb_H) := wb_F sc wb_vv 88 [.inr (.inr (19, 0)), .inl a1, .inl a2, .inr (.inl a3)] h
theorem q_Tokens_add_eq (sc : wb_X) (h : wb_H) (a1 : Int32) (a2 : Int32) (a3 : Int64) : q_Tokens_add sc h a1 a2 a3 = (bif (decide ((Int32.ofInt 402) ≤ (h.1 19 0 4))) then some h else bif (wb_in (h.1 19 0 4) 402) then bif (wb_in ((wb_iu h 57 0 ((h.1 19 0 4)).toNatClampNeg a1).1 19 0 4) 402) then bif (wb_in ((wb_iu (wb_iu h 57 0 ((h.1 19 0 4)).toNatClampNeg a1) 58 0 (((wb_iu h 57 0 ((h.1 19 0 4)).toNatClampNeg a1).1 19 0 4)).toNatClampNeg a2).1 19 0 4) 402) then some (wb_iu (wb_lu (wb_iu (wb_iu h 57 0 ((h.1 19 0 4)).toNatClampNeg a1) 58 0 (((wb_iu h 57 0 ((h.1 19 0 4)).toNatClampNeg a1).1 19 0 4)).toNatClampNeg a2) 59 0 (((wb_iu (wb_iu h 57 0 ((h.1 19 0 4)).toNatClampNeg a1) 58 0 (((wb_iu h 57 0 ((h.1 19 0 4)).toNatClampNeg a1).1 19 0 4)).toNatClampNeg a2).1 19 0 4)).toNatClampNeg a3) 19 0 4 (((wb_lu (wb_iu (wb_iu h 57 0 ((h.1 19 0 4)).toNatClampNeg a1) 58 0 (((wb_iu h 57 0 ((h.1 19 0 4)).toNatClampNeg a1).1 19 0 4)).toNatClampNeg a2) 59 0 (((wb_iu (wb_iu h 57 0 ((h.1 19 0 4)).toNatClampNeg a1) 58 0 (((wb_iu h 57 0 ((h.1 19 0 4)).toNatClampNeg a1).1 19 0 4)).toNatClampNeg a2).1 19 0 4)).toNatClampNeg a3).1 19 0 4) + (Int32.ofInt 1))) else none else none else none) :=
  (wb_go_eq (m := 88) (cl := wb_k_Tokens_add) rfl wb_vv [] 3000 0 _ [] h).symm.trans rfl
noncomputable def q_Tape_at (sc : wb_X) (h : wb_H) (a1 : Int32) : Option (Int32 × wb_H) := wb_F sc wb_vi 81 [.inr (.inr (18, 0)), .inl a1] h
theorem q_Tape_at_eq (sc : wb_X) (h : wb_H) (a1 : Int32) : q_Tape_at sc h a1 = (bif (decide (a1 < (Int32.ofInt 0))) then some ((Int32.ofInt (-1)), h) else bif (decide ((h.1 18 0 1) ≤ a1)) then some ((Int32.ofInt (-1)), h) else bif (wb_in a1 2000) then some (((h.1 55 0 (a1).toNatClampNeg) &&& (Int32.ofInt 255)), h) else none) :=
  (wb_go_eq (m := 81) (cl := wb_k_Tape_at) rfl wb_vi [] 3000 0 _ [] h).symm.trans rfl
noncomputable def q_Tokens_isBlank (sc : wb_X) (h : wb_H) (a0 : Int32) : Option (Int32 × wb_H) := wb_F sc wb_vi 91 [.inl a0] h
theorem q_Tokens_isBlank_eq (sc : wb_X) (h : wb_H) (a0 : Int32) : q_Tokens_isBlank sc h a0 = (bif (decide (a0 = (Int32.ofInt 9))) then some ((Int32.ofInt 1), h) else bif (decide (a0 = (Int32.ofInt 10))) then some ((Int32.ofInt 1), h) else bif (decide (a0 = (Int32.ofInt 13))) then some ((Int32.ofInt 1), h) else bif (!decide (a0 = (Int32.ofInt 32))) then some ((Int32.ofInt 0), h) else some ((Int32.ofInt 1), h)) :=
  (wb_go_eq (m := 91) (cl := wb_k_Tokens_isBlank) rfl wb_vi [] 3000 0 _ [] h).symm.trans rfl
noncomputable def q_Tokens_isLetter (sc : wb_X) (h : wb_H) (a0 : Int32) : Option (Int32 × wb_H) := wb_F sc wb_vi 92 [.inl a0] h
theorem q_Tokens_isLetter_eq (sc : wb_X) (h : wb_H) (a0 : Int32) : q_Tokens_isLetter sc h a0 = (bif (decide (a0 < (Int32.ofInt 97))) then some ((Int32.ofInt 0), h) else bif (decide ((Int32.ofInt 122) < a0)) then some ((Int32.ofInt 0), h) else some ((Int32.ofInt 1), h)) :=
  (wb_go_eq (m := 92) (cl := wb_k_Tokens_isLetter) rfl wb_vi [] 3000 0 _ [] h).symm.trans rfl
noncomputable def q_Tokens_isDigit (sc : wb_X) (h : wb_H) (a0 : Int32) : Option (Int32 × wb_H) := wb_F sc wb_vi 93 [.inl a0] h
theorem q_Tokens_isDigit_eq (sc : wb_X) (h : wb_H) (a0 : Int32) : q_Tokens_isDigit sc h a0 = (bif (decide (a0 < (Int32.ofInt 48))) then some ((Int32.ofInt 0), h) else bif (decide ((Int32.ofInt 57) < a0)) then some ((Int32.ofInt 0), h) else some ((Int32.ofInt 1), h)) :=
  (wb_go_eq (m := 93) (cl := wb_k_Tokens_isDigit) rfl wb_vi [] 3000 0 _ [] h).symm.trans rfl
noncomputable def q_JString_isLatin1 (sc : wb_X) (h : wb_H) : Option (Int32 × wb_H) := wb_F sc wb_vi 274 [.inr (.inr (6, 0))] h
theorem q_JString_isLatin1_eq (sc : wb_X) (h : wb_H) : q_JString_isLatin1 sc h = (bif (!decide ((0 : Int32) = (Int32.ofInt 0))) then some ((Int32.ofInt 0), h) else some ((Int32.ofInt 1), h)) :=
  (wb_go_eq (m := 274) (cl := wb_k_JString_isLatin1) rfl wb_vi [] 3000 0 _ [] h).symm.trans rfl
noncomputable def q_JString_coder (sc : wb_X) (h : wb_H) : Option (Int32 × wb_H) := wb_F sc wb_vi 273 [.inr (.inr (6, 0))] h
theorem q_JString_coder_eq (sc : wb_X) (h : wb_H) : q_JString_coder sc h = (some ((0 : Int32), h)) :=
  (wb_go_eq (m := 273) (cl := wb_k_JString_coder) rfl wb_vi [] 3000 0 _ [] h).symm.trans rfl
noncomputable def q_JString_length (sc : wb_X) (h : wb_H) : Option (Int32 × wb_H) := wb_F sc wb_vi 269 [.inr (.inr (6, 0))] h
theorem q_JString_length_eq (sc : wb_X) (h : wb_H) : q_JString_length sc h = (((q_JString_coder sc h).bind fun r1 => some (((Int32.ofInt 9) >>> (r1.1 &&& 31)), r1.2))) :=
  (wb_go_eq (m := 269) (cl := wb_k_JString_length) rfl wb_vi [] 3000 0 _ [] h).symm.trans rfl
noncomputable def q_JStringLatin1_canEncode (sc : wb_X) (h : wb_H) (a0 : Int32) : Option (Int32 × wb_H) := wb_F sc wb_vi 277 [.inl a0] h
theorem q_JStringLatin1_canEncode_eq (sc : wb_X) (h : wb_H) (a0 : Int32) : q_JStringLatin1_canEncode sc h a0 = (bif (decide (a0 < (Int32.ofInt 0))) then some ((Int32.ofInt 0), h) else bif (decide ((Int32.ofInt 255) < a0)) then some ((Int32.ofInt 0), h) else some ((Int32.ofInt 1), h)) :=
  (wb_go_eq (m := 277) (cl := wb_k_JStringLatin1_canEncode) rfl wb_vi [] 3000 0 _ [] h).symm.trans rfl
noncomputable def q_JMath_max (sc : wb_X) (h : wb_H) (a0 : Int32) (a1 : Int32) : Option (Int32 × wb_H) := wb_F sc wb_vi 267 [.inl a0, .inl a1] h
theorem q_JMath_max_eq (sc : wb_X) (h : wb_H) (a0 : Int32) (a1 : Int32) : q_JMath_max sc h a0 a1 = (bif (decide (a0 < a1)) then some (a1, h) else some (a0, h)) :=
  (wb_go_eq (m := 267) (cl := wb_k_JMath_max) rfl wb_vi [] 3000 0 _ [] h).symm.trans rfl
noncomputable def q_JMath_min (sc : wb_X) (h : wb_H) (a0 : Int32) (a1 : Int32) : Option (Int32 × wb_H) := wb_F sc wb_vi 268 [.inl a0, .inl a1] h
theorem q_JMath_min_eq (sc : wb_X) (h : wb_H) (a0 : Int32) (a1 : Int32) : q_JMath_min sc h a0 a1 = (bif (decide (a1 < a0)) then some (a1, h) else some (a0, h)) :=
  (wb_go_eq (m := 268) (cl := wb_k_JMath_min) rfl wb_vi [] 3000 0 _ [] h).symm.trans rfl
noncomputable def q_JStringLatin1_indexOfChar_8 (sc : wb_X) (h : wb_H) (a1 : Int32) (a2 : Int32) (a3 : Int32) : Option (Int32 × wb_H) := wb_F sc wb_vi 279 [.inr (.inr (8, 0)), .inl a1, .inl a2, .inl a3] h
noncomputable def q_JStringLatin1_indexOfChar_8_L7 (sc : wb_X) (h : wb_H) (v3 : Int32) (v4 : Int32) (v5 : Int32) : Option (Int32 × wb_H) := wb_Q sc wb_vi 279 7 [some (.inr (.inr (8, 0))), none, none, some (.inl v3), some (.inl v4), some (.inl v5)] [] h
theorem q_JStringLatin1_indexOfChar_8_eq (sc : wb_X) (h : wb_H) (a1 : Int32) (a2 : Int32) (a3 : Int32) : q_JStringLatin1_indexOfChar_8 sc h a1 a2 a3 = ((q_JStringLatin1_indexOfChar_8_L7 sc h a3 ((a1).toInt8.toInt32) a2)) :=
  (wb_go_eq (m := 279) (cl := wb_k_JStringLatin1_indexOfChar) rfl wb_vi [7] 3000 0 _ [] h).symm.trans rfl
theorem q_JStringLatin1_indexOfChar_8_L7_eq (sc : wb_X) (h : wb_H) (v3 : Int32) (v4 : Int32) (v5 : Int32) : q_JStringLatin1_indexOfChar_8_L7 sc h v3 v4 v5 = (bif (decide (v3 ≤ v5)) then some ((Int32.ofInt (-1)), h) else bif (wb_in v5 (wb_tab wb_SB).1) then bif (!decide (((wb_tab wb_SB).2 (v5).toNatClampNeg) = v4)) then (q_JStringLatin1_indexOfChar_8_L7 sc h v3 v4 (v5 + (Int32.ofInt 1))) else some (v5, h) else none) :=
  (wb_go_eq (m := 279) (cl := wb_k_JStringLatin1_indexOfChar) rfl wb_vi [7] 3000 7 [some (.inr (.inr (8, 0))), none, none, some (.inl v3), some (.inl v4), some (.inl v5)] [] h).symm.trans rfl
noncomputable def q_JStringLatin1_indexOf_8 (sc : wb_X) (h : wb_H) (a1 : Int32) (a2 : Int32) (a3 : Int32) : Option (Int32 × wb_H) := wb_F sc wb_vi 278 [.inr (.inr (8, 0)), .inl a1, .inl a2, .inl a3] h
theorem q_JStringLatin1_indexOf_8_eq (sc : wb_X) (h : wb_H) (a1 : Int32) (a2 : Int32) (a3 : Int32) : q_JStringLatin1_indexOf_8 sc h a1 a2 a3 = (((q_JStringLatin1_canEncode sc h a1).bind fun r1 => bif (!decide (r1.1 = (Int32.ofInt 0))) then ((q_JMath_max sc r1.2 a2 (Int32.ofInt 0)).bind fun r2 => ((q_JMath_min sc r2.2 a3 (Int32.ofInt 9)).bind fun r3 => bif (decide (r2.1 < r3.1)) then ((q_JStringLatin1_indexOfChar_8 sc r3.2 a1 r2.1 r3.1).bind fun r4 => some (r4.1, r4.2)) else some ((Int32.ofInt (-1)), r3.2))) else some ((Int32.ofInt (-1)), r1.2))) :=
  (wb_go_eq (m := 278) (cl := wb_k_JStringLatin1_indexOf) rfl wb_vi [] 3000 0 _ [] h).symm.trans rfl
noncomputable def q_JString_indexOf2 (sc : wb_X) (h : wb_H) (a1 : Int32) (a2 : Int32) : Option (Int32 × wb_H) := wb_F sc wb_vi 272 [.inr (.inr (6, 0)), .inl a1, .inl a2] h
theorem q_JString_indexOf2_eq (sc : wb_X) (h : wb_H) (a1 : Int32) (a2 : Int32) : q_JString_indexOf2 sc h a1 a2 = (((q_JString_isLatin1 sc h).bind fun r1 => bif (decide (r1.1 = (Int32.ofInt 0))) then ((q_JString_length sc r1.2).bind fun r2 => none) else ((q_JString_length sc r1.2).bind fun r3 => ((q_JStringLatin1_indexOf_8 sc r3.2 a1 a2 r3.1).bind fun r4 => some (r4.1, r4.2))))) :=
  (wb_go_eq (m := 272) (cl := wb_k_JString_indexOf2) rfl wb_vi [] 3000 0 _ [] h).symm.trans rfl
noncomputable def q_JString_indexOf1 (sc : wb_X) (h : wb_H) (a1 : Int32) : Option (Int32 × wb_H) := wb_F sc wb_vi 271 [.inr (.inr (6, 0)), .inl a1] h
theorem q_JString_indexOf1_eq (sc : wb_X) (h : wb_H) (a1 : Int32) : q_JString_indexOf1 sc h a1 = (((q_JString_indexOf2 sc h a1 (Int32.ofInt 0)).bind fun r1 => some (r1.1, r1.2))) :=
  (wb_go_eq (m := 271) (cl := wb_k_JString_indexOf1) rfl wb_vi [] 3000 0 _ [] h).symm.trans rfl
noncomputable def q_Tokens_cutNoToken (sc : wb_X) (h : wb_H) (a2 : Int32) : Option (Int32 × wb_H) := wb_F sc wb_vi 87 [.inr (.inr (19, 0)), .inr (.inr (18, 0)), .inl a2] h
theorem q_Tokens_cutNoToken_eq (sc : wb_X) (h : wb_H) (a2 : Int32) : q_Tokens_cutNoToken sc h a2 = (((q_Tokens_add sc h (Int32.ofInt 102) a2 (Int64.ofNat 0)).bind fun h1 => some ((h1.1 18 0 1), h1))) :=
  (wb_go_eq (m := 87) (cl := wb_k_Tokens_cutNoToken) rfl wb_vi [] 3000 0 _ [] h).symm.trans rfl
noncomputable def q_Tokens_cutInt (sc : wb_X) (h : wb_H) (a2 : Int32) : Option (Int32 × wb_H) := wb_F sc wb_vi 86 [.inr (.inr (19, 0)), .inr (.inr (18, 0)), .inl a2] h
noncomputable def q_Tokens_cutInt_L5 (sc : wb_X) (h : wb_H) (v2 : Int32) (v3 : Int32) (v4 : Int64) : Option (Int32 × wb_H) := wb_Q sc wb_vi 86 5 [some (.inr (.inr (19, 0))), some (.inr (.inr (18, 0))), some (.inl v2), some (.inl v3), some (.inr (.inl v4)), none] [] h
theorem q_Tokens_cutInt_eq (sc : wb_X) (h : wb_H) (a2 : Int32) : q_Tokens_cutInt sc h a2 = ((q_Tokens_cutInt_L5 sc h a2 a2 (Int64.ofNat 0))) :=
  (wb_go_eq (m := 86) (cl := wb_k_Tokens_cutInt) rfl wb_vi [5] 3000 0 _ [] h).symm.trans rfl
theorem q_Tokens_cutInt_L5_eq (sc : wb_X) (h : wb_H) (v2 : Int32) (v3 : Int32) (v4 : Int64) : q_Tokens_cutInt_L5 sc h v2 v3 v4 = (bif (decide ((h.1 18 0 1) ≤ v3)) then bif (decide ((v3 - v2) ≤ (Int32.ofInt 4))) then ((q_Tokens_add sc h (Int32.ofInt 101) v2 v4).bind fun h1 => some (v3, h1)) else ((q_Tokens_cutNoToken sc h v2).bind fun r2 => some (r2.1, r2.2)) else ((q_Tape_at sc h v3).bind fun r3 => ((q_Tokens_isDigit sc r3.2 r3.1).bind fun r4 => bif (decide (r4.1 = (Int32.ofInt 0))) then bif (decide ((v3 - v2) ≤ (Int32.ofInt 4))) then ((q_Tokens_add sc r4.2 (Int32.ofInt 101) v2 v4).bind fun h5 => some (v3, h5)) else ((q_Tokens_cutNoToken sc r4.2 v2).bind fun r6 => some (r6.1, r6.2)) else ((q_Tape_at sc r4.2 v3).bind fun r7 => (q_Tokens_cutInt_L5 sc r7.2 v2 (v3 + (Int32.ofInt 1)) ((((Int64.ofNat 10) * v4) + (r7.1).toInt64) - (Int64.ofNat 48))))))) :=
  (wb_go_eq (m := 86) (cl := wb_k_Tokens_cutInt) rfl wb_vi [5] 3000 5 [some (.inr (.inr (19, 0))), some (.inr (.inr (18, 0))), some (.inl v2), some (.inl v3), some (.inr (.inl v4)), none] [] h).symm.trans rfl
noncomputable def q_Tokens_kindOf (sc : wb_X) (h : wb_H) (a1 : Int64) : Option (Int32 × wb_H) := wb_F sc wb_vi 89 [.inr (.inr (19, 0)), .inr (.inl a1)] h
noncomputable def q_Tokens_kindOf_L2 (sc : wb_X) (h : wb_H) (v1 : Int64) (v3 : Int32) : Option (Int32 × wb_H) := wb_Q sc wb_vi 89 2 [some (.inr (.inr (19, 0))), some (.inr (.inl v1)), none, some (.inl v3)] [] h
theorem q_Tokens_kindOf_eq (sc : wb_X) (h : wb_H) (a1 : Int64) : q_Tokens_kindOf sc h a1 = ((q_Tokens_kindOf_L2 sc h a1 (Int32.ofInt 0))) :=
  (wb_go_eq (m := 89) (cl := wb_k_Tokens_kindOf) rfl wb_vi [2] 3000 0 _ [] h).symm.trans rfl
theorem q_Tokens_kindOf_L2_eq (sc : wb_X) (h : wb_H) (v1 : Int64) (v3 : Int32) : q_Tokens_kindOf_L2 sc h v1 v3 = (bif (decide ((Int32.ofInt 22) ≤ v3)) then some ((Int32.ofInt 100), h) else bif (wb_in v3 22) then bif (!decide ((lg_cmp (h.2.1 56 0 (v3).toNatClampNeg) v1) = (Int32.ofInt 0))) then (q_Tokens_kindOf_L2 sc h v1 (v3 + (Int32.ofInt 1))) else some (v3, h) else none) :=
  (wb_go_eq (m := 89) (cl := wb_k_Tokens_kindOf) rfl wb_vi [2] 3000 2 [some (.inr (.inr (19, 0))), some (.inr (.inl v1)), none, some (.inl v3)] [] h).symm.trans rfl
noncomputable def q_Tokens_withLetter (sc : wb_X) (h : wb_H) (a0 : Int64) (a1 : Int32) : Option (Int64 × wb_H) := wb_F sc wb_vl 90 [.inr (.inl a0), .inl a1] h
theorem q_Tokens_withLetter_eq (sc : wb_X) (h : wb_H) (a0 : Int64) (a1 : Int32) : q_Tokens_withLetter sc h a0 a1 = (some (((((a0 * (Int64.ofNat 27)) + (a1).toInt64) - (Int64.ofNat 97)) + (Int64.ofNat 1)), h)) :=
  (wb_go_eq (m := 90) (cl := wb_k_Tokens_withLetter) rfl wb_vl [] 3000 0 _ [] h).symm.trans rfl
noncomputable def q_Tokens_cutWord (sc : wb_X) (h : wb_H) (a2 : Int32) : Option (Int32 × wb_H) := wb_F sc wb_vi 85 [.inr (.inr (19, 0)), .inr (.inr (18, 0)), .inl a2] h
noncomputable def q_Tokens_cutWord_L5 (sc : wb_X) (h : wb_H) (v2 : Int32) (v3 : Int32) (v4 : Int64) : Option (Int32 × wb_H) := wb_Q sc wb_vi 85 5 [some (.inr (.inr (19, 0))), some (.inr (.inr (18, 0))), some (.inl v2), some (.inl v3), some (.inr (.inl v4)), none] [] h
theorem q_Tokens_cutWord_eq (sc : wb_X) (h : wb_H) (a2 : Int32) : q_Tokens_cutWord sc h a2 = ((q_Tokens_cutWord_L5 sc h a2 a2 (Int64.ofNat 0))) :=
  (wb_go_eq (m := 85) (cl := wb_k_Tokens_cutWord) rfl wb_vi [5] 3000 0 _ [] h).symm.trans rfl
theorem q_Tokens_cutWord_L5_eq (sc : wb_X) (h : wb_H) (v2 : Int32) (v3 : Int32) (v4 : Int64) : q_Tokens_cutWord_L5 sc h v2 v3 v4 = (bif (decide ((h.1 18 0 1) ≤ v3)) then bif (decide ((v3 - v2) ≤ (Int32.ofInt 8))) then ((q_Tokens_kindOf sc h v4).bind fun r1 => ((q_Tokens_add sc r1.2 r1.1 v2 v4).bind fun h2 => some (v3, h2))) else ((q_Tokens_cutNoToken sc h v2).bind fun r3 => some (r3.1, r3.2)) else ((q_Tape_at sc h v3).bind fun r4 => ((q_Tokens_isLetter sc r4.2 r4.1).bind fun r5 => bif (decide (r5.1 = (Int32.ofInt 0))) then bif (decide ((v3 - v2) ≤ (Int32.ofInt 8))) then ((q_Tokens_kindOf sc r5.2 v4).bind fun r6 => ((q_Tokens_add sc r6.2 r6.1 v2 v4).bind fun h7 => some (v3, h7))) else ((q_Tokens_cutNoToken sc r5.2 v2).bind fun r8 => some (r8.1, r8.2)) else ((q_Tape_at sc r5.2 v3).bind fun r9 => ((q_Tokens_withLetter sc r9.2 v4 r9.1).bind fun r10 => (q_Tokens_cutWord_L5 sc r10.2 v2 (v3 + (Int32.ofInt 1)) r10.1)))))) :=
  (wb_go_eq (m := 85) (cl := wb_k_Tokens_cutWord) rfl wb_vi [5] 3000 5 [some (.inr (.inr (19, 0))), some (.inr (.inr (18, 0))), some (.inl v2), some (.inl v3), some (.inr (.inl v4)), none] [] h).symm.trans rfl
noncomputable def q_Tokens_cutOne (sc : wb_X) (h : wb_H) (a2 : Int32) : Option (Int32 × wb_H) := wb_F sc wb_vi 84 [.inr (.inr (19, 0)), .inr (.inr (18, 0)), .inl a2] h
theorem q_Tokens_cutOne_eq (sc : wb_X) (h : wb_H) (a2 : Int32) : q_Tokens_cutOne sc h a2 = (((q_Tape_at sc h a2).bind fun r1 => ((q_Tokens_isLetter sc r1.2 r1.1).bind fun r2 => bif (decide (r2.1 = (Int32.ofInt 0))) then ((q_Tokens_isDigit sc r2.2 r1.1).bind fun r3 => bif (decide (r3.1 = (Int32.ofInt 0))) then ((q_JString_indexOf1 sc r3.2 (((r1.1).toUInt32 % 65536).toInt32)).bind fun r4 => bif (decide (r4.1 < (Int32.ofInt 0))) then ((q_Tokens_cutNoToken sc r4.2 a2).bind fun r5 => some (r5.1, r5.2)) else ((q_Tokens_add sc r4.2 r1.1 a2 (Int64.ofNat 0)).bind fun h6 => some ((a2 + (Int32.ofInt 1)), h6))) else ((q_Tokens_cutInt sc r3.2 a2).bind fun r7 => some (r7.1, r7.2))) else ((q_Tokens_cutWord sc r2.2 a2).bind fun r8 => some (r8.1, r8.2))))) :=
  (wb_go_eq (m := 84) (cl := wb_k_Tokens_cutOne) rfl wb_vi [] 3000 0 _ [] h).symm.trans rfl
noncomputable def q_Tokens_cut (sc : wb_X) (h : wb_H) : Option (wb_H) := wb_F sc wb_vv 83 [.inr (.inr (19, 0)), .inr (.inr (18, 0))] h
noncomputable def q_Tokens_cut_L9 (sc : wb_X) (h : wb_H) (v2 : Int32) (v3 : Int32) : Option (wb_H) := wb_Q sc wb_vv 83 9 [some (.inr (.inr (19, 0))), some (.inr (.inr (18, 0))), some (.inl v2), some (.inl v3)] [] h
theorem q_Tokens_cut_eq (sc : wb_X) (h : wb_H) : q_Tokens_cut sc h = ((q_Tokens_cut_L9 sc (wb_iu h 19 0 4 (Int32.ofInt 0)) (Int32.ofInt 0) (Int32.ofInt 0))) :=
  (wb_go_eq (m := 83) (cl := wb_k_Tokens_cut) rfl wb_vv [9] 3000 0 _ [] h).symm.trans rfl
theorem q_Tokens_cut_L9_eq (sc : wb_X) (h : wb_H) (v2 : Int32) (v3 : Int32) : q_Tokens_cut_L9 sc h v2 v3 = (bif (decide ((Int32.ofInt 2000) ≤ v3)) then ((q_Tokens_add sc h (Int32.ofInt 103) (h.1 18 0 1) (Int64.ofNat 0)).bind fun h1 => some h1) else bif (decide ((h.1 18 0 1) ≤ v2)) then ((q_Tokens_add sc h (Int32.ofInt 103) (h.1 18 0 1) (Int64.ofNat 0)).bind fun h2 => some h2) else bif (decide ((Int32.ofInt 400) < (h.1 19 0 4))) then ((q_Tokens_add sc h (Int32.ofInt 103) (h.1 18 0 1) (Int64.ofNat 0)).bind fun h3 => some h3) else ((q_Tape_at sc h v2).bind fun r4 => ((q_Tokens_isBlank sc r4.2 r4.1).bind fun r5 => bif (decide (r5.1 = (Int32.ofInt 0))) then ((q_Tokens_cutOne sc r5.2 v2).bind fun r6 => (q_Tokens_cut_L9 sc r6.2 r6.1 (v3 + (Int32.ofInt 1)))) else (q_Tokens_cut_L9 sc r5.2 (v2 + (Int32.ofInt 1)) (v3 + (Int32.ofInt 1)))))) :=
  (wb_go_eq (m := 83) (cl := wb_k_Tokens_cut) rfl wb_vv [9] 3000 9 [some (.inr (.inr (19, 0))), some (.inr (.inr (18, 0))), some (.inl v2), some (.inl v3)] [] h).symm.trans rfl
noncomputable def q_Laws_clear (sc : wb_X) (h : wb_H) (o0 : Nat) : Option (wb_H) := wb_F sc wb_vv 36 [.inr (.inr (13, o0))] h
theorem q_Laws_clear_eq (sc : wb_X) (h : wb_H) (o0 : Nat) : q_Laws_clear sc h o0 = (bif (decide (o0 < 2)) then some (wb_iu h 13 o0 6 (Int32.ofInt 0)) else none) :=
  (wb_go_eq (m := 36) (cl := wb_k_Laws_clear) rfl wb_vv [] 3000 0 _ [] h).symm.trans rfl
noncomputable def q_Plan_clear (sc : wb_X) (h : wb_H) (o0 : Nat) : Option (wb_H) := wb_F sc wb_vv 51 [.inr (.inr (15, o0))] h
theorem q_Plan_clear_eq (sc : wb_X) (h : wb_H) (o0 : Nat) : q_Plan_clear sc h o0 = (bif (decide (o0 < 2)) then bif (decide (o0 < 2)) then bif (decide (o0 < 2)) then ((q_Laws_clear sc (wb_iu h 15 o0 0 (Int32.ofInt 0)) o0).bind fun h1 => bif (decide (o0 < 2)) then bif (decide (o0 < 2)) then bif (decide (o0 < 2)) then bif (decide (o0 < 2)) then bif (decide (o0 < 2)) then some (wb_iu (wb_iu (wb_iu (wb_iu (wb_iu h1 15 o0 7 (Int32.ofInt 5)) 15 o0 8 (Int32.ofInt 10)) 15 o0 9 (Int32.ofInt 5)) 15 o0 10 (Int32.ofInt 3)) 15 o0 11 (Int32.ofInt 0)) else none else none else none else none else none) else none else none else none) :=
  (wb_go_eq (m := 51) (cl := wb_k_Plan_clear) rfl wb_vv [] 3000 0 _ [] h).symm.trans rfl
noncomputable def q_Reader_fail (sc : wb_X) (h : wb_H) (a1 : Int32) : Option (wb_H) := wb_F sc wb_vv 58 [.inr (.inr (16, 0)), .inl a1] h
theorem q_Reader_fail_eq (sc : wb_X) (h : wb_H) (a1 : Int32) : q_Reader_fail sc h a1 = (bif (!decide ((h.1 16 0 8) = (Int32.ofInt 0))) then some h else bif (wb_in ((wb_iu h 16 0 8 a1).1 16 0 3) 402) then some (wb_iu (wb_iu h 16 0 8 a1) 16 0 9 ((wb_iu h 16 0 8 a1).1 58 0 (((wb_iu h 16 0 8 a1).1 16 0 3)).toNatClampNeg)) else none) :=
  (wb_go_eq (m := 58) (cl := wb_k_Reader_fail) rfl wb_vv [] 3000 0 _ [] h).symm.trans rfl
noncomputable def q_Reader_take (sc : wb_X) (h : wb_H) (a1 : Int32) : Option (wb_H) := wb_F sc wb_vv 60 [.inr (.inr (16, 0)), .inl a1] h
theorem q_Reader_take_eq (sc : wb_X) (h : wb_H) (a1 : Int32) : q_Reader_take sc h a1 = (bif (decide ((h.1 16 0 4) = a1)) then bif (decide ((h.1 16 0 3) < (Int32.ofInt 400))) then bif (!decide ((h.1 16 0 8) = (Int32.ofInt 0))) then some h else bif (decide ((h.1 19 0 4) ≤ ((h.1 16 0 3) + (Int32.ofInt 1)))) then some h else bif (wb_in ((wb_iu h 16 0 3 ((h.1 16 0 3) + (Int32.ofInt 1))).1 16 0 3) 402) then some (wb_iu (wb_iu h 16 0 3 ((h.1 16 0 3) + (Int32.ofInt 1))) 16 0 4 ((wb_iu h 16 0 3 ((h.1 16 0 3) + (Int32.ofInt 1))).1 57 0 (((wb_iu h 16 0 3 ((h.1 16 0 3) + (Int32.ofInt 1))).1 16 0 3)).toNatClampNeg)) else none else ((q_Reader_fail sc h (Int32.ofInt 2)).bind fun h1 => some h1) else ((q_Reader_fail sc h (Int32.ofInt 1)).bind fun h2 => some h2)) :=
  (wb_go_eq (m := 60) (cl := wb_k_Reader_take) rfl wb_vv [] 3000 0 _ [] h).symm.trans rfl
noncomputable def q_Reader_failLater (sc : wb_X) (h : wb_H) (a1 : Int32) : Option (wb_H) := wb_F sc wb_vv 59 [.inr (.inr (16, 0)), .inl a1] h
theorem q_Reader_failLater_eq (sc : wb_X) (h : wb_H) (a1 : Int32) : q_Reader_failLater sc h a1 = (bif (!decide ((h.1 16 0 6) = (Int32.ofInt 0))) then some h else bif (wb_in ((wb_iu h 16 0 6 a1).1 16 0 3) 402) then some (wb_iu (wb_iu h 16 0 6 a1) 16 0 7 ((wb_iu h 16 0 6 a1).1 58 0 (((wb_iu h 16 0 6 a1).1 16 0 3)).toNatClampNeg)) else none) :=
  (wb_go_eq (m := 59) (cl := wb_k_Reader_failLater) rfl wb_vv [] 3000 0 _ [] h).symm.trans rfl
noncomputable def q_Reader_takeInt (sc : wb_X) (h : wb_H) (a1 : Int32) : Option (Int32 × wb_H) := wb_F sc wb_vi 61 [.inr (.inr (16, 0)), .inl a1] h
theorem q_Reader_takeInt_eq (sc : wb_X) (h : wb_H) (a1 : Int32) : q_Reader_takeInt sc h a1 = (bif (wb_in (h.1 16 0 3) 402) then bif (!decide ((h.1 16 0 4) = (Int32.ofInt 101))) then ((q_Reader_take sc h (Int32.ofInt 101)).bind fun h1 => some (((h.2.1 59 0 ((h.1 16 0 3)).toNatClampNeg)).toInt32, h1)) else bif (decide (((h.2.1 59 0 ((h.1 16 0 3)).toNatClampNeg)).toInt32 ≤ a1)) then ((q_Reader_take sc h (Int32.ofInt 101)).bind fun h2 => some (((h.2.1 59 0 ((h.1 16 0 3)).toNatClampNeg)).toInt32, h2)) else ((q_Reader_failLater sc h (Int32.ofInt 5)).bind fun h3 => ((q_Reader_take sc h3 (Int32.ofInt 101)).bind fun h4 => some (((h.2.1 59 0 ((h.1 16 0 3)).toNatClampNeg)).toInt32, h4))) else none) :=
  (wb_go_eq (m := 61) (cl := wb_k_Reader_takeInt) rfl wb_vi [] 3000 0 _ [] h).symm.trans rfl
noncomputable def q_Plan_find (sc : wb_X) (h : wb_H) (o0 : Nat) (a1 : Int64) : Option (Int32 × wb_H) := wb_F sc wb_vi 52 [.inr (.inr (15, o0)), .inr (.inl a1)] h
noncomputable def q_Plan_find_L2 (sc : wb_X) (h : wb_H) (v0 : Nat) (v1 : Int64) (v3 : Int32) : Option (Int32 × wb_H) := wb_Q sc wb_vi 52 2 [some (.inr (.inr (15, v0))), some (.inr (.inl v1)), none, some (.inl v3)] [] h
theorem q_Plan_find_eq (sc : wb_X) (h : wb_H) (o0 : Nat) (a1 : Int64) : q_Plan_find sc h o0 a1 = ((q_Plan_find_L2 sc h o0 a1 (Int32.ofInt 0))) :=
  (wb_go_eq (m := 52) (cl := wb_k_Plan_find) rfl wb_vi [2] 3000 0 _ [] h).symm.trans rfl
theorem q_Plan_find_L2_eq (sc : wb_X) (h : wb_H) (v0 : Nat) (v1 : Int64) (v3 : Int32) : q_Plan_find_L2 sc h v0 v1 v3 = (bif (decide (v0 < 2)) then bif (decide ((h.1 15 v0 0) ≤ v3)) then some ((Int32.ofInt (-1)), h) else bif (decide (v0 < 2)) then bif (decide (v0 < 2) && wb_in v3 6) then bif (!decide ((lg_cmp (h.2.1 48 v0 (v3).toNatClampNeg) v1) = (Int32.ofInt 0))) then (q_Plan_find_L2 sc h v0 v1 (v3 + (Int32.ofInt 1))) else some (v3, h) else none else none else none) :=
  (wb_go_eq (m := 52) (cl := wb_k_Plan_find) rfl wb_vi [2] 3000 2 [some (.inr (.inr (15, v0))), some (.inr (.inl v1)), none, some (.inl v3)] [] h).symm.trans rfl
noncomputable def q_Reader_parseHouse (sc : wb_X) (h : wb_H) (a1 : Int32) : Option (wb_H) := wb_F sc wb_vv 63 [.inr (.inr (16, 0)), .inl a1] h
theorem q_Reader_parseHouse_eq (sc : wb_X) (h : wb_H) (a1 : Int32) : q_Reader_parseHouse sc h a1 = (((q_Reader_take sc h (Int32.ofInt 0)).bind fun h1 => bif (decide (0 < h1.2.2 16 0 2)) then bif (decide ((h1.2.2 16 0 2 - 1) < 2)) then bif (wb_in (h1.1 16 0 3) 402) then bif (decide ((h1.2.2 16 0 2 - 1) < 2) && wb_in a1 6) then bif (!decide (((wb_lu h1 48 (h1.2.2 16 0 2 - 1) (a1).toNatClampNeg (h1.2.1 59 0 ((h1.1 16 0 3)).toNatClampNeg)).1 16 0 4) = (Int32.ofInt 100))) then ((q_Reader_take sc (wb_lu h1 48 (h1.2.2 16 0 2 - 1) (a1).toNatClampNeg (h1.2.1 59 0 ((h1.1 16 0 3)).toNatClampNeg)) (Int32.ofInt 100)).bind fun h2 => bif (decide (0 < h2.2.2 16 0 2)) then bif (decide ((h2.2.2 16 0 2 - 1) < 2)) then ((q_Reader_takeInt sc h2 (Int32.ofInt 10)).bind fun r3 => bif (decide ((h2.2.2 16 0 2 - 1) < 2) && wb_in a1 6) then bif (decide (0 < (wb_iu r3.2 49 (h2.2.2 16 0 2 - 1) (a1).toNatClampNeg r3.1).2.2 16 0 2)) then bif (decide (((wb_iu r3.2 49 (h2.2.2 16 0 2 - 1) (a1).toNatClampNeg r3.1).2.2 16 0 2 - 1) < 2)) then ((q_Reader_takeInt sc (wb_iu r3.2 49 (h2.2.2 16 0 2 - 1) (a1).toNatClampNeg r3.1) (Int32.ofInt 6)).bind fun r4 => bif (decide (((wb_iu r3.2 49 (h2.2.2 16 0 2 - 1) (a1).toNatClampNeg r3.1).2.2 16 0 2 - 1) < 2) && wb_in a1 6) then some (wb_iu r4.2 50 ((wb_iu r3.2 49 (h2.2.2 16 0 2 - 1) (a1).toNatClampNeg r3.1).2.2 16 0 2 - 1) (a1).toNatClampNeg r4.1) else none) else none else none else none) else none else none) else bif (decide (0 < (wb_lu h1 48 (h1.2.2 16 0 2 - 1) (a1).toNatClampNeg (h1.2.1 59 0 ((h1.1 16 0 3)).toNatClampNeg)).2.2 16 0 2)) then bif (wb_in ((wb_lu h1 48 (h1.2.2 16 0 2 - 1) (a1).toNatClampNeg (h1.2.1 59 0 ((h1.1 16 0 3)).toNatClampNeg)).1 16 0 3) 402) then bif (decide (((wb_lu h1 48 (h1.2.2 16 0 2 - 1) (a1).toNatClampNeg (h1.2.1 59 0 ((h1.1 16 0 3)).toNatClampNeg)).2.2 16 0 2 - 1) < 2)) then ((q_Plan_find sc (wb_lu h1 48 (h1.2.2 16 0 2 - 1) (a1).toNatClampNeg (h1.2.1 59 0 ((h1.1 16 0 3)).toNatClampNeg)) ((wb_lu h1 48 (h1.2.2 16 0 2 - 1) (a1).toNatClampNeg (h1.2.1 59 0 ((h1.1 16 0 3)).toNatClampNeg)).2.2 16 0 2 - 1) ((wb_lu h1 48 (h1.2.2 16 0 2 - 1) (a1).toNatClampNeg (h1.2.1 59 0 ((h1.1 16 0 3)).toNatClampNeg)).2.1 59 0 (((wb_lu h1 48 (h1.2.2 16 0 2 - 1) (a1).toNatClampNeg (h1.2.1 59 0 ((h1.1 16 0 3)).toNatClampNeg)).1 16 0 3)).toNatClampNeg)).bind fun r5 => bif (decide (r5.1 = (Int32.ofInt (-1)))) then ((q_Reader_take sc r5.2 (Int32.ofInt 100)).bind fun h6 => bif (decide (0 < h6.2.2 16 0 2)) then bif (decide ((h6.2.2 16 0 2 - 1) < 2)) then ((q_Reader_takeInt sc h6 (Int32.ofInt 10)).bind fun r7 => bif (decide ((h6.2.2 16 0 2 - 1) < 2) && wb_in a1 6) then bif (decide (0 < (wb_iu r7.2 49 (h6.2.2 16 0 2 - 1) (a1).toNatClampNeg r7.1).2.2 16 0 2)) then bif (decide (((wb_iu r7.2 49 (h6.2.2 16 0 2 - 1) (a1).toNatClampNeg r7.1).2.2 16 0 2 - 1) < 2)) then ((q_Reader_takeInt sc (wb_iu r7.2 49 (h6.2.2 16 0 2 - 1) (a1).toNatClampNeg r7.1) (Int32.ofInt 6)).bind fun r8 => bif (decide (((wb_iu r7.2 49 (h6.2.2 16 0 2 - 1) (a1).toNatClampNeg r7.1).2.2 16 0 2 - 1) < 2) && wb_in a1 6) then some (wb_iu r8.2 50 ((wb_iu r7.2 49 (h6.2.2 16 0 2 - 1) (a1).toNatClampNeg r7.1).2.2 16 0 2 - 1) (a1).toNatClampNeg r8.1) else none) else none else none else none) else none else none) else ((q_Reader_failLater sc r5.2 (Int32.ofInt 3)).bind fun h9 => ((q_Reader_take sc h9 (Int32.ofInt 100)).bind fun h10 => bif (decide (0 < h10.2.2 16 0 2)) then bif (decide ((h10.2.2 16 0 2 - 1) < 2)) then ((q_Reader_takeInt sc h10 (Int32.ofInt 10)).bind fun r11 => bif (decide ((h10.2.2 16 0 2 - 1) < 2) && wb_in a1 6) then bif (decide (0 < (wb_iu r11.2 49 (h10.2.2 16 0 2 - 1) (a1).toNatClampNeg r11.1).2.2 16 0 2)) then bif (decide (((wb_iu r11.2 49 (h10.2.2 16 0 2 - 1) (a1).toNatClampNeg r11.1).2.2 16 0 2 - 1) < 2)) then ((q_Reader_takeInt sc (wb_iu r11.2 49 (h10.2.2 16 0 2 - 1) (a1).toNatClampNeg r11.1) (Int32.ofInt 6)).bind fun r12 => bif (decide (((wb_iu r11.2 49 (h10.2.2 16 0 2 - 1) (a1).toNatClampNeg r11.1).2.2 16 0 2 - 1) < 2) && wb_in a1 6) then some (wb_iu r12.2 50 ((wb_iu r11.2 49 (h10.2.2 16 0 2 - 1) (a1).toNatClampNeg r11.1).2.2 16 0 2 - 1) (a1).toNatClampNeg r12.1) else none) else none else none else none) else none else none))) else none else none else none else none else none else none else none)) :=
  (wb_go_eq (m := 63) (cl := wb_k_Reader_parseHouse) rfl wb_vv [] 3000 0 _ [] h).symm.trans rfl
noncomputable def q_Reader_parseModel (sc : wb_X) (h : wb_H) (a1 : Int32) : Option (wb_H) := wb_F sc wb_vv 65 [.inr (.inr (16, 0)), .inl a1] h
theorem q_Reader_parseModel_eq (sc : wb_X) (h : wb_H) (a1 : Int32) : q_Reader_parseModel sc h a1 = (bif (decide (0 < h.2.2 16 0 2)) then bif (decide ((h.2.2 16 0 2 - 1) < 2)) then bif (decide (0 < h.2.2 16 0 2)) then bif (wb_in (h.1 16 0 3) 402) then bif (decide ((h.2.2 16 0 2 - 1) < 2)) then ((q_Plan_find sc h (h.2.2 16 0 2 - 1) (h.2.1 59 0 ((h.1 16 0 3)).toNatClampNeg)).bind fun r1 => bif (decide ((h.2.2 16 0 2 - 1) < 2) && wb_in a1 6) then bif (!decide (((wb_iu r1.2 52 (h.2.2 16 0 2 - 1) (a1).toNatClampNeg r1.1).1 16 0 4) = (Int32.ofInt 100))) then ((q_Reader_take sc (wb_iu r1.2 52 (h.2.2 16 0 2 - 1) (a1).toNatClampNeg r1.1) (Int32.ofInt 100)).bind fun h2 => some h2) else bif (decide (0 < (wb_iu r1.2 52 (h.2.2 16 0 2 - 1) (a1).toNatClampNeg r1.1).2.2 16 0 2)) then bif (decide (((wb_iu r1.2 52 (h.2.2 16 0 2 - 1) (a1).toNatClampNeg r1.1).2.2 16 0 2 - 1) < 2)) then bif (decide (((wb_iu r1.2 52 (h.2.2 16 0 2 - 1) (a1).toNatClampNeg r1.1).2.2 16 0 2 - 1) < 2) && wb_in a1 6) then bif (!decide (((wb_iu r1.2 52 (h.2.2 16 0 2 - 1) (a1).toNatClampNeg r1.1).1 52 ((wb_iu r1.2 52 (h.2.2 16 0 2 - 1) (a1).toNatClampNeg r1.1).2.2 16 0 2 - 1) (a1).toNatClampNeg) = (Int32.ofInt (-1)))) then ((q_Reader_take sc (wb_iu r1.2 52 (h.2.2 16 0 2 - 1) (a1).toNatClampNeg r1.1) (Int32.ofInt 100)).bind fun h3 => some h3) else ((q_Reader_failLater sc (wb_iu r1.2 52 (h.2.2 16 0 2 - 1) (a1).toNatClampNeg r1.1) (Int32.ofInt 4)).bind fun h4 => ((q_Reader_take sc h4 (Int32.ofInt 100)).bind fun h5 => some h5)) else none else none else none else none) else none else none else none else none else none) :=
  (wb_go_eq (m := 65) (cl := wb_k_Reader_parseModel) rfl wb_vv [] 3000 0 _ [] h).symm.trans rfl
noncomputable def q_Laws_begin (sc : wb_X) (h : wb_H) (o0 : Nat) (a1 : Int32) : Option (wb_H) := wb_F sc wb_vv 37 [.inr (.inr (13, o0)), .inl a1] h
theorem q_Laws_begin_eq (sc : wb_X) (h : wb_H) (o0 : Nat) (a1 : Int32) : q_Laws_begin sc h o0 a1 = (bif (decide (o0 < 2)) then bif (decide (o0 < 2)) then bif (decide (o0 < 2) && wb_in a1 6) then some (wb_iu h 43 o0 (a1).toNatClampNeg (h.1 13 o0 6)) else none else none else none) :=
  (wb_go_eq (m := 37) (cl := wb_k_Laws_begin) rfl wb_vv [] 3000 0 _ [] h).symm.trans rfl
noncomputable def q_Reader_bindingOf (sc : wb_X) (h : wb_H) (a0 : Int32) : Option (Int32 × wb_H) := wb_F sc wb_vi 71 [.inl a0] h
theorem q_Reader_bindingOf_eq (sc : wb_X) (h : wb_H) (a0 : Int32) : q_Reader_bindingOf sc h a0 = (bif (decide (a0 = (Int32.ofInt 43))) then some ((Int32.ofInt 1), h) else bif (!decide (a0 = (Int32.ofInt 45))) then bif (decide (a0 = (Int32.ofInt 42))) then some ((Int32.ofInt 2), h) else bif (!decide (a0 = (Int32.ofInt 47))) then some ((Int32.ofInt 0), h) else some ((Int32.ofInt 2), h) else some ((Int32.ofInt 1), h)) :=
  (wb_go_eq (m := 71) (cl := wb_k_Reader_bindingOf) rfl wb_vi [] 3000 0 _ [] h).symm.trans rfl
noncomputable def q_Laws_emit (sc : wb_X) (h : wb_H) (o0 : Nat) (a1 : Int32) (a2 : Int32) : Option (Int32 × wb_H) := wb_F sc wb_vi 38 [.inr (.inr (13, o0)), .inl a1, .inl a2] h
theorem q_Laws_emit_eq (sc : wb_X) (h : wb_H) (o0 : Nat) (a1 : Int32) (a2 : Int32) : q_Laws_emit sc h o0 a1 a2 = (bif (decide (o0 < 2)) then bif (decide (o0 < 2)) then bif (decide (o0 < 2)) then bif (decide (o0 < 2)) then bif (decide ((Int32.ofInt 402) ≤ (h.1 13 o0 6))) then some ((h.1 13 o0 6), h) else bif (decide (o0 < 2)) then bif (decide (o0 < 2)) then bif (decide (o0 < 2) && wb_in (h.1 13 o0 6) 402) then bif (decide (o0 < 2)) then bif (decide (o0 < 2)) then bif (decide (o0 < 2) && wb_in ((wb_iu h 41 o0 ((h.1 13 o0 6)).toNatClampNeg a1).1 13 o0 6) 402) then bif (decide (o0 < 2)) then bif (decide (o0 < 2)) then some ((h.1 13 o0 6), (wb_iu (wb_iu (wb_iu h 41 o0 ((h.1 13 o0 6)).toNatClampNeg a1) 42 o0 (((wb_iu h 41 o0 ((h.1 13 o0 6)).toNatClampNeg a1).1 13 o0 6)).toNatClampNeg a2) 13 o0 6 (((wb_iu (wb_iu h 41 o0 ((h.1 13 o0 6)).toNatClampNeg a1) 42 o0 (((wb_iu h 41 o0 ((h.1 13 o0 6)).toNatClampNeg a1).1 13 o0 6)).toNatClampNeg a2).1 13 o0 6) + (Int32.ofInt 1)))) else none else none else none else none else none else none else none else none else none else none else none else none) :=
  (wb_go_eq (m := 38) (cl := wb_k_Laws_emit) rfl wb_vi [] 3000 0 _ [] h).symm.trans rfl
noncomputable def q_Reader_emitWaiting (sc : wb_X) (h : wb_H) (a1 : Int32) : Option (wb_H) := wb_F sc wb_vv 70 [.inr (.inr (16, 0)), .inl a1] h
noncomputable def q_Reader_emitWaiting_L0 (sc : wb_X) (h : wb_H) (v1 : Int32) : Option (wb_H) := wb_Q sc wb_vv 70 0 [some (.inr (.inr (16, 0))), some (.inl v1)] [] h
theorem q_Reader_emitWaiting_eq (sc : wb_X) (h : wb_H) (a1 : Int32) : q_Reader_emitWaiting sc h a1 = (bif (decide ((h.1 16 0 5) ≤ (Int32.ofInt 0))) then some h else bif (wb_in ((h.1 16 0 5) - (Int32.ofInt 1)) 400) then ((q_Reader_bindingOf sc h (h.1 53 0 (((h.1 16 0 5) - (Int32.ofInt 1))).toNatClampNeg)).bind fun r1 => bif (decide (r1.1 < a1)) then some r1.2 else bif (decide (0 < (wb_iu r1.2 16 0 5 ((r1.2.1 16 0 5) - (Int32.ofInt 1))).2.2 16 0 2)) then bif (decide (((wb_iu r1.2 16 0 5 ((r1.2.1 16 0 5) - (Int32.ofInt 1))).2.2 16 0 2 - 1) < 2)) then bif (wb_in ((wb_iu r1.2 16 0 5 ((r1.2.1 16 0 5) - (Int32.ofInt 1))).1 16 0 5) 400) then bif (decide (((wb_iu r1.2 16 0 5 ((r1.2.1 16 0 5) - (Int32.ofInt 1))).2.2 16 0 2 - 1) < 2)) then ((q_Laws_emit sc (wb_iu r1.2 16 0 5 ((r1.2.1 16 0 5) - (Int32.ofInt 1))) ((wb_iu r1.2 16 0 5 ((r1.2.1 16 0 5) - (Int32.ofInt 1))).2.2 16 0 2 - 1) ((wb_iu r1.2 16 0 5 ((r1.2.1 16 0 5) - (Int32.ofInt 1))).1 53 0 (((wb_iu r1.2 16 0 5 ((r1.2.1 16 0 5) - (Int32.ofInt 1))).1 16 0 5)).toNatClampNeg) (Int32.ofInt 0)).bind fun r2 => (q_Reader_emitWaiting_L0 sc r2.2 a1)) else none else none else none else none) else none) :=
  (wb_go_eq (m := 70) (cl := wb_k_Reader_emitWaiting) rfl wb_vv [0] 3000 0 _ [] h).symm.trans rfl
theorem q_Reader_emitWaiting_L0_eq (sc : wb_X) (h : wb_H) (v1 : Int32) : q_Reader_emitWaiting_L0 sc h v1 = (bif (decide ((h.1 16 0 5) ≤ (Int32.ofInt 0))) then some h else bif (wb_in ((h.1 16 0 5) - (Int32.ofInt 1)) 400) then ((q_Reader_bindingOf sc h (h.1 53 0 (((h.1 16 0 5) - (Int32.ofInt 1))).toNatClampNeg)).bind fun r1 => bif (decide (r1.1 < v1)) then some r1.2 else bif (decide (0 < (wb_iu r1.2 16 0 5 ((r1.2.1 16 0 5) - (Int32.ofInt 1))).2.2 16 0 2)) then bif (decide (((wb_iu r1.2 16 0 5 ((r1.2.1 16 0 5) - (Int32.ofInt 1))).2.2 16 0 2 - 1) < 2)) then bif (wb_in ((wb_iu r1.2 16 0 5 ((r1.2.1 16 0 5) - (Int32.ofInt 1))).1 16 0 5) 400) then bif (decide (((wb_iu r1.2 16 0 5 ((r1.2.1 16 0 5) - (Int32.ofInt 1))).2.2 16 0 2 - 1) < 2)) then ((q_Laws_emit sc (wb_iu r1.2 16 0 5 ((r1.2.1 16 0 5) - (Int32.ofInt 1))) ((wb_iu r1.2 16 0 5 ((r1.2.1 16 0 5) - (Int32.ofInt 1))).2.2 16 0 2 - 1) ((wb_iu r1.2 16 0 5 ((r1.2.1 16 0 5) - (Int32.ofInt 1))).1 53 0 (((wb_iu r1.2 16 0 5 ((r1.2.1 16 0 5) - (Int32.ofInt 1))).1 16 0 5)).toNatClampNeg) (Int32.ofInt 0)).bind fun r2 => (q_Reader_emitWaiting_L0 sc r2.2 v1)) else none else none else none else none) else none) :=
  (wb_go_eq (m := 70) (cl := wb_k_Reader_emitWaiting) rfl wb_vv [0] 3000 0 [some (.inr (.inr (16, 0))), some (.inl v1)] [] h).symm.trans rfl
noncomputable def q_Reader_takeAndWait (sc : wb_X) (h : wb_H) (a1 : Int32) : Option (wb_H) := wb_F sc wb_vv 69 [.inr (.inr (16, 0)), .inl a1] h
theorem q_Reader_takeAndWait_eq (sc : wb_X) (h : wb_H) (a1 : Int32) : q_Reader_takeAndWait sc h a1 = (((q_Reader_take sc h a1).bind fun h1 => bif (decide ((Int32.ofInt 400) ≤ (h1.1 16 0 5))) then some h1 else bif (wb_in (h1.1 16 0 5) 400) then some (wb_iu (wb_iu h1 53 0 ((h1.1 16 0 5)).toNatClampNeg a1) 16 0 5 (((wb_iu h1 53 0 ((h1.1 16 0 5)).toNatClampNeg a1).1 16 0 5) + (Int32.ofInt 1))) else none)) :=
  (wb_go_eq (m := 69) (cl := wb_k_Reader_takeAndWait) rfl wb_vv [] 3000 0 _ [] h).symm.trans rfl
noncomputable def q_Reader_parseUnit (sc : wb_X) (h : wb_H) : Option (wb_H) := wb_F sc wb_vv 68 [.inr (.inr (16, 0))] h
theorem q_Reader_parseUnit_eq (sc : wb_X) (h : wb_H) : q_Reader_parseUnit sc h = (bif (!decide ((h.1 16 0 4) = (Int32.ofInt 101))) then bif (decide ((h.1 16 0 4) < (Int32.ofInt 15))) then ((q_Reader_fail sc h (Int32.ofInt 1)).bind fun h1 => some h1) else bif (decide ((Int32.ofInt 21) < (h.1 16 0 4))) then ((q_Reader_fail sc h (Int32.ofInt 1)).bind fun h2 => some h2) else bif (decide (0 < h.2.2 16 0 2)) then bif (decide ((h.2.2 16 0 2 - 1) < 2)) then bif (decide ((h.2.2 16 0 2 - 1) < 2)) then ((q_Laws_emit sc h (h.2.2 16 0 2 - 1) (Int32.ofInt 1) ((h.1 16 0 4) - (Int32.ofInt 15))).bind fun r3 => ((q_Reader_take sc r3.2 (r3.2.1 16 0 4)).bind fun h4 => some h4)) else none else none else none else bif (decide (0 < h.2.2 16 0 2)) then bif (decide ((h.2.2 16 0 2 - 1) < 2)) then bif (wb_in (h.1 16 0 3) 402) then bif (decide ((h.2.2 16 0 2 - 1) < 2)) then ((q_Laws_emit sc h (h.2.2 16 0 2 - 1) (Int32.ofInt 0) (((h.2.1 59 0 ((h.1 16 0 3)).toNatClampNeg)).toInt32)).bind fun r5 => ((q_Reader_take sc r5.2 (Int32.ofInt 101)).bind fun h6 => some h6)) else none else none else none else none) :=
  (wb_go_eq (m := 68) (cl := wb_k_Reader_parseUnit) rfl wb_vv [] 3000 0 _ [] h).symm.trans rfl
noncomputable def q_Reader_parseSum (sc : wb_X) (h : wb_H) : Option (wb_H) := wb_F sc wb_vv 67 [.inr (.inr (16, 0))] h
noncomputable def q_Reader_parseSum_L14 (sc : wb_X) (h : wb_H) (v1 : Int32) (v2 : Int32) (v3 : Int32) (v4 : Int32) : Option (wb_H) := wb_Q sc wb_vv 67 14 [some (.inr (.inr (16, 0))), some (.inl v1), some (.inl v2), some (.inl v3), some (.inl v4)] [] h
theorem q_Reader_parseSum_eq (sc : wb_X) (h : wb_H) : q_Reader_parseSum sc h = ((q_Reader_parseSum_L14 sc (wb_iu h 16 0 5 (Int32.ofInt 0)) (Int32.ofInt 0) (Int32.ofInt 1) (Int32.ofInt 0) (Int32.ofInt 0))) :=
  (wb_go_eq (m := 67) (cl := wb_k_Reader_parseSum) rfl wb_vv [14] 3000 0 _ [] h).symm.trans rfl
theorem q_Reader_parseSum_L14_eq (sc : wb_X) (h : wb_H) (v1 : Int32) (v2 : Int32) (v3 : Int32) (v4 : Int32) : q_Reader_parseSum_L14 sc h v1 v2 v3 v4 = (bif (decide ((Int32.ofInt 400) < v4)) then ((q_Reader_emitWaiting sc h (Int32.ofInt 1)).bind fun h1 => some h1) else bif (!decide ((h.1 16 0 8) = (Int32.ofInt 0))) then ((q_Reader_emitWaiting sc h (Int32.ofInt 1)).bind fun h2 => some h2) else bif (!decide (v3 = (Int32.ofInt 0))) then ((q_Reader_emitWaiting sc h (Int32.ofInt 1)).bind fun h3 => some h3) else bif (decide (v2 = (Int32.ofInt 0))) then bif (decide (v2 = (Int32.ofInt 0))) then ((q_Reader_bindingOf sc h (h.1 16 0 4)).bind fun r4 => bif (decide (r4.1 ≤ (Int32.ofInt 0))) then bif (decide (v1 ≤ (Int32.ofInt 0))) then (q_Reader_parseSum_L14 sc r4.2 v1 v2 (Int32.ofInt 1) (v4 + (Int32.ofInt 1))) else ((q_Reader_take sc r4.2 (Int32.ofInt 41)).bind fun h5 => ((q_Reader_emitWaiting sc h5 (Int32.ofInt 1)).bind fun h6 => (q_Reader_parseSum_L14 sc (wb_iu h6 16 0 5 ((h6.1 16 0 5) - (Int32.ofInt 1))) (v1 + (Int32.ofInt (-1))) v2 v3 (v4 + (Int32.ofInt 1))))) else ((q_Reader_bindingOf sc r4.2 (r4.2.1 16 0 4)).bind fun r7 => ((q_Reader_emitWaiting sc r7.2 r7.1).bind fun h8 => ((q_Reader_takeAndWait sc h8 (h8.1 16 0 4)).bind fun h9 => (q_Reader_parseSum_L14 sc h9 v1 (Int32.ofInt 1) v3 (v4 + (Int32.ofInt 1))))))) else ((q_Reader_parseUnit sc h).bind fun h10 => (q_Reader_parseSum_L14 sc h10 v1 (Int32.ofInt 0) v3 (v4 + (Int32.ofInt 1)))) else bif (!decide ((h.1 16 0 4) = (Int32.ofInt 40))) then bif (decide (v2 = (Int32.ofInt 0))) then ((q_Reader_bindingOf sc h (h.1 16 0 4)).bind fun r11 => bif (decide (r11.1 ≤ (Int32.ofInt 0))) then bif (decide (v1 ≤ (Int32.ofInt 0))) then (q_Reader_parseSum_L14 sc r11.2 v1 v2 (Int32.ofInt 1) (v4 + (Int32.ofInt 1))) else ((q_Reader_take sc r11.2 (Int32.ofInt 41)).bind fun h12 => ((q_Reader_emitWaiting sc h12 (Int32.ofInt 1)).bind fun h13 => (q_Reader_parseSum_L14 sc (wb_iu h13 16 0 5 ((h13.1 16 0 5) - (Int32.ofInt 1))) (v1 + (Int32.ofInt (-1))) v2 v3 (v4 + (Int32.ofInt 1))))) else ((q_Reader_bindingOf sc r11.2 (r11.2.1 16 0 4)).bind fun r14 => ((q_Reader_emitWaiting sc r14.2 r14.1).bind fun h15 => ((q_Reader_takeAndWait sc h15 (h15.1 16 0 4)).bind fun h16 => (q_Reader_parseSum_L14 sc h16 v1 (Int32.ofInt 1) v3 (v4 + (Int32.ofInt 1))))))) else ((q_Reader_parseUnit sc h).bind fun h17 => (q_Reader_parseSum_L14 sc h17 v1 (Int32.ofInt 0) v3 (v4 + (Int32.ofInt 1)))) else bif (!decide (v1 = (Int32.ofInt 6))) then ((q_Reader_takeAndWait sc h (Int32.ofInt 40)).bind fun h18 => (q_Reader_parseSum_L14 sc h18 (v1 + (Int32.ofInt 1)) v2 v3 (v4 + (Int32.ofInt 1)))) else ((q_Reader_fail sc h (Int32.ofInt 2)).bind fun h19 => ((q_Reader_takeAndWait sc h19 (Int32.ofInt 40)).bind fun h20 => (q_Reader_parseSum_L14 sc h20 (v1 + (Int32.ofInt 1)) v2 v3 (v4 + (Int32.ofInt 1)))))) :=
  (wb_go_eq (m := 67) (cl := wb_k_Reader_parseSum) rfl wb_vv [14] 3000 14 [some (.inr (.inr (16, 0))), some (.inl v1), some (.inl v2), some (.inl v3), some (.inl v4)] [] h).symm.trans rfl
noncomputable def q_Laws_aim (sc : wb_X) (h : wb_H) (o0 : Nat) (a1 : Int32) : Option (wb_H) := wb_F sc wb_vv 39 [.inr (.inr (13, o0)), .inl a1] h
theorem q_Laws_aim_eq (sc : wb_X) (h : wb_H) (o0 : Nat) (a1 : Int32) : q_Laws_aim sc h o0 a1 = (bif (decide (a1 < (Int32.ofInt 0))) then some h else bif (decide (o0 < 2)) then bif (decide ((h.1 13 o0 6) ≤ a1)) then some h else bif (decide (o0 < 2)) then bif (decide (o0 < 2)) then bif (decide (o0 < 2) && wb_in a1 402) then some (wb_iu h 42 o0 (a1).toNatClampNeg (h.1 13 o0 6)) else none else none else none else none) :=
  (wb_go_eq (m := 39) (cl := wb_k_Laws_aim) rfl wb_vv [] 3000 0 _ [] h).symm.trans rfl
noncomputable def q_Reader_parseLaw (sc : wb_X) (h : wb_H) (a1 : Int32) : Option (wb_H) := wb_F sc wb_vv 66 [.inr (.inr (16, 0)), .inl a1] h
noncomputable def q_Reader_parseLaw_L19 (sc : wb_X) (h : wb_H) (v2 : Int32) : Option (wb_H) := wb_Q sc wb_vv 66 19 [some (.inr (.inr (16, 0))), none, some (.inl v2), none] [] h
theorem q_Reader_parseLaw_eq (sc : wb_X) (h : wb_H) (a1 : Int32) : q_Reader_parseLaw sc h a1 = (bif (decide (0 < h.2.2 16 0 2)) then bif (decide ((h.2.2 16 0 2 - 1) < 2)) then bif (decide ((h.2.2 16 0 2 - 1) < 2)) then ((q_Laws_begin sc h (h.2.2 16 0 2 - 1) a1).bind fun h1 => ((q_Reader_take sc h1 (Int32.ofInt 61)).bind fun h2 => (q_Reader_parseLaw_L19 sc h2 (Int32.ofInt 0)))) else none else none else none) :=
  (wb_go_eq (m := 66) (cl := wb_k_Reader_parseLaw) rfl wb_vv [19] 3000 0 _ [] h).symm.trans rfl
theorem q_Reader_parseLaw_L19_eq (sc : wb_X) (h : wb_H) (v2 : Int32) : q_Reader_parseLaw_L19 sc h v2 = (bif (decide ((Int32.ofInt 4) ≤ v2)) then bif (!decide ((h.1 16 0 4) = (Int32.ofInt 12))) then ((q_Reader_parseSum sc h).bind fun h1 => bif (decide (0 < h1.2.2 16 0 2)) then bif (decide ((h1.2.2 16 0 2 - 1) < 2)) then bif (decide ((h1.2.2 16 0 2 - 1) < 2)) then ((q_Laws_emit sc h1 (h1.2.2 16 0 2 - 1) (Int32.ofInt 3) (Int32.ofInt 0)).bind fun r2 => some r2.2) else none else none else none) else ((q_Reader_fail sc h (Int32.ofInt 2)).bind fun h3 => ((q_Reader_parseSum sc h3).bind fun h4 => bif (decide (0 < h4.2.2 16 0 2)) then bif (decide ((h4.2.2 16 0 2 - 1) < 2)) then bif (decide ((h4.2.2 16 0 2 - 1) < 2)) then ((q_Laws_emit sc h4 (h4.2.2 16 0 2 - 1) (Int32.ofInt 3) (Int32.ofInt 0)).bind fun r5 => some r5.2) else none else none else none)) else bif (!decide ((h.1 16 0 4) = (Int32.ofInt 12))) then bif (!decide ((h.1 16 0 4) = (Int32.ofInt 12))) then ((q_Reader_parseSum sc h).bind fun h6 => bif (decide (0 < h6.2.2 16 0 2)) then bif (decide ((h6.2.2 16 0 2 - 1) < 2)) then bif (decide ((h6.2.2 16 0 2 - 1) < 2)) then ((q_Laws_emit sc h6 (h6.2.2 16 0 2 - 1) (Int32.ofInt 3) (Int32.ofInt 0)).bind fun r7 => some r7.2) else none else none else none) else ((q_Reader_fail sc h (Int32.ofInt 2)).bind fun h8 => ((q_Reader_parseSum sc h8).bind fun h9 => bif (decide (0 < h9.2.2 16 0 2)) then bif (decide ((h9.2.2 16 0 2 - 1) < 2)) then bif (decide ((h9.2.2 16 0 2 - 1) < 2)) then ((q_Laws_emit sc h9 (h9.2.2 16 0 2 - 1) (Int32.ofInt 3) (Int32.ofInt 0)).bind fun r10 => some r10.2) else none else none else none)) else ((q_Reader_take sc h (Int32.ofInt 12)).bind fun h11 => ((q_Reader_parseSum sc h11).bind fun h12 => ((q_Reader_take sc h12 (Int32.ofInt 60)).bind fun h13 => ((q_Reader_parseSum sc h13).bind fun h14 => bif (decide (0 < h14.2.2 16 0 2)) then bif (decide ((h14.2.2 16 0 2 - 1) < 2)) then bif (decide ((h14.2.2 16 0 2 - 1) < 2)) then ((q_Laws_emit sc h14 (h14.2.2 16 0 2 - 1) (Int32.ofInt 2) (Int32.ofInt 0)).bind fun r15 => ((q_Reader_take sc r15.2 (Int32.ofInt 13)).bind fun h16 => ((q_Reader_parseSum sc h16).bind fun h17 => ((q_Reader_take sc h17 (Int32.ofInt 14)).bind fun h18 => bif (decide (0 < h18.2.2 16 0 2)) then bif (decide ((h18.2.2 16 0 2 - 1) < 2)) then bif (decide ((h18.2.2 16 0 2 - 1) < 2)) then ((q_Laws_emit sc h18 (h18.2.2 16 0 2 - 1) (Int32.ofInt 3) (Int32.ofInt 0)).bind fun r19 => bif (decide (0 < r19.2.2.2 16 0 2)) then bif (decide ((r19.2.2.2 16 0 2 - 1) < 2)) then bif (decide ((r19.2.2.2 16 0 2 - 1) < 2)) then ((q_Laws_aim sc r19.2 (r19.2.2.2 16 0 2 - 1) r15.1).bind fun h20 => (q_Reader_parseLaw_L19 sc h20 (v2 + (Int32.ofInt 1)))) else none else none else none) else none else none else none)))) else none else none else none))))) :=
  (wb_go_eq (m := 66) (cl := wb_k_Reader_parseLaw) rfl wb_vv [19] 3000 19 [some (.inr (.inr (16, 0))), none, some (.inl v2), none] [] h).symm.trans rfl
noncomputable def q_Reader_parseHabit (sc : wb_X) (h : wb_H) (a1 : Int32) : Option (wb_H) := wb_F sc wb_vv 64 [.inr (.inr (16, 0)), .inl a1] h
theorem q_Reader_parseHabit_eq (sc : wb_X) (h : wb_H) (a1 : Int32) : q_Reader_parseHabit sc h a1 = (bif (!decide ((h.1 16 0 4) = (Int32.ofInt 61))) then bif (decide ((h.1 16 0 4) < (Int32.ofInt 6))) then ((q_Reader_fail sc h (Int32.ofInt 1)).bind fun h1 => some h1) else bif (decide ((Int32.ofInt 11) < (h.1 16 0 4))) then ((q_Reader_fail sc h (Int32.ofInt 1)).bind fun h2 => some h2) else bif (decide (0 < h.2.2 16 0 2)) then bif (decide ((h.2.2 16 0 2 - 1) < 2)) then bif (decide ((h.2.2 16 0 2 - 1) < 2) && wb_in a1 6) then ((q_Reader_take sc (wb_iu h 51 (h.2.2 16 0 2 - 1) (a1).toNatClampNeg ((h.1 16 0 4) - (Int32.ofInt 6))) (h.1 16 0 4)).bind fun h3 => bif (!decide ((h.1 16 0 4) = (Int32.ofInt 9))) then some h3 else ((q_Reader_parseModel sc h3 a1).bind fun h4 => some h4)) else none else none else none else bif (decide (0 < h.2.2 16 0 2)) then bif (decide ((h.2.2 16 0 2 - 1) < 2)) then bif (decide ((h.2.2 16 0 2 - 1) < 2) && wb_in a1 6) then ((q_Reader_parseLaw sc (wb_iu h 51 (h.2.2 16 0 2 - 1) (a1).toNatClampNeg (Int32.ofInt 6)) a1).bind fun h5 => some h5) else none else none else none) :=
  (wb_go_eq (m := 64) (cl := wb_k_Reader_parseHabit) rfl wb_vv [] 3000 0 _ [] h).symm.trans rfl
noncomputable def q_Reader_parseSetting (sc : wb_X) (h : wb_H) : Option (wb_H) := wb_F sc wb_vv 62 [.inr (.inr (16, 0))] h
theorem q_Reader_parseSetting_eq (sc : wb_X) (h : wb_H) : q_Reader_parseSetting sc h = (bif (decide ((h.1 16 0 4) < (Int32.ofInt 1))) then ((q_Reader_fail sc h (Int32.ofInt 1)).bind fun h1 => some h1) else bif (decide ((h.1 16 0 4) ≤ (Int32.ofInt 5))) then ((q_Reader_take sc h (h.1 16 0 4)).bind fun h2 => (bif (decide ((h.1 16 0 4) = Int32.ofInt 1)) then bif (decide (0 < h2.2.2 16 0 2)) then ((q_Reader_takeInt sc h2 (Int32.ofInt 10)).bind fun r3 => bif (decide ((h2.2.2 16 0 2 - 1) < 2)) then some (wb_iu r3.2 15 (h2.2.2 16 0 2 - 1) 7 r3.1) else none) else none else bif (decide ((h.1 16 0 4) = Int32.ofInt 2)) then bif (decide (0 < h2.2.2 16 0 2)) then ((q_Reader_takeInt sc h2 (Int32.ofInt 30)).bind fun r4 => bif (decide ((h2.2.2 16 0 2 - 1) < 2)) then some (wb_iu r4.2 15 (h2.2.2 16 0 2 - 1) 8 r4.1) else none) else none else bif (decide ((h.1 16 0 4) = Int32.ofInt 3)) then bif (decide (0 < h2.2.2 16 0 2)) then ((q_Reader_takeInt sc h2 (Int32.ofInt 30)).bind fun r5 => bif (decide ((h2.2.2 16 0 2 - 1) < 2)) then some (wb_iu r5.2 15 (h2.2.2 16 0 2 - 1) 9 r5.1) else none) else none else bif (decide ((h.1 16 0 4) = Int32.ofInt 4)) then bif (decide (0 < h2.2.2 16 0 2)) then ((q_Reader_takeInt sc h2 (Int32.ofInt 999)).bind fun r6 => bif (decide ((h2.2.2 16 0 2 - 1) < 2)) then some (wb_iu r6.2 15 (h2.2.2 16 0 2 - 1) 10 r6.1) else none) else none else bif (decide (0 < h2.2.2 16 0 2)) then ((q_Reader_takeInt sc h2 (Int32.ofInt 9999)).bind fun r7 => bif (decide ((h2.2.2 16 0 2 - 1) < 2)) then some (wb_iu r7.2 15 (h2.2.2 16 0 2 - 1) 11 r7.1) else none) else none)) else ((q_Reader_fail sc h (Int32.ofInt 1)).bind fun h8 => some h8)) :=
  (wb_go_eq (m := 62) (cl := wb_k_Reader_parseSetting) rfl wb_vv [] 3000 0 _ [] h).symm.trans rfl
noncomputable def q_Reader_parse (sc : wb_X) (h : wb_H) (o2 : Nat) : Option (wb_H) := wb_F sc wb_vv 57 [.inr (.inr (16, 0)), .inr (.inr (18, 0)), .inr (.inr (15, o2))] h
noncomputable def q_Reader_parse_L55 (sc : wb_X) (h : wb_H) (v3 : Int32) : Option (wb_H) := wb_Q sc wb_vv 57 55 [some (.inr (.inr (16, 0))), none, none, some (.inl v3)] [] h
theorem q_Reader_parse_eq (sc : wb_X) (h : wb_H) (o2 : Nat) : q_Reader_parse sc h o2 = (((q_Tokens_cut sc h).bind fun h1 => bif (decide (o2 < 2)) then bif (decide (0 < (wb_mu h1 16 0 2 (o2 + 1)).2.2 16 0 2)) then bif (decide (((wb_mu h1 16 0 2 (o2 + 1)).2.2 16 0 2 - 1) < 2)) then ((q_Plan_clear sc (wb_mu h1 16 0 2 (o2 + 1)) ((wb_mu h1 16 0 2 (o2 + 1)).2.2 16 0 2 - 1)).bind fun h2 => bif (wb_in (Int32.ofInt 0) 402) then (q_Reader_parse_L55 sc (wb_iu (wb_iu (wb_iu (wb_iu (wb_iu h2 16 0 3 (Int32.ofInt 0)) 16 0 4 ((wb_iu h2 16 0 3 (Int32.ofInt 0)).1 57 0 ((Int32.ofInt 0)).toNatClampNeg)) 16 0 8 (Int32.ofInt 0)) 16 0 9 (Int32.ofInt (-1))) 16 0 6 (Int32.ofInt 0)) (Int32.ofInt 0)) else none) else none else none else none)) :=
  (wb_go_eq (m := 57) (cl := wb_k_Reader_parse) rfl wb_vv [55] 3000 0 _ [] h).symm.trans rfl
theorem q_Reader_parse_L55_eq (sc : wb_X) (h : wb_H) (v3 : Int32) : q_Reader_parse_L55 sc h v3 = (bif (decide ((Int32.ofInt 400) < v3)) then bif (!decide ((h.1 16 0 8) = (Int32.ofInt 0))) then some h else bif (decide ((h.1 16 0 6) = (Int32.ofInt 0))) then some h else some (wb_iu (wb_iu h 16 0 8 (h.1 16 0 6)) 16 0 9 ((wb_iu h 16 0 8 (h.1 16 0 6)).1 16 0 7)) else bif (!decide ((h.1 16 0 8) = (Int32.ofInt 0))) then bif (!decide ((h.1 16 0 8) = (Int32.ofInt 0))) then some h else bif (decide ((h.1 16 0 6) = (Int32.ofInt 0))) then some h else some (wb_iu (wb_iu h 16 0 8 (h.1 16 0 6)) 16 0 9 ((wb_iu h 16 0 8 (h.1 16 0 6)).1 16 0 7)) else bif (decide ((h.1 16 0 4) = (Int32.ofInt 103))) then bif (!decide ((h.1 16 0 8) = (Int32.ofInt 0))) then some h else bif (decide ((h.1 16 0 6) = (Int32.ofInt 0))) then some h else some (wb_iu (wb_iu h 16 0 8 (h.1 16 0 6)) 16 0 9 ((wb_iu h 16 0 8 (h.1 16 0 6)).1 16 0 7)) else bif (decide ((h.1 16 0 4) = (Int32.ofInt 0))) then bif (decide (0 < h.2.2 16 0 2)) then bif (decide ((h.2.2 16 0 2 - 1) < 2)) then bif (decide ((Int32.ofInt 6) ≤ (h.1 15 (h.2.2 16 0 2 - 1) 0))) then ((q_Reader_fail sc h (Int32.ofInt 2)).bind fun h1 => ((q_Reader_take sc h1 (Int32.ofInt 59)).bind fun h2 => (q_Reader_parse_L55 sc h2 (v3 + (Int32.ofInt 1))))) else bif (decide (0 < h.2.2 16 0 2)) then bif (decide ((h.2.2 16 0 2 - 1) < 2)) then ((q_Reader_parseHouse sc h (h.1 15 (h.2.2 16 0 2 - 1) 0)).bind fun h3 => bif (decide (0 < h3.2.2 16 0 2)) then bif (decide ((h3.2.2 16 0 2 - 1) < 2)) then ((q_Reader_parseHabit sc h3 (h3.1 15 (h3.2.2 16 0 2 - 1) 0)).bind fun h4 => bif (decide (0 < h4.2.2 16 0 2)) then bif (decide ((h4.2.2 16 0 2 - 1) < 2)) then bif (decide ((h4.2.2 16 0 2 - 1) < 2)) then ((q_Reader_take sc (wb_iu h4 15 (h4.2.2 16 0 2 - 1) 0 ((h4.1 15 (h4.2.2 16 0 2 - 1) 0) + (Int32.ofInt 1))) (Int32.ofInt 59)).bind fun h5 => (q_Reader_parse_L55 sc h5 (v3 + (Int32.ofInt 1)))) else none else none else none) else none else none) else none else none else none else none else ((q_Reader_parseSetting sc h).bind fun h6 => ((q_Reader_take sc h6 (Int32.ofInt 59)).bind fun h7 => (q_Reader_parse_L55 sc h7 (v3 + (Int32.ofInt 1)))))) :=
  (wb_go_eq (m := 57) (cl := wb_k_Reader_parse) rfl wb_vv [55] 3000 55 [some (.inr (.inr (16, 0))), none, none, some (.inl v3)] [] h).symm.trans rfl
noncomputable def q_Laws_reckon (sc : wb_X) (h : wb_H) (a0 : Int32) (a1 : Int32) (a2 : Int32) : Option (Int32 × wb_H) := wb_F sc wb_vi 45 [.inl a0, .inl a1, .inl a2] h
theorem q_Laws_reckon_eq (sc : wb_X) (h : wb_H) (a0 : Int32) (a1 : Int32) (a2 : Int32) : q_Laws_reckon sc h a0 a1 a2 = ((bif (decide (a0 = Int32.ofInt 42)) then some ((a1 * a2), h) else bif (decide (a0 = Int32.ofInt 43)) then some ((a1 + a2), h) else bif (decide (a0 = Int32.ofInt 44)) then bif (!decide (a2 = (Int32.ofInt 0))) then bif (!decide (a2 = 0)) then some ((a1 / a2), h) else none else some ((Int32.ofInt 0), h) else bif (decide (a0 = Int32.ofInt 45)) then some ((a1 - a2), h) else bif (!decide (a2 = (Int32.ofInt 0))) then bif (!decide (a2 = 0)) then some ((a1 / a2), h) else none else some ((Int32.ofInt 0), h))) :=
  (wb_go_eq (m := 45) (cl := wb_k_Laws_reckon) rfl wb_vi [] 3000 0 _ [] h).symm.trans rfl
noncomputable def q_Laws_run (sc : wb_X) (h : wb_H) (o0 : Nat) (a1 : Int32) : Option (Int32 × wb_H) := wb_F sc wb_vi 44 [.inr (.inr (13, o0)), .inl a1] h
noncomputable def q_Laws_run_L4 (sc : wb_X) (h : wb_H) (v0 : Nat) (v2 : Int32) (v3 : Int32) : Option (Int32 × wb_H) := wb_Q sc wb_vi 44 4 [some (.inr (.inr (13, v0))), none, some (.inl v2), some (.inl v3), none, none, none] [] h
theorem q_Laws_run_eq (sc : wb_X) (h : wb_H) (o0 : Nat) (a1 : Int32) : q_Laws_run sc h o0 a1 = ((q_Laws_run_L4 sc h o0 (Int32.ofInt 0) a1)) :=
  (wb_go_eq (m := 44) (cl := wb_k_Laws_run) rfl wb_vi [4] 3000 0 _ [] h).symm.trans rfl
theorem q_Laws_run_L4_eq (sc : wb_X) (h : wb_H) (v0 : Nat) (v2 : Int32) (v3 : Int32) : q_Laws_run_L4 sc h v0 v2 v3 = (bif (decide (v3 < (Int32.ofInt 0))) then bif (decide (v2 ≤ (Int32.ofInt 0))) then some ((Int32.ofInt 0), h) else bif (decide (v0 < 2)) then bif (decide (v0 < 2) && wb_in (v2 - (Int32.ofInt 1)) 40) then some ((h.1 45 v0 ((v2 - (Int32.ofInt 1))).toNatClampNeg), h) else none else none else bif (decide (v0 < 2)) then bif (decide ((h.1 13 v0 6) ≤ v3)) then bif (decide (v2 ≤ (Int32.ofInt 0))) then some ((Int32.ofInt 0), h) else bif (decide (v0 < 2)) then bif (decide (v0 < 2) && wb_in (v2 - (Int32.ofInt 1)) 40) then some ((h.1 45 v0 ((v2 - (Int32.ofInt 1))).toNatClampNeg), h) else none else none else bif (decide (v0 < 2)) then bif (decide (v0 < 2) && wb_in v3 402) then bif (decide ((h.1 41 v0 (v3).toNatClampNeg) = (Int32.ofInt 3))) then bif (decide (v2 ≤ (Int32.ofInt 0))) then some ((Int32.ofInt 0), h) else bif (decide (v0 < 2)) then bif (decide (v0 < 2) && wb_in (v2 - (Int32.ofInt 1)) 40) then some ((h.1 45 v0 ((v2 - (Int32.ofInt 1))).toNatClampNeg), h) else none else none else bif (decide (v0 < 2)) then bif (decide (v0 < 2) && wb_in v3 402) then bif (decide ((h.1 41 v0 (v3).toNatClampNeg) = (Int32.ofInt 0))) then bif (decide (v0 < 2)) then bif (decide (v0 < 2)) then bif (decide ((Int32.ofInt 40) ≤ v2)) then (q_Laws_run_L4 sc h v0 v2 (v3 + (Int32.ofInt 1))) else bif (decide (v0 < 2)) then bif (!decide ((h.1 41 v0 (v3).toNatClampNeg) = (Int32.ofInt 0))) then bif (decide (v0 < 2)) then bif (decide (v0 < 2)) then bif (decide (v0 < 2) && wb_in v3 402) then bif (decide (v0 < 2) && wb_in (h.1 42 v0 (v3).toNatClampNeg) 7) then bif (decide (v0 < 2) && wb_in v2 40) then (q_Laws_run_L4 sc (wb_iu h 45 v0 (v2).toNatClampNeg (h.1 44 v0 ((h.1 42 v0 (v3).toNatClampNeg)).toNatClampNeg)) v0 (v2 + (Int32.ofInt 1)) (v3 + (Int32.ofInt 1))) else none else none else none else none else none else bif (decide (v0 < 2)) then bif (decide (v0 < 2) && wb_in v3 402) then bif (decide (v0 < 2) && wb_in v2 40) then (q_Laws_run_L4 sc (wb_iu h 45 v0 (v2).toNatClampNeg (h.1 42 v0 (v3).toNatClampNeg)) v0 (v2 + (Int32.ofInt 1)) (v3 + (Int32.ofInt 1))) else none else none else none else none else none else none else bif (!decide ((h.1 41 v0 (v3).toNatClampNeg) = (Int32.ofInt 1))) then bif (decide (v2 < (Int32.ofInt 2))) then (q_Laws_run_L4 sc h v0 v2 (v3 + (Int32.ofInt 1))) else bif (decide (v0 < 2)) then bif (decide (v0 < 2) && wb_in (v2 - (Int32.ofInt 2)) 40) then bif (decide (v0 < 2)) then bif (decide (v0 < 2) && wb_in (v2 - (Int32.ofInt 1)) 40) then bif (!decide ((h.1 41 v0 (v3).toNatClampNeg) = (Int32.ofInt 47))) then bif (decide ((h.1 41 v0 (v3).toNatClampNeg) = (Int32.ofInt 2))) then bif (decide ((h.1 45 v0 ((v2 - (Int32.ofInt 2))).toNatClampNeg) < (h.1 45 v0 ((v2 - (Int32.ofInt 1))).toNatClampNeg))) then (q_Laws_run_L4 sc h v0 (v2 + (Int32.ofInt (-2))) (v3 + (Int32.ofInt 1))) else bif (decide (v0 < 2)) then bif (decide (v0 < 2) && wb_in v3 402) then ((q_JMath_max sc h v3 ((h.1 42 v0 (v3).toNatClampNeg) - (Int32.ofInt 1))).bind fun r1 => (q_Laws_run_L4 sc r1.2 v0 (v2 + (Int32.ofInt (-2))) (r1.1 + (Int32.ofInt 1)))) else none else none else bif (decide (v0 < 2)) then ((q_Laws_reckon sc h (h.1 41 v0 (v3).toNatClampNeg) (h.1 45 v0 ((v2 - (Int32.ofInt 2))).toNatClampNeg) (h.1 45 v0 ((v2 - (Int32.ofInt 1))).toNatClampNeg)).bind fun r2 => bif (decide (v0 < 2) && wb_in (v2 - (Int32.ofInt 2)) 40) then (q_Laws_run_L4 sc (wb_iu r2.2 45 v0 ((v2 - (Int32.ofInt 2))).toNatClampNeg r2.1) v0 (v2 + (Int32.ofInt (-1))) (v3 + (Int32.ofInt 1))) else none) else none else bif (!decide ((h.1 45 v0 ((v2 - (Int32.ofInt 1))).toNatClampNeg) = (Int32.ofInt 0))) then bif (decide ((h.1 41 v0 (v3).toNatClampNeg) = (Int32.ofInt 2))) then bif (decide ((h.1 45 v0 ((v2 - (Int32.ofInt 2))).toNatClampNeg) < (h.1 45 v0 ((v2 - (Int32.ofInt 1))).toNatClampNeg))) then (q_Laws_run_L4 sc h v0 (v2 + (Int32.ofInt (-2))) (v3 + (Int32.ofInt 1))) else bif (decide (v0 < 2)) then bif (decide (v0 < 2) && wb_in v3 402) then ((q_JMath_max sc h v3 ((h.1 42 v0 (v3).toNatClampNeg) - (Int32.ofInt 1))).bind fun r3 => (q_Laws_run_L4 sc r3.2 v0 (v2 + (Int32.ofInt (-2))) (r3.1 + (Int32.ofInt 1)))) else none else none else bif (decide (v0 < 2)) then ((q_Laws_reckon sc h (h.1 41 v0 (v3).toNatClampNeg) (h.1 45 v0 ((v2 - (Int32.ofInt 2))).toNatClampNeg) (h.1 45 v0 ((v2 - (Int32.ofInt 1))).toNatClampNeg)).bind fun r4 => bif (decide (v0 < 2) && wb_in (v2 - (Int32.ofInt 2)) 40) then (q_Laws_run_L4 sc (wb_iu r4.2 45 v0 ((v2 - (Int32.ofInt 2))).toNatClampNeg r4.1) v0 (v2 + (Int32.ofInt (-1))) (v3 + (Int32.ofInt 1))) else none) else none else some ((Int32.ofInt 0), h) else none else none else none else none else bif (decide (v0 < 2)) then bif (decide (v0 < 2)) then bif (decide ((Int32.ofInt 40) ≤ v2)) then (q_Laws_run_L4 sc h v0 v2 (v3 + (Int32.ofInt 1))) else bif (decide (v0 < 2)) then bif (!decide ((h.1 41 v0 (v3).toNatClampNeg) = (Int32.ofInt 0))) then bif (decide (v0 < 2)) then bif (decide (v0 < 2)) then bif (decide (v0 < 2) && wb_in v3 402) then bif (decide (v0 < 2) && wb_in (h.1 42 v0 (v3).toNatClampNeg) 7) then bif (decide (v0 < 2) && wb_in v2 40) then (q_Laws_run_L4 sc (wb_iu h 45 v0 (v2).toNatClampNeg (h.1 44 v0 ((h.1 42 v0 (v3).toNatClampNeg)).toNatClampNeg)) v0 (v2 + (Int32.ofInt 1)) (v3 + (Int32.ofInt 1))) else none else none else none else none else none else bif (decide (v0 < 2)) then bif (decide (v0 < 2) && wb_in v3 402) then bif (decide (v0 < 2) && wb_in v2 40) then (q_Laws_run_L4 sc (wb_iu h 45 v0 (v2).toNatClampNeg (h.1 42 v0 (v3).toNatClampNeg)) v0 (v2 + (Int32.ofInt 1)) (v3 + (Int32.ofInt 1))) else none else none else none else none else none else none else none else none else none else none else none) :=
  (wb_go_eq (m := 44) (cl := wb_k_Laws_run) rfl wb_vi [4] 3000 4 [some (.inr (.inr (13, v0))), none, some (.inl v2), some (.inl v3), none, none, none] [] h).symm.trans rfl
noncomputable def q_Laws_caseOf (sc : wb_X) (h : wb_H) (a0 : Int32) (a1 : Int32) (a2 : Int32) (a3 : Int32) (a4 : Int32) : Option (Int32 × wb_H) := wb_F sc wb_vi 41 [.inl a0, .inl a1, .inl a2, .inl a3, .inl a4] h
theorem q_Laws_caseOf_eq (sc : wb_X) (h : wb_H) (a0 : Int32) (a1 : Int32) (a2 : Int32) (a3 : Int32) (a4 : Int32) : q_Laws_caseOf sc h a0 a1 a2 a3 a4 = (some (((((a0 * (Int32.ofInt 216)) + (((((a2 * (Int32.ofInt 6)) + a3) * (Int32.ofInt 2)) + a1) * (Int32.ofInt 3))) + a4) + (Int32.ofInt 1)), h)) :=
  (wb_go_eq (m := 41) (cl := wb_k_Laws_caseOf) rfl wb_vi [] 3000 0 _ [] h).symm.trans rfl
noncomputable def q_Laws_reckonSigns (sc : wb_X) (h : wb_H) (o0 : Nat) (a1 : Int32) (a2 : Int32) (a3 : Int32) (a4 : Int32) : Option (wb_H) := wb_F sc wb_vv 43 [.inr (.inr (13, o0)), .inl a1, .inl a2, .inl a3, .inl a4] h
noncomputable def q_Laws_reckonSigns_L26 (sc : wb_X) (h : wb_H) (v0 : Nat) (v1 : Int32) (v2 : Int32) (v3 : Int32) (v4 : Int32) (v5 : Int32) : Option (wb_H) := wb_Q sc wb_vv 43 26 [some (.inr (.inr (13, v0))), some (.inl v1), some (.inl v2), some (.inl v3), some (.inl v4), some (.inl v5), none] [] h
theorem q_Laws_reckonSigns_eq (sc : wb_X) (h : wb_H) (o0 : Nat) (a1 : Int32) (a2 : Int32) (a3 : Int32) (a4 : Int32) : q_Laws_reckonSigns sc h o0 a1 a2 a3 a4 = (bif (decide (o0 < 2)) then bif (decide (o0 < 2) && wb_in (Int32.ofInt 1) 7) then bif (decide (o0 < 2)) then bif (decide (o0 < 2) && wb_in (Int32.ofInt 2) 7) then bif (decide (o0 < 2)) then bif (decide (o0 < 2) && wb_in (Int32.ofInt 6) 7) then (q_Laws_reckonSigns_L26 sc (wb_iu (wb_iu (wb_iu h 44 o0 ((Int32.ofInt 1)).toNatClampNeg a2) 44 o0 ((Int32.ofInt 2)).toNatClampNeg a3) 44 o0 ((Int32.ofInt 6)).toNatClampNeg a4) o0 a1 a2 a3 a4 (Int32.ofInt 0)) else none else none else none else none else none else none) :=
  (wb_go_eq (m := 43) (cl := wb_k_Laws_reckonSigns) rfl wb_vv [26] 3000 0 _ [] h).symm.trans rfl
theorem q_Laws_reckonSigns_L26_eq (sc : wb_X) (h : wb_H) (v0 : Nat) (v1 : Int32) (v2 : Int32) (v3 : Int32) (v4 : Int32) (v5 : Int32) : q_Laws_reckonSigns_L26 sc h v0 v1 v2 v3 v4 v5 = (bif (decide ((Int32.ofInt 1) < v5)) then some h else bif (decide (v0 < 2)) then bif (decide (v0 < 2) && wb_in (Int32.ofInt 0) 7) then bif (decide (v0 < 2)) then bif (decide (v0 < 2) && wb_in v1 6) then bif (decide (v0 < 2)) then ((q_Laws_run sc (wb_iu h 44 v0 ((Int32.ofInt 0)).toNatClampNeg v5) v0 ((wb_iu h 44 v0 ((Int32.ofInt 0)).toNatClampNeg v5).1 43 v0 (v1).toNatClampNeg)).bind fun r1 => bif (decide (r1.1 ≤ (Int32.ofInt 0))) then bif (decide (v0 < 2)) then ((q_Laws_caseOf sc r1.2 v1 v5 v2 v3 v4).bind fun r2 => bif (decide (v0 < 2) && wb_in r2.1 1296) then (q_Laws_reckonSigns_L26 sc (wb_iu r2.2 46 v0 (r2.1).toNatClampNeg (vp_nar .byte ((Int32.ofInt 0)).toInt8.toInt32)) v0 v1 v2 v3 v4 (v5 + (Int32.ofInt 1))) else none) else none else bif (decide (v0 < 2)) then ((q_Laws_caseOf sc r1.2 v1 v5 v2 v3 v4).bind fun r3 => bif (decide (v0 < 2) && wb_in r3.1 1296) then (q_Laws_reckonSigns_L26 sc (wb_iu r3.2 46 v0 (r3.1).toNatClampNeg (vp_nar .byte ((Int32.ofInt 1)).toInt8.toInt32)) v0 v1 v2 v3 v4 (v5 + (Int32.ofInt 1))) else none) else none) else none else none else none else none else none) :=
  (wb_go_eq (m := 43) (cl := wb_k_Laws_reckonSigns) rfl wb_vv [26] 3000 26 [some (.inr (.inr (13, v0))), some (.inl v1), some (.inl v2), some (.inl v3), some (.inl v4), some (.inl v5), none] [] h).symm.trans rfl
noncomputable def q_Laws_reckonCases (sc : wb_X) (h : wb_H) (o0 : Nat) (o1 : Nat) (a2 : Int32) : Option (wb_H) := wb_F sc wb_vv 42 [.inr (.inr (13, o0)), .inr (.inr (15, o1)), .inl a2] h
noncomputable def q_Laws_reckonCases_L45 (sc : wb_X) (h : wb_H) (v0 : Nat) (v2 : Int32) (v3 : Int32) (v4 : Int32) : Option (wb_H) := wb_Q sc wb_vv 42 45 [some (.inr (.inr (13, v0))), none, some (.inl v2), some (.inl v3), some (.inl v4), none, none] [] h
noncomputable def q_Laws_reckonCases_L54 (sc : wb_X) (h : wb_H) (v0 : Nat) (v2 : Int32) (v3 : Int32) (v4 : Int32) (v5 : Int32) : Option (wb_H) := wb_Q sc wb_vv 42 54 [some (.inr (.inr (13, v0))), none, some (.inl v2), some (.inl v3), some (.inl v4), some (.inl v5), none] [] h
noncomputable def q_Laws_reckonCases_L66 (sc : wb_X) (h : wb_H) (v0 : Nat) (v2 : Int32) (v3 : Int32) (v4 : Int32) (v5 : Int32) (v6 : Int32) : Option (wb_H) := wb_Q sc wb_vv 42 66 [some (.inr (.inr (13, v0))), none, some (.inl v2), some (.inl v3), some (.inl v4), some (.inl v5), some (.inl v6)] [] h
theorem q_Laws_reckonCases_eq (sc : wb_X) (h : wb_H) (o0 : Nat) (o1 : Nat) (a2 : Int32) : q_Laws_reckonCases sc h o0 o1 a2 = (bif (decide (o0 < 2)) then bif (decide (o1 < 2)) then bif (decide (o1 < 2) && wb_in a2 6) then bif (decide (o0 < 2) && wb_in (Int32.ofInt 3) 7) then bif (decide (o0 < 2)) then bif (decide (o1 < 2)) then bif (decide (o1 < 2) && wb_in a2 6) then bif (decide (o0 < 2) && wb_in (Int32.ofInt 4) 7) then bif (decide (o0 < 2)) then bif (decide (o0 < 2) && wb_in (Int32.ofInt 5) 7) then bif (decide (o1 < 2)) then bif (decide (o1 < 2) && wb_in a2 6) then ((q_JMath_min sc (wb_iu (wb_iu (wb_iu h 44 o0 ((Int32.ofInt 3)).toNatClampNeg (h.1 50 o1 (a2).toNatClampNeg)) 44 o0 ((Int32.ofInt 4)).toNatClampNeg ((wb_iu h 44 o0 ((Int32.ofInt 3)).toNatClampNeg (h.1 50 o1 (a2).toNatClampNeg)).1 49 o1 (a2).toNatClampNeg)) 44 o0 ((Int32.ofInt 5)).toNatClampNeg a2) (Int32.ofInt 5) ((wb_iu (wb_iu (wb_iu h 44 o0 ((Int32.ofInt 3)).toNatClampNeg (h.1 50 o1 (a2).toNatClampNeg)) 44 o0 ((Int32.ofInt 4)).toNatClampNeg ((wb_iu h 44 o0 ((Int32.ofInt 3)).toNatClampNeg (h.1 50 o1 (a2).toNatClampNeg)).1 49 o1 (a2).toNatClampNeg)) 44 o0 ((Int32.ofInt 5)).toNatClampNeg a2).1 50 o1 (a2).toNatClampNeg)).bind fun r1 => (q_Laws_reckonCases_L45 sc r1.2 o0 a2 r1.1 (Int32.ofInt 0))) else none else none else none else none else none else none else none else none else none else none else none else none) :=
  (wb_go_eq (m := 42) (cl := wb_k_Laws_reckonCases) rfl wb_vv [45, 54, 66] 3000 0 _ [] h).symm.trans rfl
theorem q_Laws_reckonCases_L45_eq (sc : wb_X) (h : wb_H) (v0 : Nat) (v2 : Int32) (v3 : Int32) (v4 : Int32) : q_Laws_reckonCases_L45 sc h v0 v2 v3 v4 = (bif (decide (v3 < v4)) then some h else (q_Laws_reckonCases_L54 sc h v0 v2 v3 v4 (Int32.ofInt 0))) :=
  (wb_go_eq (m := 42) (cl := wb_k_Laws_reckonCases) rfl wb_vv [45, 54, 66] 3000 45 [some (.inr (.inr (13, v0))), none, some (.inl v2), some (.inl v3), some (.inl v4), none, none] [] h).symm.trans rfl
theorem q_Laws_reckonCases_L54_eq (sc : wb_X) (h : wb_H) (v0 : Nat) (v2 : Int32) (v3 : Int32) (v4 : Int32) (v5 : Int32) : q_Laws_reckonCases_L54 sc h v0 v2 v3 v4 v5 = (bif (decide (v3 < (v4 + v5))) then (q_Laws_reckonCases_L45 sc h v0 v2 v3 (v4 + (Int32.ofInt 1))) else (q_Laws_reckonCases_L66 sc h v0 v2 v3 v4 v5 (Int32.ofInt (-1)))) :=
  (wb_go_eq (m := 42) (cl := wb_k_Laws_reckonCases) rfl wb_vv [45, 54, 66] 3000 54 [some (.inr (.inr (13, v0))), none, some (.inl v2), some (.inl v3), some (.inl v4), some (.inl v5), none] [] h).symm.trans rfl
theorem q_Laws_reckonCases_L66_eq (sc : wb_X) (h : wb_H) (v0 : Nat) (v2 : Int32) (v3 : Int32) (v4 : Int32) (v5 : Int32) (v6 : Int32) : q_Laws_reckonCases_L66 sc h v0 v2 v3 v4 v5 v6 = (bif (decide ((Int32.ofInt 1) < v6)) then (q_Laws_reckonCases_L54 sc h v0 v2 v3 v4 (v5 + (Int32.ofInt 1))) else bif (decide (v0 < 2)) then ((q_Laws_reckonSigns sc h v0 v2 v4 v5 v6).bind fun h1 => (q_Laws_reckonCases_L66 sc h1 v0 v2 v3 v4 v5 (v6 + (Int32.ofInt 1)))) else none) :=
  (wb_go_eq (m := 42) (cl := wb_k_Laws_reckonCases) rfl wb_vv [45, 54, 66] 3000 66 [some (.inr (.inr (13, v0))), none, some (.inl v2), some (.inl v3), some (.inl v4), some (.inl v5), some (.inl v6)] [] h).symm.trans rfl
noncomputable def q_Plan_reckonLaws (sc : wb_X) (h : wb_H) (o0 : Nat) : Option (wb_H) := wb_F sc wb_vv 53 [.inr (.inr (15, o0))] h
noncomputable def q_Plan_reckonLaws_L2 (sc : wb_X) (h : wb_H) (v0 : Nat) (v1 : Int32) : Option (wb_H) := wb_Q sc wb_vv 53 2 [some (.inr (.inr (15, v0))), some (.inl v1)] [] h
theorem q_Plan_reckonLaws_eq (sc : wb_X) (h : wb_H) (o0 : Nat) : q_Plan_reckonLaws sc h o0 = ((q_Plan_reckonLaws_L2 sc h o0 (Int32.ofInt 0))) :=
  (wb_go_eq (m := 53) (cl := wb_k_Plan_reckonLaws) rfl wb_vv [2] 3000 0 _ [] h).symm.trans rfl
theorem q_Plan_reckonLaws_L2_eq (sc : wb_X) (h : wb_H) (v0 : Nat) (v1 : Int32) : q_Plan_reckonLaws_L2 sc h v0 v1 = (bif (decide (v0 < 2)) then bif (decide ((h.1 15 v0 0) ≤ v1)) then some h else bif (decide (v0 < 2)) then bif (decide (v0 < 2) && wb_in v1 6) then bif (!decide ((h.1 51 v0 (v1).toNatClampNeg) = (Int32.ofInt 6))) then (q_Plan_reckonLaws_L2 sc h v0 (v1 + (Int32.ofInt 1))) else bif (decide (v0 < 2)) then bif (decide (v0 < 2)) then ((q_Laws_reckonCases sc h v0 v0 v1).bind fun h1 => (q_Plan_reckonLaws_L2 sc h1 v0 (v1 + (Int32.ofInt 1)))) else none else none else none else none else none) :=
  (wb_go_eq (m := 53) (cl := wb_k_Plan_reckonLaws) rfl wb_vv [2] 3000 2 [some (.inr (.inr (15, v0))), some (.inl v1)] [] h).symm.trans rfl
noncomputable def q_JArrays_fill2_54 (sc : wb_X) (h : wb_H) (o0 : Nat) (a1 : Int32) : Option (wb_H) := wb_F sc wb_vv 281 [.inr (.inr (54, o0)), .inl a1] h
noncomputable def q_JArrays_fill2_54_L5 (sc : wb_X) (h : wb_H) (v0 : Nat) (v1 : Int32) (v2 : Int32) (v3 : Int32) : Option (wb_H) := wb_Q sc wb_vv 281 5 [some (.inr (.inr (54, v0))), some (.inl v1), some (.inl v2), some (.inl v3)] [] h
theorem q_JArrays_fill2_54_eq (sc : wb_X) (h : wb_H) (o0 : Nat) (a1 : Int32) : q_JArrays_fill2_54 sc h o0 a1 = (bif (decide (o0 < 44)) then (q_JArrays_fill2_54_L5 sc h o0 a1 (Int32.ofInt 0) (Int32.ofInt 30)) else none) :=
  (wb_go_eq (m := 281) (cl := wb_k_JArrays_fill2) rfl wb_vv [5] 3000 0 _ [] h).symm.trans rfl
theorem q_JArrays_fill2_54_L5_eq (sc : wb_X) (h : wb_H) (v0 : Nat) (v1 : Int32) (v2 : Int32) (v3 : Int32) : q_JArrays_fill2_54_L5 sc h v0 v1 v2 v3 = (bif (decide (v3 ≤ v2)) then some h else bif (decide (v0 < 44) && wb_in v2 30) then (q_JArrays_fill2_54_L5 sc (wb_iu h 54 v0 (v2).toNatClampNeg v1) v0 v1 (v2 + (Int32.ofInt 1)) v3) else none) :=
  (wb_go_eq (m := 281) (cl := wb_k_JArrays_fill2) rfl wb_vv [5] 3000 5 [some (.inr (.inr (54, v0))), some (.inl v1), some (.inl v2), some (.inl v3)] [] h).symm.trans rfl
end
