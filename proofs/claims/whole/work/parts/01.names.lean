-- ===== PART A: goes FIRST, ahead of the names: the tables' words, and 'selects' of the private methods out of them =====
/-- a private method of a class that the tables say can be made, by its rows of tables_1 -/
def lw_okq (q : MethodName × Nat) : Prop := (q.1.cls ≠ "java/lang/invoke/MethodHandle" ∧ q.1.cls ≠ "java/lang/invoke/VarHandle") ∧ Cond.instantiable q.1.cls q.2 ∈ tables_1 ∧ Cond.privateMethod q.1 ∈ tables_1 ∧ Cond.instanceMethod q.1 ∈ tables_1
theorem lw_p0 : lw_okq (⟨"OnlyBatteries$Text", "step", "()I"⟩, 7) := ⟨⟨by decide +kernel, by decide +kernel⟩, List.mem_of_getElem? (i := 31) (by decide +kernel), List.mem_of_getElem? (i := 369) (by decide +kernel), List.mem_of_getElem? (i := 370) (by decide +kernel)⟩
theorem lw_p1 : lw_okq (⟨"OnlyBatteries$Text", "at", "(I)I"⟩, 7) := ⟨⟨by decide +kernel, by decide +kernel⟩, List.mem_of_getElem? (i := 31) (by decide +kernel), List.mem_of_getElem? (i := 373) (by decide +kernel), List.mem_of_getElem? (i := 374) (by decide +kernel)⟩
theorem lw_p2 : lw_okq (⟨"OnlyBatteries$Text", "readLetters", "()I"⟩, 7) := ⟨⟨by decide +kernel, by decide +kernel⟩, List.mem_of_getElem? (i := 31) (by decide +kernel), List.mem_of_getElem? (i := 380) (by decide +kernel), List.mem_of_getElem? (i := 381) (by decide +kernel)⟩
theorem lw_p3 : lw_okq (⟨"OnlyBatteries$Text", "readDigits", "()I"⟩, 7) := ⟨⟨by decide +kernel, by decide +kernel⟩, List.mem_of_getElem? (i := 31) (by decide +kernel), List.mem_of_getElem? (i := 387) (by decide +kernel), List.mem_of_getElem? (i := 388) (by decide +kernel)⟩
theorem lw_p4 : lw_okq (⟨"OnlyBatteries$Text", "readItem", "(LOnlyBatteries$Year;)Z"⟩, 7) := ⟨⟨by decide +kernel, by decide +kernel⟩, List.mem_of_getElem? (i := 31) (by decide +kernel), List.mem_of_getElem? (i := 394) (by decide +kernel), List.mem_of_getElem? (i := 395) (by decide +kernel)⟩
theorem lw_p5 : lw_okq (⟨"OnlyBatteries$Text", "readWord", "()I"⟩, 7) := ⟨⟨by decide +kernel, by decide +kernel⟩, List.mem_of_getElem? (i := 31) (by decide +kernel), List.mem_of_getElem? (i := 398) (by decide +kernel), List.mem_of_getElem? (i := 399) (by decide +kernel)⟩
theorem lw_p6 : lw_okq (⟨"OnlyBatteries$Text", "isWord", "(Ljava/lang/String;)Z"⟩, 7) := ⟨⟨by decide +kernel, by decide +kernel⟩, List.mem_of_getElem? (i := 31) (by decide +kernel), List.mem_of_getElem? (i := 403) (by decide +kernel), List.mem_of_getElem? (i := 404) (by decide +kernel)⟩
theorem lw_p7 : lw_okq (⟨"OnlyBatteries$Text", "canStand", "(LOnlyBatteries$Year;II)Z"⟩, 7) := ⟨⟨by decide +kernel, by decide +kernel⟩, List.mem_of_getElem? (i := 31) (by decide +kernel), List.mem_of_getElem? (i := 464) (by decide +kernel), List.mem_of_getElem? (i := 465) (by decide +kernel)⟩
theorem lw_p8 : lw_okq (⟨"OnlyBatteries$Text", "canBeDay", "(I)Z"⟩, 7) := ⟨⟨by decide +kernel, by decide +kernel⟩, List.mem_of_getElem? (i := 31) (by decide +kernel), List.mem_of_getElem? (i := 483) (by decide +kernel), List.mem_of_getElem? (i := 484) (by decide +kernel)⟩
theorem lw_p9 : lw_okq (⟨"OnlyBatteries$Text", "tell", "(LOnlyBatteries$Year;I)V"⟩, 7) := ⟨⟨by decide +kernel, by decide +kernel⟩, List.mem_of_getElem? (i := 31) (by decide +kernel), List.mem_of_getElem? (i := 487) (by decide +kernel), List.mem_of_getElem? (i := 488) (by decide +kernel)⟩
theorem lw_p10 : lw_okq (⟨"OnlyBatteries$Walks", "measure", "(I)V"⟩, 3) := ⟨⟨by decide +kernel, by decide +kernel⟩, List.mem_of_getElem? (i := 190) (by decide +kernel), List.mem_of_getElem? (i := 631) (by decide +kernel), List.mem_of_getElem? (i := 632) (by decide +kernel)⟩
theorem lw_p11 : lw_okq (⟨"OnlyBatteries$Walks", "note", "(IJI)V"⟩, 3) := ⟨⟨by decide +kernel, by decide +kernel⟩, List.mem_of_getElem? (i := 190) (by decide +kernel), List.mem_of_getElem? (i := 636) (by decide +kernel), List.mem_of_getElem? (i := 637) (by decide +kernel)⟩
theorem lw_p12 : lw_okq (⟨"OnlyBatteries$Camps", "isOnShore", "(I)Z"⟩, 5) := ⟨⟨by decide +kernel, by decide +kernel⟩, List.mem_of_getElem? (i := 206) (by decide +kernel), List.mem_of_getElem? (i := 669) (by decide +kernel), List.mem_of_getElem? (i := 670) (by decide +kernel)⟩
theorem lw_p13 : lw_okq (⟨"OnlyBatteries$Camps", "isApart", "(I)Z"⟩, 5) := ⟨⟨by decide +kernel, by decide +kernel⟩, List.mem_of_getElem? (i := 206) (by decide +kernel), List.mem_of_getElem? (i := 677) (by decide +kernel), List.mem_of_getElem? (i := 678) (by decide +kernel)⟩
theorem lw_p14 : lw_okq (⟨"OnlyBatteries$Camps", "heapIn", "(J)J"⟩, 5) := ⟨⟨by decide +kernel, by decide +kernel⟩, List.mem_of_getElem? (i := 206) (by decide +kernel), List.mem_of_getElem? (i := 700) (by decide +kernel), List.mem_of_getElem? (i := 701) (by decide +kernel)⟩
theorem lw_p15 : lw_okq (⟨"OnlyBatteries$Takers", "choose", "()V"⟩, 5) := ⟨⟨by decide +kernel, by decide +kernel⟩, List.mem_of_getElem? (i := 231) (by decide +kernel), List.mem_of_getElem? (i := 712) (by decide +kernel), List.mem_of_getElem? (i := 713) (by decide +kernel)⟩
def lw_privs_1 : List (MethodName × Nat) := [(⟨"OnlyBatteries$Text", "step", "()I"⟩, 7), (⟨"OnlyBatteries$Text", "at", "(I)I"⟩, 7), (⟨"OnlyBatteries$Text", "readLetters", "()I"⟩, 7), (⟨"OnlyBatteries$Text", "readDigits", "()I"⟩, 7), (⟨"OnlyBatteries$Text", "readItem", "(LOnlyBatteries$Year;)Z"⟩, 7), (⟨"OnlyBatteries$Text", "readWord", "()I"⟩, 7), (⟨"OnlyBatteries$Text", "isWord", "(Ljava/lang/String;)Z"⟩, 7), (⟨"OnlyBatteries$Text", "canStand", "(LOnlyBatteries$Year;II)Z"⟩, 7), (⟨"OnlyBatteries$Text", "canBeDay", "(I)Z"⟩, 7), (⟨"OnlyBatteries$Text", "tell", "(LOnlyBatteries$Year;I)V"⟩, 7), (⟨"OnlyBatteries$Walks", "measure", "(I)V"⟩, 3), (⟨"OnlyBatteries$Walks", "note", "(IJI)V"⟩, 3), (⟨"OnlyBatteries$Camps", "isOnShore", "(I)Z"⟩, 5), (⟨"OnlyBatteries$Camps", "isApart", "(I)Z"⟩, 5), (⟨"OnlyBatteries$Camps", "heapIn", "(J)J"⟩, 5), (⟨"OnlyBatteries$Takers", "choose", "()V"⟩, 5)]
theorem lw_r1 : ∀ q ∈ lw_privs_1, lw_okq q := List.forall_mem_cons.mpr ⟨lw_p0, List.forall_mem_cons.mpr ⟨lw_p1, List.forall_mem_cons.mpr ⟨lw_p2, List.forall_mem_cons.mpr ⟨lw_p3, List.forall_mem_cons.mpr ⟨lw_p4, List.forall_mem_cons.mpr ⟨lw_p5, List.forall_mem_cons.mpr ⟨lw_p6, List.forall_mem_cons.mpr ⟨lw_p7, List.forall_mem_cons.mpr ⟨lw_p8, List.forall_mem_cons.mpr ⟨lw_p9, List.forall_mem_cons.mpr ⟨lw_p10, List.forall_mem_cons.mpr ⟨lw_p11, List.forall_mem_cons.mpr ⟨lw_p12, List.forall_mem_cons.mpr ⟨lw_p13, List.forall_mem_cons.mpr ⟨lw_p14, List.forall_mem_cons.mpr ⟨lw_p15, fun _ h => absurd h List.not_mem_nil⟩⟩⟩⟩⟩⟩⟩⟩⟩⟩⟩⟩⟩⟩⟩⟩
theorem lw_p16 : lw_okq (⟨"OnlyBatteries$Takers", "isEnough", "(I)Z"⟩, 5) := ⟨⟨by decide +kernel, by decide +kernel⟩, List.mem_of_getElem? (i := 231) (by decide +kernel), List.mem_of_getElem? (i := 719) (by decide +kernel), List.mem_of_getElem? (i := 720) (by decide +kernel)⟩
theorem lw_p17 : lw_okq (⟨"OnlyBatteries$Takers", "isPlaced", "(II)Z"⟩, 5) := ⟨⟨by decide +kernel, by decide +kernel⟩, List.mem_of_getElem? (i := 231) (by decide +kernel), List.mem_of_getElem? (i := 726) (by decide +kernel), List.mem_of_getElem? (i := 727) (by decide +kernel)⟩
theorem lw_p18 : lw_okq (⟨"OnlyBatteries$Takers", "queueThoseOf", "(II)I"⟩, 5) := ⟨⟨by decide +kernel, by decide +kernel⟩, List.mem_of_getElem? (i := 231) (by decide +kernel), List.mem_of_getElem? (i := 733) (by decide +kernel), List.mem_of_getElem? (i := 734) (by decide +kernel)⟩
theorem lw_p19 : lw_okq (⟨"OnlyBatteries$Takers", "move", "(I)V"⟩, 5) := ⟨⟨by decide +kernel, by decide +kernel⟩, List.mem_of_getElem? (i := 231) (by decide +kernel), List.mem_of_getElem? (i := 737) (by decide +kernel), List.mem_of_getElem? (i := 738) (by decide +kernel)⟩
theorem lw_p20 : lw_okq (⟨"OnlyBatteries$Takers", "narrow", "(I)V"⟩, 5) := ⟨⟨by decide +kernel, by decide +kernel⟩, List.mem_of_getElem? (i := 231) (by decide +kernel), List.mem_of_getElem? (i := 749) (by decide +kernel), List.mem_of_getElem? (i := 750) (by decide +kernel)⟩
theorem lw_p21 : lw_okq (⟨"OnlyBatteries", "isStay", "(III)Z"⟩, 11) := ⟨⟨by decide +kernel, by decide +kernel⟩, List.mem_of_getElem? (i := 23) (by decide +kernel), List.mem_of_getElem? (i := 758) (by decide +kernel), List.mem_of_getElem? (i := 759) (by decide +kernel)⟩
theorem lw_p22 : lw_okq (⟨"OnlyBatteries$Stores", "openNights", "(I)J"⟩, 4) := ⟨⟨by decide +kernel, by decide +kernel⟩, List.mem_of_getElem? (i := 253) (by decide +kernel), List.mem_of_getElem? (i := 770) (by decide +kernel), List.mem_of_getElem? (i := 771) (by decide +kernel)⟩
theorem lw_p23 : lw_okq (⟨"OnlyBatteries$Stores", "put", "(III)V"⟩, 4) := ⟨⟨by decide +kernel, by decide +kernel⟩, List.mem_of_getElem? (i := 253) (by decide +kernel), List.mem_of_getElem? (i := 778) (by decide +kernel), List.mem_of_getElem? (i := 779) (by decide +kernel)⟩
theorem lw_p24 : lw_okq (⟨"OnlyBatteries$Stores", "need", "(II)I"⟩, 4) := ⟨⟨by decide +kernel, by decide +kernel⟩, List.mem_of_getElem? (i := 253) (by decide +kernel), List.mem_of_getElem? (i := 783) (by decide +kernel), List.mem_of_getElem? (i := 784) (by decide +kernel)⟩
theorem lw_p25 : lw_okq (⟨"OnlyBatteries$Stores", "get", "(II)I"⟩, 4) := ⟨⟨by decide +kernel, by decide +kernel⟩, List.mem_of_getElem? (i := 253) (by decide +kernel), List.mem_of_getElem? (i := 787) (by decide +kernel), List.mem_of_getElem? (i := 788) (by decide +kernel)⟩
theorem lw_p26 : lw_okq (⟨"OnlyBatteries$Stores", "filled", "(I)I"⟩, 4) := ⟨⟨by decide +kernel, by decide +kernel⟩, List.mem_of_getElem? (i := 253) (by decide +kernel), List.mem_of_getElem? (i := 792) (by decide +kernel), List.mem_of_getElem? (i := 793) (by decide +kernel)⟩
theorem lw_p27 : lw_okq (⟨"OnlyBatteries$Watches", "measure", "(I)V"⟩, 5) := ⟨⟨by decide +kernel, by decide +kernel⟩, List.mem_of_getElem? (i := 272) (by decide +kernel), List.mem_of_getElem? (i := 829) (by decide +kernel), List.mem_of_getElem? (i := 830) (by decide +kernel)⟩
theorem lw_p28 : lw_okq (⟨"OnlyBatteries$Watches", "worthOfSet", "(II)I"⟩, 5) := ⟨⟨by decide +kernel, by decide +kernel⟩, List.mem_of_getElem? (i := 272) (by decide +kernel), List.mem_of_getElem? (i := 841) (by decide +kernel), List.mem_of_getElem? (i := 842) (by decide +kernel)⟩
theorem lw_p29 : lw_okq (⟨"OnlyBatteries", "asTheft", "(LOnlyBatteries$Theft;)I"⟩, 11) := ⟨⟨by decide +kernel, by decide +kernel⟩, List.mem_of_getElem? (i := 23) (by decide +kernel), List.mem_of_getElem? (i := 897) (by decide +kernel), List.mem_of_getElem? (i := 898) (by decide +kernel)⟩
theorem lw_p30 : lw_okq (⟨"OnlyBatteries", "asHis", "(LOnlyBatteries$Theft;)I"⟩, 11) := ⟨⟨by decide +kernel, by decide +kernel⟩, List.mem_of_getElem? (i := 23) (by decide +kernel), List.mem_of_getElem? (i := 901) (by decide +kernel), List.mem_of_getElem? (i := 902) (by decide +kernel)⟩
theorem lw_p31 : lw_okq (⟨"OnlyBatteries", "asTheirs", "(LOnlyBatteries$Theft;)I"⟩, 11) := ⟨⟨by decide +kernel, by decide +kernel⟩, List.mem_of_getElem? (i := 23) (by decide +kernel), List.mem_of_getElem? (i := 906) (by decide +kernel), List.mem_of_getElem? (i := 907) (by decide +kernel)⟩
def lw_privs_2 : List (MethodName × Nat) := [(⟨"OnlyBatteries$Takers", "isEnough", "(I)Z"⟩, 5), (⟨"OnlyBatteries$Takers", "isPlaced", "(II)Z"⟩, 5), (⟨"OnlyBatteries$Takers", "queueThoseOf", "(II)I"⟩, 5), (⟨"OnlyBatteries$Takers", "move", "(I)V"⟩, 5), (⟨"OnlyBatteries$Takers", "narrow", "(I)V"⟩, 5), (⟨"OnlyBatteries", "isStay", "(III)Z"⟩, 11), (⟨"OnlyBatteries$Stores", "openNights", "(I)J"⟩, 4), (⟨"OnlyBatteries$Stores", "put", "(III)V"⟩, 4), (⟨"OnlyBatteries$Stores", "need", "(II)I"⟩, 4), (⟨"OnlyBatteries$Stores", "get", "(II)I"⟩, 4), (⟨"OnlyBatteries$Stores", "filled", "(I)I"⟩, 4), (⟨"OnlyBatteries$Watches", "measure", "(I)V"⟩, 5), (⟨"OnlyBatteries$Watches", "worthOfSet", "(II)I"⟩, 5), (⟨"OnlyBatteries", "asTheft", "(LOnlyBatteries$Theft;)I"⟩, 11), (⟨"OnlyBatteries", "asHis", "(LOnlyBatteries$Theft;)I"⟩, 11), (⟨"OnlyBatteries", "asTheirs", "(LOnlyBatteries$Theft;)I"⟩, 11)]
theorem lw_r2 : ∀ q ∈ lw_privs_2, lw_okq q := List.forall_mem_cons.mpr ⟨lw_p16, List.forall_mem_cons.mpr ⟨lw_p17, List.forall_mem_cons.mpr ⟨lw_p18, List.forall_mem_cons.mpr ⟨lw_p19, List.forall_mem_cons.mpr ⟨lw_p20, List.forall_mem_cons.mpr ⟨lw_p21, List.forall_mem_cons.mpr ⟨lw_p22, List.forall_mem_cons.mpr ⟨lw_p23, List.forall_mem_cons.mpr ⟨lw_p24, List.forall_mem_cons.mpr ⟨lw_p25, List.forall_mem_cons.mpr ⟨lw_p26, List.forall_mem_cons.mpr ⟨lw_p27, List.forall_mem_cons.mpr ⟨lw_p28, List.forall_mem_cons.mpr ⟨lw_p29, List.forall_mem_cons.mpr ⟨lw_p30, List.forall_mem_cons.mpr ⟨lw_p31, fun _ h => absurd h List.not_mem_nil⟩⟩⟩⟩⟩⟩⟩⟩⟩⟩⟩⟩⟩⟩⟩⟩
theorem lw_p32 : lw_okq (⟨"OnlyBatteries", "asFood", "(LOnlyBatteries$Theft;)I"⟩, 11) := ⟨⟨by decide +kernel, by decide +kernel⟩, List.mem_of_getElem? (i := 23) (by decide +kernel), List.mem_of_getElem? (i := 911) (by decide +kernel), List.mem_of_getElem? (i := 912) (by decide +kernel)⟩
theorem lw_p33 : lw_okq (⟨"OnlyBatteries", "asLight", "(LOnlyBatteries$Theft;)I"⟩, 11) := ⟨⟨by decide +kernel, by decide +kernel⟩, List.mem_of_getElem? (i := 23) (by decide +kernel), List.mem_of_getElem? (i := 917) (by decide +kernel), List.mem_of_getElem? (i := 918) (by decide +kernel)⟩
theorem lw_p34 : lw_okq (⟨"OnlyBatteries", "asLost", "(LOnlyBatteries$Theft;)I"⟩, 11) := ⟨⟨by decide +kernel, by decide +kernel⟩, List.mem_of_getElem? (i := 23) (by decide +kernel), List.mem_of_getElem? (i := 922) (by decide +kernel), List.mem_of_getElem? (i := 923) (by decide +kernel)⟩
theorem lw_p35 : lw_okq (⟨"OnlyBatteriesModel", "advances", "()V"⟩, 29) := ⟨⟨by decide +kernel, by decide +kernel⟩, List.mem_of_getElem? (i := 961) (by decide +kernel), List.mem_of_getElem? (i := 1072) (by decide +kernel), List.mem_of_getElem? (i := 1073) (by decide +kernel)⟩
theorem lw_p36 : lw_okq (⟨"OnlyBatteriesModel", "byteAt", "(I)I"⟩, 29) := ⟨⟨by decide +kernel, by decide +kernel⟩, List.mem_of_getElem? (i := 961) (by decide +kernel), List.mem_of_getElem? (i := 1076) (by decide +kernel), List.mem_of_getElem? (i := 1077) (by decide +kernel)⟩
theorem lw_p37 : lw_okq (⟨"OnlyBatteriesModel", "isWell", "()Z"⟩, 29) := ⟨⟨by decide +kernel, by decide +kernel⟩, List.mem_of_getElem? (i := 961) (by decide +kernel), List.mem_of_getElem? (i := 1088) (by decide +kernel), List.mem_of_getElem? (i := 1089) (by decide +kernel)⟩
theorem lw_p38 : lw_okq (⟨"OnlyBatteriesModel", "takes", "(Z)I"⟩, 29) := ⟨⟨by decide +kernel, by decide +kernel⟩, List.mem_of_getElem? (i := 961) (by decide +kernel), List.mem_of_getElem? (i := 1092) (by decide +kernel), List.mem_of_getElem? (i := 1093) (by decide +kernel)⟩
theorem lw_p39 : lw_okq (⟨"OnlyBatteriesModel", "readsGround", "(I)V"⟩, 29) := ⟨⟨by decide +kernel, by decide +kernel⟩, List.mem_of_getElem? (i := 961) (by decide +kernel), List.mem_of_getElem? (i := 1096) (by decide +kernel), List.mem_of_getElem? (i := 1097) (by decide +kernel)⟩
theorem lw_p40 : lw_okq (⟨"OnlyBatteriesModel", "isDraftCabin", "(I)Z"⟩, 29) := ⟨⟨by decide +kernel, by decide +kernel⟩, List.mem_of_getElem? (i := 961) (by decide +kernel), List.mem_of_getElem? (i := 1100) (by decide +kernel), List.mem_of_getElem? (i := 1101) (by decide +kernel)⟩
theorem lw_p41 : lw_okq (⟨"OnlyBatteriesModel", "readsCabin", "()V"⟩, 29) := ⟨⟨by decide +kernel, by decide +kernel⟩, List.mem_of_getElem? (i := 961) (by decide +kernel), List.mem_of_getElem? (i := 1104) (by decide +kernel), List.mem_of_getElem? (i := 1105) (by decide +kernel)⟩
theorem lw_p42 : lw_okq (⟨"OnlyBatteriesModel", "readsDays", "(I)V"⟩, 29) := ⟨⟨by decide +kernel, by decide +kernel⟩, List.mem_of_getElem? (i := 961) (by decide +kernel), List.mem_of_getElem? (i := 1108) (by decide +kernel), List.mem_of_getElem? (i := 1109) (by decide +kernel)⟩
theorem lw_p43 : lw_okq (⟨"OnlyBatteriesModel", "number", "(II)I"⟩, 29) := ⟨⟨by decide +kernel, by decide +kernel⟩, List.mem_of_getElem? (i := 961) (by decide +kernel), List.mem_of_getElem? (i := 1112) (by decide +kernel), List.mem_of_getElem? (i := 1113) (by decide +kernel)⟩
theorem lw_p44 : lw_okq (⟨"OnlyBatteriesModel", "isCabin", "(I)Z"⟩, 29) := ⟨⟨by decide +kernel, by decide +kernel⟩, List.mem_of_getElem? (i := 961) (by decide +kernel), List.mem_of_getElem? (i := 1131) (by decide +kernel), List.mem_of_getElem? (i := 1132) (by decide +kernel)⟩
theorem lw_p45 : lw_okq (⟨"OnlyBatteriesModel", "freeNights", "(I)J"⟩, 29) := ⟨⟨by decide +kernel, by decide +kernel⟩, List.mem_of_getElem? (i := 961) (by decide +kernel), List.mem_of_getElem? (i := 1139) (by decide +kernel), List.mem_of_getElem? (i := 1140) (by decide +kernel)⟩
theorem lw_p46 : lw_okq (⟨"OnlyBatteriesModel", "isTheft", "(I)Z"⟩, 29) := ⟨⟨by decide +kernel, by decide +kernel⟩, List.mem_of_getElem? (i := 961) (by decide +kernel), List.mem_of_getElem? (i := 1155) (by decide +kernel), List.mem_of_getElem? (i := 1156) (by decide +kernel)⟩
theorem lw_p47 : lw_okq (⟨"OnlyBatteriesModel", "of", "(II)I"⟩, 29) := ⟨⟨by decide +kernel, by decide +kernel⟩, List.mem_of_getElem? (i := 961) (by decide +kernel), List.mem_of_getElem? (i := 1159) (by decide +kernel), List.mem_of_getElem? (i := 1160) (by decide +kernel)⟩
def lw_privs_3 : List (MethodName × Nat) := [(⟨"OnlyBatteries", "asFood", "(LOnlyBatteries$Theft;)I"⟩, 11), (⟨"OnlyBatteries", "asLight", "(LOnlyBatteries$Theft;)I"⟩, 11), (⟨"OnlyBatteries", "asLost", "(LOnlyBatteries$Theft;)I"⟩, 11), (⟨"OnlyBatteriesModel", "advances", "()V"⟩, 29), (⟨"OnlyBatteriesModel", "byteAt", "(I)I"⟩, 29), (⟨"OnlyBatteriesModel", "isWell", "()Z"⟩, 29), (⟨"OnlyBatteriesModel", "takes", "(Z)I"⟩, 29), (⟨"OnlyBatteriesModel", "readsGround", "(I)V"⟩, 29), (⟨"OnlyBatteriesModel", "isDraftCabin", "(I)Z"⟩, 29), (⟨"OnlyBatteriesModel", "readsCabin", "()V"⟩, 29), (⟨"OnlyBatteriesModel", "readsDays", "(I)V"⟩, 29), (⟨"OnlyBatteriesModel", "number", "(II)I"⟩, 29), (⟨"OnlyBatteriesModel", "isCabin", "(I)Z"⟩, 29), (⟨"OnlyBatteriesModel", "freeNights", "(I)J"⟩, 29), (⟨"OnlyBatteriesModel", "isTheft", "(I)Z"⟩, 29), (⟨"OnlyBatteriesModel", "of", "(II)I"⟩, 29)]
theorem lw_r3 : ∀ q ∈ lw_privs_3, lw_okq q := List.forall_mem_cons.mpr ⟨lw_p32, List.forall_mem_cons.mpr ⟨lw_p33, List.forall_mem_cons.mpr ⟨lw_p34, List.forall_mem_cons.mpr ⟨lw_p35, List.forall_mem_cons.mpr ⟨lw_p36, List.forall_mem_cons.mpr ⟨lw_p37, List.forall_mem_cons.mpr ⟨lw_p38, List.forall_mem_cons.mpr ⟨lw_p39, List.forall_mem_cons.mpr ⟨lw_p40, List.forall_mem_cons.mpr ⟨lw_p41, List.forall_mem_cons.mpr ⟨lw_p42, List.forall_mem_cons.mpr ⟨lw_p43, List.forall_mem_cons.mpr ⟨lw_p44, List.forall_mem_cons.mpr ⟨lw_p45, List.forall_mem_cons.mpr ⟨lw_p46, List.forall_mem_cons.mpr ⟨lw_p47, fun _ h => absurd h List.not_mem_nil⟩⟩⟩⟩⟩⟩⟩⟩⟩⟩⟩⟩⟩⟩⟩⟩
theorem lw_p48 : lw_okq (⟨"OnlyBatteriesModel", "marks", "(I)I"⟩, 29) := ⟨⟨by decide +kernel, by decide +kernel⟩, List.mem_of_getElem? (i := 961) (by decide +kernel), List.mem_of_getElem? (i := 1163) (by decide +kernel), List.mem_of_getElem? (i := 1164) (by decide +kernel)⟩
theorem lw_p49 : lw_okq (⟨"OnlyBatteriesModel", "isHis", "(I)Z"⟩, 29) := ⟨⟨by decide +kernel, by decide +kernel⟩, List.mem_of_getElem? (i := 961) (by decide +kernel), List.mem_of_getElem? (i := 1167) (by decide +kernel), List.mem_of_getElem? (i := 1168) (by decide +kernel)⟩
theorem lw_p50 : lw_okq (⟨"OnlyBatteriesModel", "couldBe", "(I)J"⟩, 29) := ⟨⟨by decide +kernel, by decide +kernel⟩, List.mem_of_getElem? (i := 961) (by decide +kernel), List.mem_of_getElem? (i := 1175) (by decide +kernel), List.mem_of_getElem? (i := 1176) (by decide +kernel)⟩
theorem lw_p51 : lw_okq (⟨"OnlyBatteriesModel", "walks", "(I)V"⟩, 29) := ⟨⟨by decide +kernel, by decide +kernel⟩, List.mem_of_getElem? (i := 961) (by decide +kernel), List.mem_of_getElem? (i := 1192) (by decide +kernel), List.mem_of_getElem? (i := 1193) (by decide +kernel)⟩
theorem lw_p52 : lw_okq (⟨"OnlyBatteriesModel", "isLake", "(I)Z"⟩, 29) := ⟨⟨by decide +kernel, by decide +kernel⟩, List.mem_of_getElem? (i := 961) (by decide +kernel), List.mem_of_getElem? (i := 1196) (by decide +kernel), List.mem_of_getElem? (i := 1197) (by decide +kernel)⟩
theorem lw_p53 : lw_okq (⟨"OnlyBatteriesModel", "tripOf", "(III)I"⟩, 29) := ⟨⟨by decide +kernel, by decide +kernel⟩, List.mem_of_getElem? (i := 961) (by decide +kernel), List.mem_of_getElem? (i := 1208) (by decide +kernel), List.mem_of_getElem? (i := 1209) (by decide +kernel)⟩
theorem lw_p54 : lw_okq (⟨"OnlyBatteriesModel", "campBy", "(I)I"⟩, 29) := ⟨⟨by decide +kernel, by decide +kernel⟩, List.mem_of_getElem? (i := 961) (by decide +kernel), List.mem_of_getElem? (i := 1216) (by decide +kernel), List.mem_of_getElem? (i := 1217) (by decide +kernel)⟩
theorem lw_p55 : lw_okq (⟨"OnlyBatteriesModel", "heaps", "()I"⟩, 29) := ⟨⟨by decide +kernel, by decide +kernel⟩, List.mem_of_getElem? (i := 961) (by decide +kernel), List.mem_of_getElem? (i := 1224) (by decide +kernel), List.mem_of_getElem? (i := 1225) (by decide +kernel)⟩
theorem lw_p56 : lw_okq (⟨"OnlyBatteriesModel", "laysNights", "(J)V"⟩, 29) := ⟨⟨by decide +kernel, by decide +kernel⟩, List.mem_of_getElem? (i := 961) (by decide +kernel), List.mem_of_getElem? (i := 1232) (by decide +kernel), List.mem_of_getElem? (i := 1233) (by decide +kernel)⟩
theorem lw_p57 : lw_okq (⟨"OnlyBatteriesModel", "wanted", "(IZ)I"⟩, 29) := ⟨⟨by decide +kernel, by decide +kernel⟩, List.mem_of_getElem? (i := 961) (by decide +kernel), List.mem_of_getElem? (i := 1236) (by decide +kernel), List.mem_of_getElem? (i := 1237) (by decide +kernel)⟩
theorem lw_p58 : lw_okq (⟨"OnlyBatteriesModel", "areDays", "(II)Z"⟩, 29) := ⟨⟨by decide +kernel, by decide +kernel⟩, List.mem_of_getElem? (i := 961) (by decide +kernel), List.mem_of_getElem? (i := 1248) (by decide +kernel), List.mem_of_getElem? (i := 1249) (by decide +kernel)⟩
theorem lw_p59 : lw_okq (⟨"OnlyBatteriesModel", "laysOuts", "(II)V"⟩, 29) := ⟨⟨by decide +kernel, by decide +kernel⟩, List.mem_of_getElem? (i := 961) (by decide +kernel), List.mem_of_getElem? (i := 1252) (by decide +kernel), List.mem_of_getElem? (i := 1253) (by decide +kernel)⟩
theorem lw_p60 : lw_okq (⟨"OnlyBatteriesModel", "fetched", "(I)I"⟩, 29) := ⟨⟨by decide +kernel, by decide +kernel⟩, List.mem_of_getElem? (i := 961) (by decide +kernel), List.mem_of_getElem? (i := 1256) (by decide +kernel), List.mem_of_getElem? (i := 1257) (by decide +kernel)⟩
theorem lw_p61 : lw_okq (⟨"OnlyBatteriesModel", "watchOf", "(III)I"⟩, 29) := ⟨⟨by decide +kernel, by decide +kernel⟩, List.mem_of_getElem? (i := 961) (by decide +kernel), List.mem_of_getElem? (i := 1268) (by decide +kernel), List.mem_of_getElem? (i := 1269) (by decide +kernel)⟩
theorem lw_p62 : lw_okq (⟨"OnlyBatteriesModel", "grewBy", "(I)I"⟩, 29) := ⟨⟨by decide +kernel, by decide +kernel⟩, List.mem_of_getElem? (i := 961) (by decide +kernel), List.mem_of_getElem? (i := 1284) (by decide +kernel), List.mem_of_getElem? (i := 1285) (by decide +kernel)⟩
theorem lw_p63 : lw_okq (⟨"OnlyBatteriesModel", "lossOf", "(I)I"⟩, 29) := ⟨⟨by decide +kernel, by decide +kernel⟩, List.mem_of_getElem? (i := 961) (by decide +kernel), List.mem_of_getElem? (i := 1297) (by decide +kernel), List.mem_of_getElem? (i := 1298) (by decide +kernel)⟩
def lw_privs_4 : List (MethodName × Nat) := [(⟨"OnlyBatteriesModel", "marks", "(I)I"⟩, 29), (⟨"OnlyBatteriesModel", "isHis", "(I)Z"⟩, 29), (⟨"OnlyBatteriesModel", "couldBe", "(I)J"⟩, 29), (⟨"OnlyBatteriesModel", "walks", "(I)V"⟩, 29), (⟨"OnlyBatteriesModel", "isLake", "(I)Z"⟩, 29), (⟨"OnlyBatteriesModel", "tripOf", "(III)I"⟩, 29), (⟨"OnlyBatteriesModel", "campBy", "(I)I"⟩, 29), (⟨"OnlyBatteriesModel", "heaps", "()I"⟩, 29), (⟨"OnlyBatteriesModel", "laysNights", "(J)V"⟩, 29), (⟨"OnlyBatteriesModel", "wanted", "(IZ)I"⟩, 29), (⟨"OnlyBatteriesModel", "areDays", "(II)Z"⟩, 29), (⟨"OnlyBatteriesModel", "laysOuts", "(II)V"⟩, 29), (⟨"OnlyBatteriesModel", "fetched", "(I)I"⟩, 29), (⟨"OnlyBatteriesModel", "watchOf", "(III)I"⟩, 29), (⟨"OnlyBatteriesModel", "grewBy", "(I)I"⟩, 29), (⟨"OnlyBatteriesModel", "lossOf", "(I)I"⟩, 29)]
theorem lw_r4 : ∀ q ∈ lw_privs_4, lw_okq q := List.forall_mem_cons.mpr ⟨lw_p48, List.forall_mem_cons.mpr ⟨lw_p49, List.forall_mem_cons.mpr ⟨lw_p50, List.forall_mem_cons.mpr ⟨lw_p51, List.forall_mem_cons.mpr ⟨lw_p52, List.forall_mem_cons.mpr ⟨lw_p53, List.forall_mem_cons.mpr ⟨lw_p54, List.forall_mem_cons.mpr ⟨lw_p55, List.forall_mem_cons.mpr ⟨lw_p56, List.forall_mem_cons.mpr ⟨lw_p57, List.forall_mem_cons.mpr ⟨lw_p58, List.forall_mem_cons.mpr ⟨lw_p59, List.forall_mem_cons.mpr ⟨lw_p60, List.forall_mem_cons.mpr ⟨lw_p61, List.forall_mem_cons.mpr ⟨lw_p62, List.forall_mem_cons.mpr ⟨lw_p63, fun _ h => absurd h List.not_mem_nil⟩⟩⟩⟩⟩⟩⟩⟩⟩⟩⟩⟩⟩⟩⟩⟩
def lw_privs : List (MethodName × Nat) := lw_privs_1 ++ (lw_privs_2 ++ (lw_privs_3 ++ (lw_privs_4)))
def lw_tbl : List Cond := k2_sels lw_privs ++ tables_1
theorem lw_privs_ok : ∀ q ∈ lw_privs, lw_okq q := by
  show ∀ q ∈ lw_privs_1 ++ (lw_privs_2 ++ (lw_privs_3 ++ (lw_privs_4))), lw_okq q
  exact List.forall_mem_append.mpr ⟨lw_r1, List.forall_mem_append.mpr ⟨lw_r2, List.forall_mem_append.mpr ⟨lw_r3, lw_r4⟩⟩⟩
def RX0 : String := "OnlyBatteries$Book"
def TX0 : u_T := fun k => match k with
  | 0 => ("OnlyBatteries$Book", "thefts", "[LOnlyBatteries$Theft;", true)
  | _ => ("OnlyBatteries$Book", "held", "I", false)
def tyX0 : Nat → FieldType := fun k => match k with
  | 0 => .array (.object "OnlyBatteries$Theft")
  | _ => .int
theorem nmX0 : ∀ a, a < 2 → ∀ b, b < 2 → a ≠ b → (TX0 a).2.1 ≠ (TX0 b).2.1 := by decide +kernel
theorem tyX0_ok : ∀ k, k < 2 → parseFieldDescriptor (TX0 k).2.2.1 = some (tyX0 k) := by decide +kernel
def RX1 : String := "OnlyBatteries$Camps"
def TX1 : u_T := fun k => match k with
  | 0 => ("OnlyBatteries$Camps", "facts", "LOnlyBatteries$Facts;", true)
  | 1 => ("OnlyBatteries$Camps", "walks", "LOnlyBatteries$Walks;", true)
  | 2 => ("OnlyBatteries$Camps", "cells", "J", false)
  | 3 => ("OnlyBatteries$Camps", "best", "I", false)
  | _ => ("OnlyBatteries$Camps", "bestTrips", "I", false)
def tyX1 : Nat → FieldType := fun k => match k with
  | 0 => .object "OnlyBatteries$Facts"
  | 1 => .object "OnlyBatteries$Walks"
  | 2 => .long
  | 3 => .int
  | _ => .int
theorem nmX1 : ∀ a, a < 5 → ∀ b, b < 5 → a ≠ b → (TX1 a).2.1 ≠ (TX1 b).2.1 := by decide +kernel
theorem tyX1_ok : ∀ k, k < 5 → parseFieldDescriptor (TX1 k).2.2.1 = some (tyX1 k) := by decide +kernel
def RX2 : String := "OnlyBatteries$Facts"
def TX2 : u_T := fun k => match k with
  | 0 => ("OnlyBatteries$Facts", "year", "LOnlyBatteries$Year;", true)
  | 1 => ("OnlyBatteries$Facts", "book", "LOnlyBatteries$Book;", true)
  | _ => ("OnlyBatteries$Facts", "tunes", "[I", true)
def tyX2 : Nat → FieldType := fun k => match k with
  | 0 => .object "OnlyBatteries$Year"
  | 1 => .object "OnlyBatteries$Book"
  | _ => .array .int
theorem nmX2 : ∀ a, a < 3 → ∀ b, b < 3 → a ≠ b → (TX2 a).2.1 ≠ (TX2 b).2.1 := by decide +kernel
theorem tyX2_ok : ∀ k, k < 3 → parseFieldDescriptor (TX2 k).2.2.1 = some (tyX2 k) := by decide +kernel
def RX3 : String := "OnlyBatteries$Stores"
def TX3 : u_T := fun k => match k with
  | 0 => ("OnlyBatteries$Stores", "facts", "LOnlyBatteries$Facts;", true)
  | 1 => ("OnlyBatteries$Stores", "walks", "LOnlyBatteries$Walks;", true)
  | 2 => ("OnlyBatteries$Stores", "needs", "[I", true)
  | _ => ("OnlyBatteries$Stores", "open", "J", false)
def tyX3 : Nat → FieldType := fun k => match k with
  | 0 => .object "OnlyBatteries$Facts"
  | 1 => .object "OnlyBatteries$Walks"
  | 2 => .array .int
  | _ => .long
theorem nmX3 : ∀ a, a < 4 → ∀ b, b < 4 → a ≠ b → (TX3 a).2.1 ≠ (TX3 b).2.1 := by decide +kernel
theorem tyX3_ok : ∀ k, k < 4 → parseFieldDescriptor (TX3 k).2.2.1 = some (tyX3 k) := by decide +kernel
def RX4 : String := "OnlyBatteries$Takers"
def TX4 : u_T := fun k => match k with
  | 0 => ("OnlyBatteries$Takers", "facts", "LOnlyBatteries$Facts;", true)
  | 1 => ("OnlyBatteries$Takers", "choices", "[J", true)
  | 2 => ("OnlyBatteries$Takers", "nights", "[I", true)
  | 3 => ("OnlyBatteries$Takers", "queue", "[I", true)
  | _ => ("OnlyBatteries$Takers", "reachedBy", "[I", true)
def tyX4 : Nat → FieldType := fun k => match k with
  | 0 => .object "OnlyBatteries$Facts"
  | 1 => .array .long
  | 2 => .array .int
  | 3 => .array .int
  | _ => .array .int
theorem nmX4 : ∀ a, a < 5 → ∀ b, b < 5 → a ≠ b → (TX4 a).2.1 ≠ (TX4 b).2.1 := by decide +kernel
theorem tyX4_ok : ∀ k, k < 5 → parseFieldDescriptor (TX4 k).2.2.1 = some (tyX4 k) := by decide +kernel
def RX5 : String := "OnlyBatteries$Text"
def TX5 : u_T := fun k => match k with
  | 0 => ("OnlyBatteries$Text", "bytes", "[B", true)
  | 1 => ("OnlyBatteries$Text", "numbers", "[I", true)
  | 2 => ("OnlyBatteries$Text", "length", "I", false)
  | 3 => ("OnlyBatteries$Text", "token", "I", false)
  | 4 => ("OnlyBatteries$Text", "start", "I", false)
  | 5 => ("OnlyBatteries$Text", "behind", "I", false)
  | _ => ("OnlyBatteries$Text", "number", "I", false)
def tyX5 : Nat → FieldType := fun k => match k with
  | 0 => .array .byte
  | 1 => .array .int
  | 2 => .int
  | 3 => .int
  | 4 => .int
  | 5 => .int
  | _ => .int
theorem nmX5 : ∀ a, a < 7 → ∀ b, b < 7 → a ≠ b → (TX5 a).2.1 ≠ (TX5 b).2.1 := by decide +kernel
theorem tyX5_ok : ∀ k, k < 7 → parseFieldDescriptor (TX5 k).2.2.1 = some (tyX5 k) := by decide +kernel
def RX6 : String := "OnlyBatteries$Theft"
def TX6 : u_T := fun k => match k with
  | 0 => ("OnlyBatteries$Theft", "cabin", "I", false)
  | 1 => ("OnlyBatteries$Theft", "last", "I", false)
  | 2 => ("OnlyBatteries$Theft", "missed", "I", false)
  | 3 => ("OnlyBatteries$Theft", "goods", "I", false)
  | 4 => ("OnlyBatteries$Theft", "load", "I", false)
  | 5 => ("OnlyBatteries$Theft", "left", "I", false)
  | 6 => ("OnlyBatteries$Theft", "lists", "I", false)
  | _ => ("OnlyBatteries$Theft", "coins", "[I", true)
def tyX6 : Nat → FieldType := fun k => match k with
  | 0 => .int
  | 1 => .int
  | 2 => .int
  | 3 => .int
  | 4 => .int
  | 5 => .int
  | 6 => .int
  | _ => .array .int
theorem nmX6 : ∀ a, a < 8 → ∀ b, b < 8 → a ≠ b → (TX6 a).2.1 ≠ (TX6 b).2.1 := by decide +kernel
theorem tyX6_ok : ∀ k, k < 8 → parseFieldDescriptor (TX6 k).2.2.1 = some (tyX6 k) := by decide +kernel
def RX7 : String := "OnlyBatteries$Walks"
def TX7 : u_T := fun k => match k with
  | 0 => ("OnlyBatteries$Walks", "year", "LOnlyBatteries$Year;", true)
  | 1 => ("OnlyBatteries$Walks", "ways", "[I", true)
  | _ => ("OnlyBatteries$Walks", "known", "J", false)
def tyX7 : Nat → FieldType := fun k => match k with
  | 0 => .object "OnlyBatteries$Year"
  | 1 => .array .int
  | _ => .long
theorem nmX7 : ∀ a, a < 3 → ∀ b, b < 3 → a ≠ b → (TX7 a).2.1 ≠ (TX7 b).2.1 := by decide +kernel
theorem tyX7_ok : ∀ k, k < 3 → parseFieldDescriptor (TX7 k).2.2.1 = some (tyX7 k) := by decide +kernel
def RX8 : String := "OnlyBatteries$Watches"
def TX8 : u_T := fun k => match k with
  | 0 => ("OnlyBatteries$Watches", "facts", "LOnlyBatteries$Facts;", true)
  | 1 => ("OnlyBatteries$Watches", "worths", "[I", true)
  | 2 => ("OnlyBatteries$Watches", "bestSet", "I", false)
  | 3 => ("OnlyBatteries$Watches", "bestNight", "I", false)
  | _ => ("OnlyBatteries$Watches", "bestWorth", "I", false)
def tyX8 : Nat → FieldType := fun k => match k with
  | 0 => .object "OnlyBatteries$Facts"
  | 1 => .array .int
  | 2 => .int
  | 3 => .int
  | _ => .int
theorem nmX8 : ∀ a, a < 5 → ∀ b, b < 5 → a ≠ b → (TX8 a).2.1 ≠ (TX8 b).2.1 := by decide +kernel
theorem tyX8_ok : ∀ k, k < 5 → parseFieldDescriptor (TX8 k).2.2.1 = some (tyX8 k) := by decide +kernel
def RX9 : String := "OnlyBatteries$Year"
def TX9 : u_T := fun k => match k with
  | 0 => ("OnlyBatteries$Year", "grounds", "[J", true)
  | 1 => ("OnlyBatteries$Year", "places", "[I", true)
  | 2 => ("OnlyBatteries$Year", "homes", "[J", true)
  | 3 => ("OnlyBatteries$Year", "cabins", "I", false)
  | _ => ("OnlyBatteries$Year", "unfit", "J", false)
def tyX9 : Nat → FieldType := fun k => match k with
  | 0 => .array .long
  | 1 => .array .int
  | 2 => .array .long
  | 3 => .int
  | _ => .long
theorem nmX9 : ∀ a, a < 5 → ∀ b, b < 5 → a ≠ b → (TX9 a).2.1 ≠ (TX9 b).2.1 := by decide +kernel
theorem tyX9_ok : ∀ k, k < 5 → parseFieldDescriptor (TX9 k).2.2.1 = some (tyX9 k) := by decide +kernel
def RX10 : String := "OnlyBatteries"
def TX10 : u_T := fun k => match k with
  | 0 => ("OnlyBatteries", "text", "LOnlyBatteries$Text;", true)
  | 1 => ("OnlyBatteries", "draft", "LOnlyBatteries$Year;", true)
  | 2 => ("OnlyBatteries", "facts", "LOnlyBatteries$Facts;", true)
  | 3 => ("OnlyBatteries", "walks", "LOnlyBatteries$Walks;", true)
  | 4 => ("OnlyBatteries", "campsites", "LOnlyBatteries$Camps;", true)
  | 5 => ("OnlyBatteries", "crew", "LOnlyBatteries$Takers;", true)
  | 6 => ("OnlyBatteries", "larder", "LOnlyBatteries$Stores;", true)
  | 7 => ("OnlyBatteries", "watches", "LOnlyBatteries$Watches;", true)
  | 8 => ("OnlyBatteries", "images", "[LOnlyBatteries$Book;", true)
  | 9 => ("OnlyBatteries", "kept", "[Z", true)
  | _ => ("OnlyBatteries", "asked", "J", false)
def tyX10 : Nat → FieldType := fun k => match k with
  | 0 => .object "OnlyBatteries$Text"
  | 1 => .object "OnlyBatteries$Year"
  | 2 => .object "OnlyBatteries$Facts"
  | 3 => .object "OnlyBatteries$Walks"
  | 4 => .object "OnlyBatteries$Camps"
  | 5 => .object "OnlyBatteries$Takers"
  | 6 => .object "OnlyBatteries$Stores"
  | 7 => .object "OnlyBatteries$Watches"
  | 8 => .array (.object "OnlyBatteries$Book")
  | 9 => .array .boolean
  | _ => .long
theorem nmX10 : ∀ a, a < 11 → ∀ b, b < 11 → a ≠ b → (TX10 a).2.1 ≠ (TX10 b).2.1 := by decide +kernel
theorem tyX10_ok : ∀ k, k < 11 → parseFieldDescriptor (TX10 k).2.2.1 = some (tyX10 k) := by decide +kernel
def RX11 : String := "OnlyBatteriesModel"
def TX11 : u_T := fun k => match k with
  | 0 => ("OnlyBatteriesModel", "thrown", "I", false)
  | 1 => ("OnlyBatteriesModel", "trace", "J", false)
  | 2 => ("OnlyBatteriesModel", "s", "[I", true)
  | 3 => ("OnlyBatteriesModel", "kept", "[I", true)
  | 4 => ("OnlyBatteriesModel", "isKept", "[Z", true)
  | 5 => ("OnlyBatteriesModel", "text", "[I", true)
  | 6 => ("OnlyBatteriesModel", "typed", "I", false)
  | 7 => ("OnlyBatteriesModel", "next", "I", false)
  | 8 => ("OnlyBatteriesModel", "token", "I", false)
  | 9 => ("OnlyBatteriesModel", "place", "I", false)
  | 10 => ("OnlyBatteriesModel", "value", "I", false)
  | 11 => ("OnlyBatteriesModel", "fault", "I", false)
  | 12 => ("OnlyBatteriesModel", "ground", "[I", true)
  | 13 => ("OnlyBatteriesModel", "cabin", "[I", true)
  | 14 => ("OnlyBatteriesModel", "cabins", "I", false)
  | 15 => ("OnlyBatteriesModel", "draftCabins", "I", false)
  | 16 => ("OnlyBatteriesModel", "home", "[J", true)
  | 17 => ("OnlyBatteriesModel", "dark", "J", false)
  | 18 => ("OnlyBatteriesModel", "draftDark", "J", false)
  | 19 => ("OnlyBatteriesModel", "tunes", "[I", true)
  | 20 => ("OnlyBatteriesModel", "far", "[I", true)
  | 21 => ("OnlyBatteriesModel", "isDone", "[Z", true)
  | 22 => ("OnlyBatteriesModel", "isCamp", "[Z", true)
  | 23 => ("OnlyBatteriesModel", "campTrip", "[I", true)
  | 24 => ("OnlyBatteriesModel", "nights", "[J", true)
  | 25 => ("OnlyBatteriesModel", "unions", "[J", true)
  | 26 => ("OnlyBatteriesModel", "outs", "[I", true)
  | 27 => ("OnlyBatteriesModel", "goes", "J", false)
  | _ => ("OnlyBatteriesModel", "rests", "[J", true)
def tyX11 : Nat → FieldType := fun k => match k with
  | 0 => .int
  | 1 => .long
  | 2 => .array .int
  | 3 => .array .int
  | 4 => .array .boolean
  | 5 => .array .int
  | 6 => .int
  | 7 => .int
  | 8 => .int
  | 9 => .int
  | 10 => .int
  | 11 => .int
  | 12 => .array .int
  | 13 => .array .int
  | 14 => .int
  | 15 => .int
  | 16 => .array .long
  | 17 => .long
  | 18 => .long
  | 19 => .array .int
  | 20 => .array .int
  | 21 => .array .boolean
  | 22 => .array .boolean
  | 23 => .array .int
  | 24 => .array .long
  | 25 => .array .long
  | 26 => .array .int
  | 27 => .long
  | _ => .array .long
theorem nmX11 : ∀ a, a < 29 → ∀ b, b < 29 → a ≠ b → (TX11 a).2.1 ≠ (TX11 b).2.1 := by decide +kernel
theorem tyX11_ok : ∀ k, k < 29 → parseFieldDescriptor (TX11 k).2.2.1 = some (tyX11 k) := by decide +kernel
def RJ6 : String := "java/lang/Integer"
def RJ13 : String := "java/lang/Long"
def RJ9 : String := "java/lang/Math"
def RJ7 : String := "java/util/Arrays"
def RJ0 : String := "java/lang/String"
def RJ1 : String := "java/lang/StringLatin1"
def RJ2 : String := "java/lang/StringUTF16"
def RJ3 : String := "jdk/internal/util/Preconditions"
def RJ10 : String := "java/lang/System"
def RL : String := "OnlyBatteriesLaw"
abbrev cX0_init : ByteArray := prog_2_method_1_code
def yX0_init : MethodName := ⟨RX0, "<init>", "()V"⟩
abbrev cX0_drop : ByteArray := prog_2_method_2_code
def yX0_drop : MethodName := ⟨RX0, "drop", "()V"⟩
abbrev cX0_become : ByteArray := prog_2_method_3_code
def yX0_become : MethodName := ⟨RX0, "become", "(LOnlyBatteries$Book;)V"⟩
abbrev cX0_add : ByteArray := prog_2_method_4_code
def yX0_add : MethodName := ⟨RX0, "add", "(IIIIII)I"⟩
abbrev cX0_at : ByteArray := prog_2_method_5_code
def yX0_at : MethodName := ⟨RX0, "at", "(I)LOnlyBatteries$Theft;"⟩
abbrev cX0_countLists : ByteArray := prog_2_method_6_code
def yX0_countLists : MethodName := ⟨RX0, "countLists", "()I"⟩
abbrev cX1_init : ByteArray := prog_3_method_1_code
def yX1_init : MethodName := ⟨RX1, "<init>", "(LOnlyBatteries$Facts;LOnlyBatteries$Walks;)V"⟩
abbrev cX1_find : ByteArray := prog_3_method_2_code
def yX1_find : MethodName := ⟨RX1, "find", "()V"⟩
abbrev cX1_tripsFrom : ByteArray := prog_3_method_3_code
def yX1_tripsFrom : MethodName := ⟨RX1, "tripsFrom", "(I)I"⟩
abbrev cX1_heaps : ByteArray := prog_3_method_4_code
def yX1_heaps : MethodName := ⟨RX1, "heaps", "()I"⟩
abbrev cX1_heapIn : ByteArray := prog_3_method_5_code
def yX1_heapIn : MethodName := ⟨RX1, "heapIn", "(J)J"⟩
abbrev cX1_isOnShore : ByteArray := prog_3_method_6_code
def yX1_isOnShore : MethodName := ⟨RX1, "isOnShore", "(I)Z"⟩
abbrev cX1_isApart : ByteArray := prog_3_method_7_code
def yX1_isApart : MethodName := ⟨RX1, "isApart", "(I)Z"⟩
abbrev cX2_init : ByteArray := prog_4_method_1_code
def yX2_init : MethodName := ⟨RX2, "<init>", "()V"⟩
abbrev cX2_tuneOf : ByteArray := prog_4_method_2_code
def yX2_tuneOf : MethodName := ⟨RX2, "tuneOf", "(I)I"⟩
abbrev cX2_setTune : ByteArray := prog_4_method_3_code
def yX2_setTune : MethodName := ⟨RX2, "setTune", "(II)I"⟩
abbrev cX2_isHis : ByteArray := prog_4_method_4_code
def yX2_isHis : MethodName := ⟨RX2, "isHis", "(LOnlyBatteries$Theft;)Z"⟩
abbrev cX2_countHis : ByteArray := prog_4_method_5_code
def yX2_countHis : MethodName := ⟨RX2, "countHis", "()I"⟩
abbrev cX2_nightsOf : ByteArray := prog_4_method_6_code
def yX2_nightsOf : MethodName := ⟨RX2, "nightsOf", "(LOnlyBatteries$Theft;)J"⟩
abbrev cX2_lossOf : ByteArray := prog_4_method_7_code
def yX2_lossOf : MethodName := ⟨RX2, "lossOf", "(I)I"⟩
abbrev cX2_shareOf : ByteArray := prog_4_method_8_code
def yX2_shareOf : MethodName := ⟨RX2, "shareOf", "(II)I"⟩
abbrev cX3_init : ByteArray := prog_5_method_1_code
def yX3_init : MethodName := ⟨RX3, "<init>", "(LOnlyBatteries$Facts;LOnlyBatteries$Walks;)V"⟩
abbrev cX3_fewest : ByteArray := prog_5_method_2_code
def yX3_fewest : MethodName := ⟨RX3, "fewest", "(IIII)I"⟩
abbrev cX3_outing : ByteArray := prog_5_method_3_code
def yX3_outing : MethodName := ⟨RX3, "outing", "(IIII)I"⟩
abbrev cX3_need : ByteArray := prog_5_method_4_code
def yX3_need : MethodName := ⟨RX3, "need", "(II)I"⟩
abbrev cX3_filled : ByteArray := prog_5_method_5_code
def yX3_filled : MethodName := ⟨RX3, "filled", "(I)I"⟩
abbrev cX3_openNights : ByteArray := prog_5_method_6_code
def yX3_openNights : MethodName := ⟨RX3, "openNights", "(I)J"⟩
abbrev cX3_get : ByteArray := prog_5_method_7_code
def yX3_get : MethodName := ⟨RX3, "get", "(II)I"⟩
abbrev cX3_put : ByteArray := prog_5_method_8_code
def yX3_put : MethodName := ⟨RX3, "put", "(III)V"⟩
abbrev cX4_init : ByteArray := prog_6_method_1_code
def yX4_init : MethodName := ⟨RX4, "<init>", "(LOnlyBatteries$Facts;)V"⟩
abbrev cX4_fewest : ByteArray := prog_6_method_2_code
def yX4_fewest : MethodName := ⟨RX4, "fewest", "()I"⟩
abbrev cX4_nightOfOne : ByteArray := prog_6_method_3_code
def yX4_nightOfOne : MethodName := ⟨RX4, "nightOfOne", "(I)I"⟩
abbrev cX4_choose : ByteArray := prog_6_method_4_code
def yX4_choose : MethodName := ⟨RX4, "choose", "()V"⟩
abbrev cX4_narrow : ByteArray := prog_6_method_5_code
def yX4_narrow : MethodName := ⟨RX4, "narrow", "(I)V"⟩
abbrev cX4_isEnough : ByteArray := prog_6_method_6_code
def yX4_isEnough : MethodName := ⟨RX4, "isEnough", "(I)Z"⟩
abbrev cX4_isPlaced : ByteArray := prog_6_method_7_code
def yX4_isPlaced : MethodName := ⟨RX4, "isPlaced", "(II)Z"⟩
abbrev cX4_queueThoseOf : ByteArray := prog_6_method_8_code
def yX4_queueThoseOf : MethodName := ⟨RX4, "queueThoseOf", "(II)I"⟩
abbrev cX4_move : ByteArray := prog_6_method_9_code
def yX4_move : MethodName := ⟨RX4, "move", "(I)V"⟩
abbrev cX5_init : ByteArray := prog_7_method_1_code
def yX5_init : MethodName := ⟨RX5, "<init>", "()V"⟩
abbrev cX5_add : ByteArray := prog_7_method_2_code
def yX5_add : MethodName := ⟨RX5, "add", "(JI)I"⟩
abbrev cX5_drop : ByteArray := prog_7_method_3_code
def yX5_drop : MethodName := ⟨RX5, "drop", "()I"⟩
abbrev cX5_read : ByteArray := prog_7_method_4_code
def yX5_read : MethodName := ⟨RX5, "read", "(LOnlyBatteries$Year;)I"⟩
abbrev cX5_readItem : ByteArray := prog_7_method_5_code
def yX5_readItem : MethodName := ⟨RX5, "readItem", "(LOnlyBatteries$Year;)Z"⟩
abbrev cX5_readWord : ByteArray := prog_7_method_6_code
def yX5_readWord : MethodName := ⟨RX5, "readWord", "()I"⟩
abbrev cX5_numbersOf : ByteArray := prog_7_method_7_code
def yX5_numbersOf : MethodName := ⟨RX5, "numbersOf", "(I)I"⟩
abbrev cX5_canStand : ByteArray := prog_7_method_8_code
def yX5_canStand : MethodName := ⟨RX5, "canStand", "(LOnlyBatteries$Year;II)Z"⟩
abbrev cX5_canBeDay : ByteArray := prog_7_method_9_code
def yX5_canBeDay : MethodName := ⟨RX5, "canBeDay", "(I)Z"⟩
abbrev cX5_tell : ByteArray := prog_7_method_10_code
def yX5_tell : MethodName := ⟨RX5, "tell", "(LOnlyBatteries$Year;I)V"⟩
abbrev cX5_step : ByteArray := prog_7_method_11_code
def yX5_step : MethodName := ⟨RX5, "step", "()I"⟩
abbrev cX5_readLetters : ByteArray := prog_7_method_12_code
def yX5_readLetters : MethodName := ⟨RX5, "readLetters", "()I"⟩
abbrev cX5_readDigits : ByteArray := prog_7_method_13_code
def yX5_readDigits : MethodName := ⟨RX5, "readDigits", "()I"⟩
abbrev cX5_isWord : ByteArray := prog_7_method_14_code
def yX5_isWord : MethodName := ⟨RX5, "isWord", "(Ljava/lang/String;)Z"⟩
abbrev cX5_at : ByteArray := prog_7_method_15_code
def yX5_at : MethodName := ⟨RX5, "at", "(I)I"⟩
abbrev cX5_isLetter : ByteArray := prog_7_method_16_code
def yX5_isLetter : MethodName := ⟨RX5, "isLetter", "(I)Z"⟩
abbrev cX5_isDigit : ByteArray := prog_7_method_17_code
def yX5_isDigit : MethodName := ⟨RX5, "isDigit", "(I)Z"⟩
abbrev cX6_init : ByteArray := prog_8_method_1_code
def yX6_init : MethodName := ⟨RX6, "<init>", "()V"⟩
abbrev cX6_become : ByteArray := prog_8_method_2_code
def yX6_become : MethodName := ⟨RX6, "become", "(LOnlyBatteries$Theft;)V"⟩
abbrev cX6_marks : ByteArray := prog_8_method_3_code
def yX6_marks : MethodName := ⟨RX6, "marks", "()I"⟩
abbrev cX6_addList : ByteArray := prog_8_method_4_code
def yX6_addList : MethodName := ⟨RX6, "addList", "(I)I"⟩
abbrev cX6_firstList : ByteArray := prog_8_method_5_code
def yX6_firstList : MethodName := ⟨RX6, "firstList", "()I"⟩
abbrev cX6_growth : ByteArray := prog_8_method_6_code
def yX6_growth : MethodName := ⟨RX6, "growth", "()I"⟩
abbrev cX7_init : ByteArray := prog_9_method_1_code
def yX7_init : MethodName := ⟨RX7, "<init>", "(LOnlyBatteries$Year;)V"⟩
abbrev cX7_forget : ByteArray := prog_9_method_2_code
def yX7_forget : MethodName := ⟨RX7, "forget", "()V"⟩
abbrev cX7_way : ByteArray := prog_9_method_3_code
def yX7_way : MethodName := ⟨RX7, "way", "(II)I"⟩
abbrev cX7_outing : ByteArray := prog_9_method_4_code
def yX7_outing : MethodName := ⟨RX7, "outing", "(III)I"⟩
abbrev cX7_measure : ByteArray := prog_9_method_5_code
def yX7_measure : MethodName := ⟨RX7, "measure", "(I)V"⟩
abbrev cX7_note : ByteArray := prog_9_method_6_code
def yX7_note : MethodName := ⟨RX7, "note", "(IJI)V"⟩
abbrev cX8_init : ByteArray := prog_10_method_1_code
def yX8_init : MethodName := ⟨RX8, "<init>", "(LOnlyBatteries$Facts;)V"⟩
abbrev cX8_worthOf : ByteArray := prog_10_method_2_code
def yX8_worthOf : MethodName := ⟨RX8, "worthOf", "(IJ)I"⟩
abbrev cX8_find : ByteArray := prog_10_method_3_code
def yX8_find : MethodName := ⟨RX8, "find", "(II)V"⟩
abbrev cX8_measure : ByteArray := prog_10_method_4_code
def yX8_measure : MethodName := ⟨RX8, "measure", "(I)V"⟩
abbrev cX8_worthOfSet : ByteArray := prog_10_method_5_code
def yX8_worthOfSet : MethodName := ⟨RX8, "worthOfSet", "(II)I"⟩
abbrev cX9_init : ByteArray := prog_11_method_1_code
def yX9_init : MethodName := ⟨RX9, "<init>", "()V"⟩
abbrev cX9_reset : ByteArray := prog_11_method_2_code
def yX9_reset : MethodName := ⟨RX9, "reset", "()V"⟩
abbrev cX9_become : ByteArray := prog_11_method_3_code
def yX9_become : MethodName := ⟨RX9, "become", "(LOnlyBatteries$Year;)V"⟩
abbrev cX9_setGround : ByteArray := prog_11_method_4_code
def yX9_setGround : MethodName := ⟨RX9, "setGround", "(II)V"⟩
abbrev cX9_addCabin : ByteArray := prog_11_method_5_code
def yX9_addCabin : MethodName := ⟨RX9, "addCabin", "(I)V"⟩
abbrev cX9_addHome : ByteArray := prog_11_method_6_code
def yX9_addHome : MethodName := ⟨RX9, "addHome", "(IJ)V"⟩
abbrev cX9_hasCabin : ByteArray := prog_11_method_7_code
def yX9_hasCabin : MethodName := ⟨RX9, "hasCabin", "(I)Z"⟩
abbrev cX9_isCabin : ByteArray := prog_11_method_8_code
def yX9_isCabin : MethodName := ⟨RX9, "isCabin", "(I)Z"⟩
abbrev cX9_cellOf : ByteArray := prog_11_method_9_code
def yX9_cellOf : MethodName := ⟨RX9, "cellOf", "(I)I"⟩
abbrev cX9_freeNights : ByteArray := prog_11_method_10_code
def yX9_freeNights : MethodName := ⟨RX9, "freeNights", "(I)J"⟩
abbrev cX9_cellsOf : ByteArray := prog_11_method_11_code
def yX9_cellsOf : MethodName := ⟨RX9, "cellsOf", "(I)J"⟩
abbrev cX9_groundAt : ByteArray := prog_11_method_12_code
def yX9_groundAt : MethodName := ⟨RX9, "groundAt", "(I)I"⟩
abbrev cX10_init : ByteArray := prog_1_method_1_code
def yX10_init : MethodName := ⟨RX10, "<init>", "()V"⟩
abbrev cX10_type : ByteArray := prog_1_method_2_code
def yX10_type : MethodName := ⟨RX10, "type", "(JI)I"⟩
abbrev cX10_clear : ByteArray := prog_1_method_3_code
def yX10_clear : MethodName := ⟨RX10, "clear", "()I"⟩
abbrev cX10_year : ByteArray := prog_1_method_4_code
def yX10_year : MethodName := ⟨RX10, "year", "()I"⟩
abbrev cX10_ground : ByteArray := prog_1_method_5_code
def yX10_ground : MethodName := ⟨RX10, "ground", "(I)I"⟩
abbrev cX10_cabin : ByteArray := prog_1_method_6_code
def yX10_cabin : MethodName := ⟨RX10, "cabin", "(I)I"⟩
abbrev cX10_free : ByteArray := prog_1_method_7_code
def yX10_free : MethodName := ⟨RX10, "free", "(II)I"⟩
abbrev cX10_tune : ByteArray := prog_1_method_8_code
def yX10_tune : MethodName := ⟨RX10, "tune", "(II)I"⟩
abbrev cX10_theft : ByteArray := prog_1_method_9_code
def yX10_theft : MethodName := ⟨RX10, "theft", "(IIIIII)I"⟩
abbrev cX10_about : ByteArray := prog_1_method_10_code
def yX10_about : MethodName := ⟨RX10, "about", "(II)I"⟩
abbrev cX10_could : ByteArray := prog_1_method_11_code
def yX10_could : MethodName := ⟨RX10, "could", "(II)I"⟩
abbrev cX10_walk : ByteArray := prog_1_method_12_code
def yX10_walk : MethodName := ⟨RX10, "walk", "(II)I"⟩
abbrev cX10_trip : ByteArray := prog_1_method_13_code
def yX10_trip : MethodName := ⟨RX10, "trip", "(III)I"⟩
abbrev cX10_camp : ByteArray := prog_1_method_14_code
def yX10_camp : MethodName := ⟨RX10, "camp", "(I)I"⟩
abbrev cX10_camps : ByteArray := prog_1_method_15_code
def yX10_camps : MethodName := ⟨RX10, "camps", "(I)I"⟩
abbrev cX10_takers : ByteArray := prog_1_method_16_code
def yX10_takers : MethodName := ⟨RX10, "takers", "()I"⟩
abbrev cX10_alone : ByteArray := prog_1_method_17_code
def yX10_alone : MethodName := ⟨RX10, "alone", "(I)I"⟩
abbrev cX10_stores : ByteArray := prog_1_method_18_code
def yX10_stores : MethodName := ⟨RX10, "stores", "(IIIII)I"⟩
abbrev cX10_starves : ByteArray := prog_1_method_19_code
def yX10_starves : MethodName := ⟨RX10, "starves", "(III)I"⟩
abbrev cX10_isStay : ByteArray := prog_1_method_20_code
def yX10_isStay : MethodName := ⟨RX10, "isStay", "(III)Z"⟩
abbrev cX10_watch : ByteArray := prog_1_method_21_code
def yX10_watch : MethodName := ⟨RX10, "watch", "(III)I"⟩
abbrev cX10_place : ByteArray := prog_1_method_22_code
def yX10_place : MethodName := ⟨RX10, "place", "(III)I"⟩
abbrev cX10_list : ByteArray := prog_1_method_23_code
def yX10_list : MethodName := ⟨RX10, "list", "(II)I"⟩
abbrev cX10_grew : ByteArray := prog_1_method_24_code
def yX10_grew : MethodName := ⟨RX10, "grew", "(I)I"⟩
abbrev cX10_most : ByteArray := prog_1_method_25_code
def yX10_most : MethodName := ⟨RX10, "most", "()I"⟩
abbrev cX10_loss : ByteArray := prog_1_method_26_code
def yX10_loss : MethodName := ⟨RX10, "loss", "(I)I"⟩
abbrev cX10_amends : ByteArray := prog_1_method_27_code
def yX10_amends : MethodName := ⟨RX10, "amends", "(II)I"⟩
abbrev cX10_weigh : ByteArray := prog_1_method_28_code
def yX10_weigh : MethodName := ⟨RX10, "weigh", "(II)I"⟩
abbrev cX10_keep : ByteArray := prog_1_method_29_code
def yX10_keep : MethodName := ⟨RX10, "keep", "(I)I"⟩
abbrev cX10_back : ByteArray := prog_1_method_30_code
def yX10_back : MethodName := ⟨RX10, "back", "(I)I"⟩
abbrev cX10_count : ByteArray := prog_1_method_31_code
def yX10_count : MethodName := ⟨RX10, "count", "(I)I"⟩
abbrev cX10_trace : ByteArray := prog_1_method_32_code
def yX10_trace : MethodName := ⟨RX10, "trace", "()J"⟩
abbrev cX10_asTheft : ByteArray := prog_1_method_33_code
def yX10_asTheft : MethodName := ⟨RX10, "asTheft", "(LOnlyBatteries$Theft;)I"⟩
abbrev cX10_asHis : ByteArray := prog_1_method_34_code
def yX10_asHis : MethodName := ⟨RX10, "asHis", "(LOnlyBatteries$Theft;)I"⟩
abbrev cX10_asTheirs : ByteArray := prog_1_method_35_code
def yX10_asTheirs : MethodName := ⟨RX10, "asTheirs", "(LOnlyBatteries$Theft;)I"⟩
abbrev cX10_asFood : ByteArray := prog_1_method_36_code
def yX10_asFood : MethodName := ⟨RX10, "asFood", "(LOnlyBatteries$Theft;)I"⟩
abbrev cX10_asLight : ByteArray := prog_1_method_37_code
def yX10_asLight : MethodName := ⟨RX10, "asLight", "(LOnlyBatteries$Theft;)I"⟩
abbrev cX10_asLost : ByteArray := prog_1_method_38_code
def yX10_asLost : MethodName := ⟨RX10, "asLost", "(LOnlyBatteries$Theft;)I"⟩
abbrev cX10_isIn : ByteArray := prog_1_method_39_code
def yX10_isIn : MethodName := ⟨RX10, "isIn", "(III)Z"⟩
abbrev cX10_isCell : ByteArray := prog_1_method_40_code
def yX10_isCell : MethodName := ⟨RX10, "isCell", "(I)Z"⟩
abbrev cX10_areNights : ByteArray := prog_1_method_41_code
def yX10_areNights : MethodName := ⟨RX10, "areNights", "(II)Z"⟩
abbrev cX10_hasBit : ByteArray := prog_1_method_42_code
def yX10_hasBit : MethodName := ⟨RX10, "hasBit", "(JI)Z"⟩
abbrev cX10_span : ByteArray := prog_1_method_43_code
def yX10_span : MethodName := ⟨RX10, "span", "(II)J"⟩
abbrev cX10_firstOf : ByteArray := prog_1_method_44_code
def yX10_firstOf : MethodName := ⟨RX10, "firstOf", "(J)I"⟩
abbrev cX10_lastOf : ByteArray := prog_1_method_45_code
def yX10_lastOf : MethodName := ⟨RX10, "lastOf", "(J)I"⟩
abbrev cX10_aside : ByteArray := prog_1_method_46_code
def yX10_aside : MethodName := ⟨RX10, "aside", "(J)J"⟩
abbrev cX11_init : ByteArray := prog_13_method_1_code
def yX11_init : MethodName := ⟨RX11, "<init>", "()V"⟩
abbrev cX11_in : ByteArray := prog_13_method_3_code
def yX11_in : MethodName := ⟨RX11, "in", "(III)Z"⟩
abbrev cX11_isCell : ByteArray := prog_13_method_4_code
def yX11_isCell : MethodName := ⟨RX11, "isCell", "(I)Z"⟩
abbrev cX11_isCabin : ByteArray := prog_13_method_5_code
def yX11_isCabin : MethodName := ⟨RX11, "isCabin", "(I)Z"⟩
abbrev cX11_ones : ByteArray := prog_13_method_6_code
def yX11_ones : MethodName := ⟨RX11, "ones", "(J)I"⟩
abbrev cX11_days : ByteArray := prog_13_method_7_code
def yX11_days : MethodName := ⟨RX11, "days", "(II)J"⟩
abbrev cX11_type : ByteArray := prog_13_method_8_code
def yX11_type : MethodName := ⟨RX11, "type", "(JI)I"⟩
abbrev cX11_clear : ByteArray := prog_13_method_9_code
def yX11_clear : MethodName := ⟨RX11, "clear", "()I"⟩
abbrev cX11_byteAt : ByteArray := prog_13_method_10_code
def yX11_byteAt : MethodName := ⟨RX11, "byteAt", "(I)I"⟩
abbrev cX11_word : ByteArray := prog_13_method_11_code
def yX11_word : MethodName := ⟨RX11, "word", "(IIIII)J"⟩
abbrev cX11_wordOf : ByteArray := prog_13_method_12_code
def yX11_wordOf : MethodName := ⟨RX11, "wordOf", "(J)I"⟩
abbrev cX11_advances : ByteArray := prog_13_method_13_code
def yX11_advances : MethodName := ⟨RX11, "advances", "()V"⟩
abbrev cX11_isWell : ByteArray := prog_13_method_14_code
def yX11_isWell : MethodName := ⟨RX11, "isWell", "()Z"⟩
abbrev cX11_takes : ByteArray := prog_13_method_15_code
def yX11_takes : MethodName := ⟨RX11, "takes", "(Z)I"⟩
abbrev cX11_number : ByteArray := prog_13_method_16_code
def yX11_number : MethodName := ⟨RX11, "number", "(II)I"⟩
abbrev cX11_isDraftCabin : ByteArray := prog_13_method_17_code
def yX11_isDraftCabin : MethodName := ⟨RX11, "isDraftCabin", "(I)Z"⟩
abbrev cX11_readsGround : ByteArray := prog_13_method_18_code
def yX11_readsGround : MethodName := ⟨RX11, "readsGround", "(I)V"⟩
abbrev cX11_readsCabin : ByteArray := prog_13_method_19_code
def yX11_readsCabin : MethodName := ⟨RX11, "readsCabin", "()V"⟩
abbrev cX11_readsDays : ByteArray := prog_13_method_20_code
def yX11_readsDays : MethodName := ⟨RX11, "readsDays", "(I)V"⟩
abbrev cX11_year : ByteArray := prog_13_method_21_code
def yX11_year : MethodName := ⟨RX11, "year", "()I"⟩
abbrev cX11_ground : ByteArray := prog_13_method_22_code
def yX11_ground : MethodName := ⟨RX11, "ground", "(I)I"⟩
abbrev cX11_cabin : ByteArray := prog_13_method_23_code
def yX11_cabin : MethodName := ⟨RX11, "cabin", "(I)I"⟩
abbrev cX11_freeNights : ByteArray := prog_13_method_24_code
def yX11_freeNights : MethodName := ⟨RX11, "freeNights", "(I)J"⟩
abbrev cX11_free : ByteArray := prog_13_method_25_code
def yX11_free : MethodName := ⟨RX11, "free", "(II)I"⟩
abbrev cX11_tune : ByteArray := prog_13_method_26_code
def yX11_tune : MethodName := ⟨RX11, "tune", "(II)I"⟩
abbrev cX11_isTheft : ByteArray := prog_13_method_27_code
def yX11_isTheft : MethodName := ⟨RX11, "isTheft", "(I)Z"⟩
abbrev cX11_of : ByteArray := prog_13_method_28_code
def yX11_of : MethodName := ⟨RX11, "of", "(II)I"⟩
abbrev cX11_theft : ByteArray := prog_13_method_29_code
def yX11_theft : MethodName := ⟨RX11, "theft", "(IIIIII)I"⟩
abbrev cX11_marks : ByteArray := prog_13_method_30_code
def yX11_marks : MethodName := ⟨RX11, "marks", "(I)I"⟩
abbrev cX11_isHis : ByteArray := prog_13_method_31_code
def yX11_isHis : MethodName := ⟨RX11, "isHis", "(I)Z"⟩
abbrev cX11_about : ByteArray := prog_13_method_32_code
def yX11_about : MethodName := ⟨RX11, "about", "(II)I"⟩
abbrev cX11_couldBe : ByteArray := prog_13_method_33_code
def yX11_couldBe : MethodName := ⟨RX11, "couldBe", "(I)J"⟩
abbrev cX11_firstOf : ByteArray := prog_13_method_34_code
def yX11_firstOf : MethodName := ⟨RX11, "firstOf", "(J)I"⟩
abbrev cX11_lastOf : ByteArray := prog_13_method_35_code
def yX11_lastOf : MethodName := ⟨RX11, "lastOf", "(J)I"⟩
abbrev cX11_could : ByteArray := prog_13_method_36_code
def yX11_could : MethodName := ⟨RX11, "could", "(II)I"⟩
abbrev cX11_isLake : ByteArray := prog_13_method_37_code
def yX11_isLake : MethodName := ⟨RX11, "isLake", "(I)Z"⟩
abbrev cX11_beside : ByteArray := prog_13_method_38_code
def yX11_beside : MethodName := ⟨RX11, "beside", "(II)I"⟩
abbrev cX11_walks : ByteArray := prog_13_method_39_code
def yX11_walks : MethodName := ⟨RX11, "walks", "(I)V"⟩
abbrev cX11_walk : ByteArray := prog_13_method_40_code
def yX11_walk : MethodName := ⟨RX11, "walk", "(II)I"⟩
abbrev cX11_tripOf : ByteArray := prog_13_method_41_code
def yX11_tripOf : MethodName := ⟨RX11, "tripOf", "(III)I"⟩
abbrev cX11_trip : ByteArray := prog_13_method_42_code
def yX11_trip : MethodName := ⟨RX11, "trip", "(III)I"⟩
abbrev cX11_campBy : ByteArray := prog_13_method_43_code
def yX11_campBy : MethodName := ⟨RX11, "campBy", "(I)I"⟩
abbrev cX11_camp : ByteArray := prog_13_method_44_code
def yX11_camp : MethodName := ⟨RX11, "camp", "(I)I"⟩
abbrev cX11_camps : ByteArray := prog_13_method_45_code
def yX11_camps : MethodName := ⟨RX11, "camps", "(I)I"⟩
abbrev cX11_heaps : ByteArray := prog_13_method_46_code
def yX11_heaps : MethodName := ⟨RX11, "heaps", "()I"⟩
abbrev cX11_laysNights : ByteArray := prog_13_method_47_code
def yX11_laysNights : MethodName := ⟨RX11, "laysNights", "(J)V"⟩
abbrev cX11_wanted : ByteArray := prog_13_method_48_code
def yX11_wanted : MethodName := ⟨RX11, "wanted", "(IZ)I"⟩
abbrev cX11_takers : ByteArray := prog_13_method_49_code
def yX11_takers : MethodName := ⟨RX11, "takers", "()I"⟩
abbrev cX11_alone : ByteArray := prog_13_method_50_code
def yX11_alone : MethodName := ⟨RX11, "alone", "(I)I"⟩
abbrev cX11_laysOuts : ByteArray := prog_13_method_51_code
def yX11_laysOuts : MethodName := ⟨RX11, "laysOuts", "(II)V"⟩
abbrev cX11_fetched : ByteArray := prog_13_method_52_code
def yX11_fetched : MethodName := ⟨RX11, "fetched", "(I)I"⟩
abbrev cX11_areDays : ByteArray := prog_13_method_53_code
def yX11_areDays : MethodName := ⟨RX11, "areDays", "(II)Z"⟩
abbrev cX11_stores : ByteArray := prog_13_method_54_code
def yX11_stores : MethodName := ⟨RX11, "stores", "(IIIII)I"⟩
abbrev cX11_starves : ByteArray := prog_13_method_55_code
def yX11_starves : MethodName := ⟨RX11, "starves", "(III)I"⟩
abbrev cX11_watchOf : ByteArray := prog_13_method_56_code
def yX11_watchOf : MethodName := ⟨RX11, "watchOf", "(III)I"⟩
abbrev cX11_watch : ByteArray := prog_13_method_57_code
def yX11_watch : MethodName := ⟨RX11, "watch", "(III)I"⟩
abbrev cX11_place : ByteArray := prog_13_method_58_code
def yX11_place : MethodName := ⟨RX11, "place", "(III)I"⟩
abbrev cX11_list : ByteArray := prog_13_method_59_code
def yX11_list : MethodName := ⟨RX11, "list", "(II)I"⟩
abbrev cX11_grewBy : ByteArray := prog_13_method_60_code
def yX11_grewBy : MethodName := ⟨RX11, "grewBy", "(I)I"⟩
abbrev cX11_grew : ByteArray := prog_13_method_61_code
def yX11_grew : MethodName := ⟨RX11, "grew", "(I)I"⟩
abbrev cX11_most : ByteArray := prog_13_method_62_code
def yX11_most : MethodName := ⟨RX11, "most", "()I"⟩
abbrev cX11_lossOf : ByteArray := prog_13_method_63_code
def yX11_lossOf : MethodName := ⟨RX11, "lossOf", "(I)I"⟩
abbrev cX11_loss : ByteArray := prog_13_method_64_code
def yX11_loss : MethodName := ⟨RX11, "loss", "(I)I"⟩
abbrev cX11_amends : ByteArray := prog_13_method_65_code
def yX11_amends : MethodName := ⟨RX11, "amends", "(II)I"⟩
abbrev cX11_weigh : ByteArray := prog_13_method_66_code
def yX11_weigh : MethodName := ⟨RX11, "weigh", "(II)I"⟩
abbrev cX11_keep : ByteArray := prog_13_method_67_code
def yX11_keep : MethodName := ⟨RX11, "keep", "(I)I"⟩
abbrev cX11_back : ByteArray := prog_13_method_68_code
def yX11_back : MethodName := ⟨RX11, "back", "(I)I"⟩
abbrev cX11_count : ByteArray := prog_13_method_69_code
def yX11_count : MethodName := ⟨RX11, "count", "(I)I"⟩
abbrev cX11_trace : ByteArray := prog_13_method_70_code
def yX11_trace : MethodName := ⟨RX11, "trace", "()J"⟩
abbrev cJ6_bitCount_0f7a4 : ByteArray := prog_15_method_49_code
def yJ6_bitCount_0f7a4 : MethodName := ⟨RJ6, "bitCount", "(I)I"⟩
abbrev cJ13_bitCount_95d88 : ByteArray := prog_16_method_50_code
def yJ13_bitCount_95d88 : MethodName := ⟨RJ13, "bitCount", "(J)I"⟩
abbrev cJ9_max_7cf53 : ByteArray := prog_17_method_65_code
def yJ9_max_7cf53 : MethodName := ⟨RJ9, "max", "(II)I"⟩
abbrev cJ9_min_7cf53 : ByteArray := prog_17_method_69_code
def yJ9_min_7cf53 : MethodName := ⟨RJ9, "min", "(II)I"⟩
abbrev cJ0_length_8abf5 : ByteArray := prog_18_method_54_code
def yJ0_length_8abf5 : MethodName := ⟨RJ0, "length", "()I"⟩
abbrev cJ0_charAt_5068e : ByteArray := prog_18_method_56_code
def yJ0_charAt_5068e : MethodName := ⟨RJ0, "charAt", "(I)C"⟩
abbrev cJ0_coder_7d493 : ByteArray := prog_18_method_152_code
def yJ0_coder_7d493 : MethodName := ⟨RJ0, "coder", "()B"⟩
abbrev cJ0_isLatin1_aae02 : ByteArray := prog_18_method_154_code
def yJ0_isLatin1_aae02 : MethodName := ⟨RJ0, "isLatin1", "()Z"⟩
abbrev cJ0_checkIndex_df160 : ByteArray := prog_18_method_155_code
def yJ0_checkIndex_df160 : MethodName := ⟨RJ0, "checkIndex", "(II)V"⟩
abbrev cJ1_charAt_3b067 : ByteArray := prog_19_method_2_code
def yJ1_charAt_3b067 : MethodName := ⟨RJ1, "charAt", "([BI)C"⟩
abbrev cJ2_getChar_3b067 : ByteArray := prog_20_method_5_code
def yJ2_getChar_3b067 : MethodName := ⟨RJ2, "getChar", "([BI)C"⟩
abbrev cJ2_length_9d52b : ByteArray := prog_20_method_6_code
def yJ2_length_9d52b : MethodName := ⟨RJ2, "length", "([B)I"⟩
abbrev cJ2_charAt_3b067 : ByteArray := prog_20_method_83_code
def yJ2_charAt_3b067 : MethodName := ⟨RJ2, "charAt", "([BI)C"⟩
abbrev cJ2_checkIndex_2214a : ByteArray := prog_20_method_91_code
def yJ2_checkIndex_2214a : MethodName := ⟨RJ2, "checkIndex", "(I[B)V"⟩
abbrev cJ7_fill_d0a16 : ByteArray := prog_22_method_101_code
def yJ7_fill_d0a16 : MethodName := ⟨RJ7, "fill", "([JJ)V"⟩
abbrev cJ7_fill_53178 : ByteArray := prog_22_method_103_code
def yJ7_fill_53178 : MethodName := ⟨RJ7, "fill", "([II)V"⟩
abbrev cJ3_checkIndex_8e157 : ByteArray := prog_23_method_11_code
def yJ3_checkIndex_8e157 : MethodName := ⟨RJ3, "checkIndex", "(IILjava/util/function/BiFunction;)I"⟩
abbrev cL_law : ByteArray := code
def yL_law : MethodName := ⟨RL, "law", "([I)Z"⟩
def clsL : List vw_C := [(RX0, TX0, 2), (RX1, TX1, 5), (RX2, TX2, 3), (RX3, TX3, 4), (RX4, TX4, 5), (RX5, TX5, 7), (RX6, TX6, 8), (RX7, TX7, 3), (RX8, TX8, 5), (RX9, TX9, 5), (RX10, TX10, 11), (RX11, TX11, 29)]
