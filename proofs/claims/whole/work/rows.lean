section
-- ===== PART A: goes FIRST, ahead of the names: the tables' words, and 'selects' of the private methods out of them =====
/-- a private method of a class that the tables say can be made, by its rows of tables_1 -/
def lw_okq (q : MethodName × Nat) : Prop := (q.1.cls ≠ "java/lang/invoke/MethodHandle" ∧ q.1.cls ≠ "java/lang/invoke/VarHandle") ∧ Cond.instantiable q.1.cls q.2 ∈ tables_1 ∧ Cond.privateMethod q.1 ∈ tables_1 ∧ Cond.instanceMethod q.1 ∈ tables_1
theorem lw_p0 : lw_okq (⟨"HueLease$Tape", "readToken", "()Z"⟩, 11) := ⟨⟨by decide +kernel, by decide +kernel⟩, List.mem_of_getElem? (i := 88) (by decide +kernel), List.mem_of_getElem? (i := 295) (by decide +kernel), List.mem_of_getElem? (i := 296) (by decide +kernel)⟩
theorem lw_p1 : lw_okq (⟨"HueLease$Tape", "behind", "(II)I"⟩, 11) := ⟨⟨by decide +kernel, by decide +kernel⟩, List.mem_of_getElem? (i := 88) (by decide +kernel), List.mem_of_getElem? (i := 300) (by decide +kernel), List.mem_of_getElem? (i := 301) (by decide +kernel)⟩
theorem lw_p2 : lw_okq (⟨"HueLease$Tape", "refuse", "(II)Z"⟩, 11) := ⟨⟨by decide +kernel, by decide +kernel⟩, List.mem_of_getElem? (i := 88) (by decide +kernel), List.mem_of_getElem? (i := 304) (by decide +kernel), List.mem_of_getElem? (i := 305) (by decide +kernel)⟩
theorem lw_p3 : lw_okq (⟨"HueLease$Tape", "readLine", "()Z"⟩, 11) := ⟨⟨by decide +kernel, by decide +kernel⟩, List.mem_of_getElem? (i := 88) (by decide +kernel), List.mem_of_getElem? (i := 308) (by decide +kernel), List.mem_of_getElem? (i := 309) (by decide +kernel)⟩
theorem lw_p4 : lw_okq (⟨"HueLease$Tape", "lineOfName", "()I"⟩, 11) := ⟨⟨by decide +kernel, by decide +kernel⟩, List.mem_of_getElem? (i := 88) (by decide +kernel), List.mem_of_getElem? (i := 312) (by decide +kernel), List.mem_of_getElem? (i := 313) (by decide +kernel)⟩
theorem lw_p5 : lw_okq (⟨"HueLease$Tape", "isName", "(Ljava/lang/String;)Z"⟩, 11) := ⟨⟨by decide +kernel, by decide +kernel⟩, List.mem_of_getElem? (i := 88) (by decide +kernel), List.mem_of_getElem? (i := 317) (by decide +kernel), List.mem_of_getElem? (i := 318) (by decide +kernel)⟩
theorem lw_p6 : lw_okq (⟨"HueLease$Tape", "readLent", "()Z"⟩, 11) := ⟨⟨by decide +kernel, by decide +kernel⟩, List.mem_of_getElem? (i := 88) (by decide +kernel), List.mem_of_getElem? (i := 374) (by decide +kernel), List.mem_of_getElem? (i := 375) (by decide +kernel)⟩
theorem lw_p7 : lw_okq (⟨"HueLease$Tape", "readNumber", "(I)Z"⟩, 11) := ⟨⟨by decide +kernel, by decide +kernel⟩, List.mem_of_getElem? (i := 88) (by decide +kernel), List.mem_of_getElem? (i := 378) (by decide +kernel), List.mem_of_getElem? (i := 379) (by decide +kernel)⟩
theorem lw_p8 : lw_okq (⟨"HueLease$Tape", "readStop", "()Z"⟩, 11) := ⟨⟨by decide +kernel, by decide +kernel⟩, List.mem_of_getElem? (i := 88) (by decide +kernel), List.mem_of_getElem? (i := 385) (by decide +kernel), List.mem_of_getElem? (i := 386) (by decide +kernel)⟩
theorem lw_p9 : lw_okq (⟨"HueLease$Tape", "readOne", "()Z"⟩, 11) := ⟨⟨by decide +kernel, by decide +kernel⟩, List.mem_of_getElem? (i := 88) (by decide +kernel), List.mem_of_getElem? (i := 389) (by decide +kernel), List.mem_of_getElem? (i := 390) (by decide +kernel)⟩
theorem lw_p10 : lw_okq (⟨"HueLease$Tape", "readColour", "(I)Z"⟩, 11) := ⟨⟨by decide +kernel, by decide +kernel⟩, List.mem_of_getElem? (i := 88) (by decide +kernel), List.mem_of_getElem? (i := 393) (by decide +kernel), List.mem_of_getElem? (i := 394) (by decide +kernel)⟩
theorem lw_p11 : lw_okq (⟨"HueLease$Tape", "tellsOfNobody", "()Z"⟩, 11) := ⟨⟨by decide +kernel, by decide +kernel⟩, List.mem_of_getElem? (i := 88) (by decide +kernel), List.mem_of_getElem? (i := 397) (by decide +kernel), List.mem_of_getElem? (i := 398) (by decide +kernel)⟩
theorem lw_p12 : lw_okq (⟨"HueLease$Mixer", "pickFrom", "(LHueLease$Books;II)V"⟩, 6) := ⟨⟨by decide +kernel, by decide +kernel⟩, List.mem_of_getElem? (i := 159) (by decide +kernel), List.mem_of_getElem? (i := 567) (by decide +kernel), List.mem_of_getElem? (i := 568) (by decide +kernel)⟩
theorem lw_p13 : lw_okq (⟨"HueLease$Mixer", "weigh", "(LHueLease$Books;)V"⟩, 6) := ⟨⟨by decide +kernel, by decide +kernel⟩, List.mem_of_getElem? (i := 159) (by decide +kernel), List.mem_of_getElem? (i := 571) (by decide +kernel), List.mem_of_getElem? (i := 572) (by decide +kernel)⟩
theorem lw_p14 : lw_okq (⟨"HueLease", "seizuresIfLent", "(III)I"⟩, 12) := ⟨⟨by decide +kernel, by decide +kernel⟩, List.mem_of_getElem? (i := 17) (by decide +kernel), List.mem_of_getElem? (i := 588) (by decide +kernel), List.mem_of_getElem? (i := 589) (by decide +kernel)⟩
theorem lw_p15 : lw_okq (⟨"HueLease", "seizuresIfExchanged", "(II)I"⟩, 12) := ⟨⟨by decide +kernel, by decide +kernel⟩, List.mem_of_getElem? (i := 17) (by decide +kernel), List.mem_of_getElem? (i := 597) (by decide +kernel), List.mem_of_getElem? (i := 598) (by decide +kernel)⟩
def lw_privs_1 : List (MethodName × Nat) := [(⟨"HueLease$Tape", "readToken", "()Z"⟩, 11), (⟨"HueLease$Tape", "behind", "(II)I"⟩, 11), (⟨"HueLease$Tape", "refuse", "(II)Z"⟩, 11), (⟨"HueLease$Tape", "readLine", "()Z"⟩, 11), (⟨"HueLease$Tape", "lineOfName", "()I"⟩, 11), (⟨"HueLease$Tape", "isName", "(Ljava/lang/String;)Z"⟩, 11), (⟨"HueLease$Tape", "readLent", "()Z"⟩, 11), (⟨"HueLease$Tape", "readNumber", "(I)Z"⟩, 11), (⟨"HueLease$Tape", "readStop", "()Z"⟩, 11), (⟨"HueLease$Tape", "readOne", "()Z"⟩, 11), (⟨"HueLease$Tape", "readColour", "(I)Z"⟩, 11), (⟨"HueLease$Tape", "tellsOfNobody", "()Z"⟩, 11), (⟨"HueLease$Mixer", "pickFrom", "(LHueLease$Books;II)V"⟩, 6), (⟨"HueLease$Mixer", "weigh", "(LHueLease$Books;)V"⟩, 6), (⟨"HueLease", "seizuresIfLent", "(III)I"⟩, 12), (⟨"HueLease", "seizuresIfExchanged", "(II)I"⟩, 12)]
theorem lw_r1 : ∀ q ∈ lw_privs_1, lw_okq q := List.forall_mem_cons.mpr ⟨lw_p0, List.forall_mem_cons.mpr ⟨lw_p1, List.forall_mem_cons.mpr ⟨lw_p2, List.forall_mem_cons.mpr ⟨lw_p3, List.forall_mem_cons.mpr ⟨lw_p4, List.forall_mem_cons.mpr ⟨lw_p5, List.forall_mem_cons.mpr ⟨lw_p6, List.forall_mem_cons.mpr ⟨lw_p7, List.forall_mem_cons.mpr ⟨lw_p8, List.forall_mem_cons.mpr ⟨lw_p9, List.forall_mem_cons.mpr ⟨lw_p10, List.forall_mem_cons.mpr ⟨lw_p11, List.forall_mem_cons.mpr ⟨lw_p12, List.forall_mem_cons.mpr ⟨lw_p13, List.forall_mem_cons.mpr ⟨lw_p14, List.forall_mem_cons.mpr ⟨lw_p15, fun _ h => absurd h List.not_mem_nil⟩⟩⟩⟩⟩⟩⟩⟩⟩⟩⟩⟩⟩⟩⟩⟩
theorem lw_p16 : lw_okq (⟨"HueLease", "keepsAll", "(III)Z"⟩, 12) := ⟨⟨by decide +kernel, by decide +kernel⟩, List.mem_of_getElem? (i := 17) (by decide +kernel), List.mem_of_getElem? (i := 609) (by decide +kernel), List.mem_of_getElem? (i := 610) (by decide +kernel)⟩
theorem lw_p17 : lw_okq (⟨"HueLease$Weather", "summed", "(I)J"⟩, 5) := ⟨⟨by decide +kernel, by decide +kernel⟩, List.mem_of_getElem? (i := 187) (by decide +kernel), List.mem_of_getElem? (i := 627) (by decide +kernel), List.mem_of_getElem? (i := 628) (by decide +kernel)⟩
theorem lw_p18 : lw_okq (⟨"HueLease$Weather", "lookedAt", "(LHueLease$Books;)J"⟩, 5) := ⟨⟨by decide +kernel, by decide +kernel⟩, List.mem_of_getElem? (i := 187) (by decide +kernel), List.mem_of_getElem? (i := 631) (by decide +kernel), List.mem_of_getElem? (i := 632) (by decide +kernel)⟩
theorem lw_p19 : lw_okq (⟨"HueLease$Weather", "passOn", "(II)V"⟩, 5) := ⟨⟨by decide +kernel, by decide +kernel⟩, List.mem_of_getElem? (i := 187) (by decide +kernel), List.mem_of_getElem? (i := 637) (by decide +kernel), List.mem_of_getElem? (i := 638) (by decide +kernel)⟩
theorem lw_p20 : lw_okq (⟨"HueLease", "kindsLeft", "(I)I"⟩, 12) := ⟨⟨by decide +kernel, by decide +kernel⟩, List.mem_of_getElem? (i := 17) (by decide +kernel), List.mem_of_getElem? (i := 664) (by decide +kernel), List.mem_of_getElem? (i := 665) (by decide +kernel)⟩
theorem lw_p21 : lw_okq (⟨"HueLease$Looks", "lastDay", "()I"⟩, 4) := ⟨⟨by decide +kernel, by decide +kernel⟩, List.mem_of_getElem? (i := 136) (by decide +kernel), List.mem_of_getElem? (i := 672) (by decide +kernel), List.mem_of_getElem? (i := 673) (by decide +kernel)⟩
theorem lw_p22 : lw_okq (⟨"HueLease$Looks", "fitOnDay", "(LHueLease$Books;I)Z"⟩, 4) := ⟨⟨by decide +kernel, by decide +kernel⟩, List.mem_of_getElem? (i := 136) (by decide +kernel), List.mem_of_getElem? (i := 677) (by decide +kernel), List.mem_of_getElem? (i := 678) (by decide +kernel)⟩
theorem lw_p23 : lw_okq (⟨"HueLease", "worstLeft", "(II)I"⟩, 12) := ⟨⟨by decide +kernel, by decide +kernel⟩, List.mem_of_getElem? (i := 17) (by decide +kernel), List.mem_of_getElem? (i := 697) (by decide +kernel), List.mem_of_getElem? (i := 698) (by decide +kernel)⟩
theorem lw_p24 : lw_okq (⟨"HueLease", "lendOnTrial", "([II)Z"⟩, 12) := ⟨⟨by decide +kernel, by decide +kernel⟩, List.mem_of_getElem? (i := 17) (by decide +kernel), List.mem_of_getElem? (i := 742) (by decide +kernel), List.mem_of_getElem? (i := 743) (by decide +kernel)⟩
theorem lw_p25 : lw_okq (⟨"HueLeaseModel", "step", "()V"⟩, 33) := ⟨⟨by decide +kernel, by decide +kernel⟩, List.mem_of_getElem? (i := 755) (by decide +kernel), List.mem_of_getElem? (i := 877) (by decide +kernel), List.mem_of_getElem? (i := 878) (by decide +kernel)⟩
theorem lw_p26 : lw_okq (⟨"HueLeaseModel", "byteAt", "(I)I"⟩, 33) := ⟨⟨by decide +kernel, by decide +kernel⟩, List.mem_of_getElem? (i := 755) (by decide +kernel), List.mem_of_getElem? (i := 881) (by decide +kernel), List.mem_of_getElem? (i := 882) (by decide +kernel)⟩
theorem lw_p27 : lw_okq (⟨"HueLeaseModel", "fails", "(I)V"⟩, 33) := ⟨⟨by decide +kernel, by decide +kernel⟩, List.mem_of_getElem? (i := 755) (by decide +kernel), List.mem_of_getElem? (i := 889) (by decide +kernel), List.mem_of_getElem? (i := 890) (by decide +kernel)⟩
theorem lw_p28 : lw_okq (⟨"HueLeaseModel", "readLine", "()V"⟩, 33) := ⟨⟨by decide +kernel, by decide +kernel⟩, List.mem_of_getElem? (i := 755) (by decide +kernel), List.mem_of_getElem? (i := 893) (by decide +kernel), List.mem_of_getElem? (i := 894) (by decide +kernel)⟩
theorem lw_p29 : lw_okq (⟨"HueLeaseModel", "nameHere", "()I"⟩, 33) := ⟨⟨by decide +kernel, by decide +kernel⟩, List.mem_of_getElem? (i := 755) (by decide +kernel), List.mem_of_getElem? (i := 897) (by decide +kernel), List.mem_of_getElem? (i := 898) (by decide +kernel)⟩
theorem lw_p30 : lw_okq (⟨"HueLeaseModel", "readMore", "(I)V"⟩, 33) := ⟨⟨by decide +kernel, by decide +kernel⟩, List.mem_of_getElem? (i := 755) (by decide +kernel), List.mem_of_getElem? (i := 902) (by decide +kernel), List.mem_of_getElem? (i := 903) (by decide +kernel)⟩
theorem lw_p31 : lw_okq (⟨"HueLeaseModel", "readColour", "(I)V"⟩, 33) := ⟨⟨by decide +kernel, by decide +kernel⟩, List.mem_of_getElem? (i := 755) (by decide +kernel), List.mem_of_getElem? (i := 906) (by decide +kernel), List.mem_of_getElem? (i := 907) (by decide +kernel)⟩
def lw_privs_2 : List (MethodName × Nat) := [(⟨"HueLease", "keepsAll", "(III)Z"⟩, 12), (⟨"HueLease$Weather", "summed", "(I)J"⟩, 5), (⟨"HueLease$Weather", "lookedAt", "(LHueLease$Books;)J"⟩, 5), (⟨"HueLease$Weather", "passOn", "(II)V"⟩, 5), (⟨"HueLease", "kindsLeft", "(I)I"⟩, 12), (⟨"HueLease$Looks", "lastDay", "()I"⟩, 4), (⟨"HueLease$Looks", "fitOnDay", "(LHueLease$Books;I)Z"⟩, 4), (⟨"HueLease", "worstLeft", "(II)I"⟩, 12), (⟨"HueLease", "lendOnTrial", "([II)Z"⟩, 12), (⟨"HueLeaseModel", "step", "()V"⟩, 33), (⟨"HueLeaseModel", "byteAt", "(I)I"⟩, 33), (⟨"HueLeaseModel", "fails", "(I)V"⟩, 33), (⟨"HueLeaseModel", "readLine", "()V"⟩, 33), (⟨"HueLeaseModel", "nameHere", "()I"⟩, 33), (⟨"HueLeaseModel", "readMore", "(I)V"⟩, 33), (⟨"HueLeaseModel", "readColour", "(I)V"⟩, 33)]
theorem lw_r2 : ∀ q ∈ lw_privs_2, lw_okq q := List.forall_mem_cons.mpr ⟨lw_p16, List.forall_mem_cons.mpr ⟨lw_p17, List.forall_mem_cons.mpr ⟨lw_p18, List.forall_mem_cons.mpr ⟨lw_p19, List.forall_mem_cons.mpr ⟨lw_p20, List.forall_mem_cons.mpr ⟨lw_p21, List.forall_mem_cons.mpr ⟨lw_p22, List.forall_mem_cons.mpr ⟨lw_p23, List.forall_mem_cons.mpr ⟨lw_p24, List.forall_mem_cons.mpr ⟨lw_p25, List.forall_mem_cons.mpr ⟨lw_p26, List.forall_mem_cons.mpr ⟨lw_p27, List.forall_mem_cons.mpr ⟨lw_p28, List.forall_mem_cons.mpr ⟨lw_p29, List.forall_mem_cons.mpr ⟨lw_p30, List.forall_mem_cons.mpr ⟨lw_p31, fun _ h => absurd h List.not_mem_nil⟩⟩⟩⟩⟩⟩⟩⟩⟩⟩⟩⟩⟩⟩⟩⟩
theorem lw_p32 : lw_okq (⟨"HueLeaseModel", "number", "(II)I"⟩, 33) := ⟨⟨by decide +kernel, by decide +kernel⟩, List.mem_of_getElem? (i := 755) (by decide +kernel), List.mem_of_getElem? (i := 910) (by decide +kernel), List.mem_of_getElem? (i := 911) (by decide +kernel)⟩
theorem lw_p33 : lw_okq (⟨"HueLeaseModel", "readLent", "()V"⟩, 33) := ⟨⟨by decide +kernel, by decide +kernel⟩, List.mem_of_getElem? (i := 755) (by decide +kernel), List.mem_of_getElem? (i := 914) (by decide +kernel), List.mem_of_getElem? (i := 915) (by decide +kernel)⟩
theorem lw_p34 : lw_okq (⟨"HueLeaseModel", "vatsOn", "(I)I"⟩, 33) := ⟨⟨by decide +kernel, by decide +kernel⟩, List.mem_of_getElem? (i := 755) (by decide +kernel), List.mem_of_getElem? (i := 927) (by decide +kernel), List.mem_of_getElem? (i := 928) (by decide +kernel)⟩
theorem lw_p35 : lw_okq (⟨"HueLeaseModel", "heldByAll", "(I)I"⟩, 33) := ⟨⟨by decide +kernel, by decide +kernel⟩, List.mem_of_getElem? (i := 755) (by decide +kernel), List.mem_of_getElem? (i := 931) (by decide +kernel), List.mem_of_getElem? (i := 932) (by decide +kernel)⟩
theorem lw_p36 : lw_okq (⟨"HueLeaseModel", "heldOn", "(II)I"⟩, 33) := ⟨⟨by decide +kernel, by decide +kernel⟩, List.mem_of_getElem? (i := 755) (by decide +kernel), List.mem_of_getElem? (i := 935) (by decide +kernel), List.mem_of_getElem? (i := 936) (by decide +kernel)⟩
theorem lw_p37 : lw_okq (⟨"HueLeaseModel", "isColour", "(I)Z"⟩, 33) := ⟨⟨by decide +kernel, by decide +kernel⟩, List.mem_of_getElem? (i := 755) (by decide +kernel), List.mem_of_getElem? (i := 943) (by decide +kernel), List.mem_of_getElem? (i := 944) (by decide +kernel)⟩
theorem lw_p38 : lw_okq (⟨"HueLeaseModel", "rentOn", "(II)I"⟩, 33) := ⟨⟨by decide +kernel, by decide +kernel⟩, List.mem_of_getElem? (i := 755) (by decide +kernel), List.mem_of_getElem? (i := 948) (by decide +kernel), List.mem_of_getElem? (i := 949) (by decide +kernel)⟩
theorem lw_p39 : lw_okq (⟨"HueLeaseModel", "isOne", "(I)Z"⟩, 33) := ⟨⟨by decide +kernel, by decide +kernel⟩, List.mem_of_getElem? (i := 755) (by decide +kernel), List.mem_of_getElem? (i := 956) (by decide +kernel), List.mem_of_getElem? (i := 957) (by decide +kernel)⟩
theorem lw_p40 : lw_okq (⟨"HueLeaseModel", "hueOn", "(II)I"⟩, 33) := ⟨⟨by decide +kernel, by decide +kernel⟩, List.mem_of_getElem? (i := 755) (by decide +kernel), List.mem_of_getElem? (i := 960) (by decide +kernel), List.mem_of_getElem? (i := 961) (by decide +kernel)⟩
theorem lw_p41 : lw_okq (⟨"HueLeaseModel", "puts", "(ZII)I"⟩, 33) := ⟨⟨by decide +kernel, by decide +kernel⟩, List.mem_of_getElem? (i := 755) (by decide +kernel), List.mem_of_getElem? (i := 983) (by decide +kernel), List.mem_of_getElem? (i := 984) (by decide +kernel)⟩
theorem lw_p42 : lw_okq (⟨"HueLeaseModel", "lendsOn", "(IIII)I"⟩, 33) := ⟨⟨by decide +kernel, by decide +kernel⟩, List.mem_of_getElem? (i := 755) (by decide +kernel), List.mem_of_getElem? (i := 996) (by decide +kernel), List.mem_of_getElem? (i := 997) (by decide +kernel)⟩
theorem lw_p43 : lw_okq (⟨"HueLeaseModel", "bringsOn", "(IIII)V"⟩, 33) := ⟨⟨by decide +kernel, by decide +kernel⟩, List.mem_of_getElem? (i := 755) (by decide +kernel), List.mem_of_getElem? (i := 1004) (by decide +kernel), List.mem_of_getElem? (i := 1005) (by decide +kernel)⟩
theorem lw_p44 : lw_okq (⟨"HueLeaseModel", "dayOn", "(II)V"⟩, 33) := ⟨⟨by decide +kernel, by decide +kernel⟩, List.mem_of_getElem? (i := 755) (by decide +kernel), List.mem_of_getElem? (i := 1013) (by decide +kernel), List.mem_of_getElem? (i := 1014) (by decide +kernel)⟩
theorem lw_p45 : lw_okq (⟨"HueLeaseModel", "colourGoes", "(IIII)V"⟩, 33) := ⟨⟨by decide +kernel, by decide +kernel⟩, List.mem_of_getElem? (i := 755) (by decide +kernel), List.mem_of_getElem? (i := 1017) (by decide +kernel), List.mem_of_getElem? (i := 1018) (by decide +kernel)⟩
theorem lw_p46 : lw_okq (⟨"HueLeaseModel", "fadesOn", "(II)I"⟩, 33) := ⟨⟨by decide +kernel, by decide +kernel⟩, List.mem_of_getElem? (i := 755) (by decide +kernel), List.mem_of_getElem? (i := 1021) (by decide +kernel), List.mem_of_getElem? (i := 1022) (by decide +kernel)⟩
theorem lw_p47 : lw_okq (⟨"HueLeaseModel", "daysGo", "(II)I"⟩, 33) := ⟨⟨by decide +kernel, by decide +kernel⟩, List.mem_of_getElem? (i := 755) (by decide +kernel), List.mem_of_getElem? (i := 1031) (by decide +kernel), List.mem_of_getElem? (i := 1032) (by decide +kernel)⟩
def lw_privs_3 : List (MethodName × Nat) := [(⟨"HueLeaseModel", "number", "(II)I"⟩, 33), (⟨"HueLeaseModel", "readLent", "()V"⟩, 33), (⟨"HueLeaseModel", "vatsOn", "(I)I"⟩, 33), (⟨"HueLeaseModel", "heldByAll", "(I)I"⟩, 33), (⟨"HueLeaseModel", "heldOn", "(II)I"⟩, 33), (⟨"HueLeaseModel", "isColour", "(I)Z"⟩, 33), (⟨"HueLeaseModel", "rentOn", "(II)I"⟩, 33), (⟨"HueLeaseModel", "isOne", "(I)Z"⟩, 33), (⟨"HueLeaseModel", "hueOn", "(II)I"⟩, 33), (⟨"HueLeaseModel", "puts", "(ZII)I"⟩, 33), (⟨"HueLeaseModel", "lendsOn", "(IIII)I"⟩, 33), (⟨"HueLeaseModel", "bringsOn", "(IIII)V"⟩, 33), (⟨"HueLeaseModel", "dayOn", "(II)V"⟩, 33), (⟨"HueLeaseModel", "colourGoes", "(IIII)V"⟩, 33), (⟨"HueLeaseModel", "fadesOn", "(II)I"⟩, 33), (⟨"HueLeaseModel", "daysGo", "(II)I"⟩, 33)]
theorem lw_r3 : ∀ q ∈ lw_privs_3, lw_okq q := List.forall_mem_cons.mpr ⟨lw_p32, List.forall_mem_cons.mpr ⟨lw_p33, List.forall_mem_cons.mpr ⟨lw_p34, List.forall_mem_cons.mpr ⟨lw_p35, List.forall_mem_cons.mpr ⟨lw_p36, List.forall_mem_cons.mpr ⟨lw_p37, List.forall_mem_cons.mpr ⟨lw_p38, List.forall_mem_cons.mpr ⟨lw_p39, List.forall_mem_cons.mpr ⟨lw_p40, List.forall_mem_cons.mpr ⟨lw_p41, List.forall_mem_cons.mpr ⟨lw_p42, List.forall_mem_cons.mpr ⟨lw_p43, List.forall_mem_cons.mpr ⟨lw_p44, List.forall_mem_cons.mpr ⟨lw_p45, List.forall_mem_cons.mpr ⟨lw_p46, List.forall_mem_cons.mpr ⟨lw_p47, fun _ h => absurd h List.not_mem_nil⟩⟩⟩⟩⟩⟩⟩⟩⟩⟩⟩⟩⟩⟩⟩⟩
theorem lw_p48 : lw_okq (⟨"HueLeaseModel", "copies", "(II)V"⟩, 33) := ⟨⟨by decide +kernel, by decide +kernel⟩, List.mem_of_getElem? (i := 755) (by decide +kernel), List.mem_of_getElem? (i := 1035) (by decide +kernel), List.mem_of_getElem? (i := 1036) (by decide +kernel)⟩
theorem lw_p49 : lw_okq (⟨"HueLeaseModel", "areDrops", "(II)Z"⟩, 33) := ⟨⟨by decide +kernel, by decide +kernel⟩, List.mem_of_getElem? (i := 755) (by decide +kernel), List.mem_of_getElem? (i := 1055) (by decide +kernel), List.mem_of_getElem? (i := 1056) (by decide +kernel)⟩
theorem lw_p50 : lw_okq (⟨"HueLeaseModel", "hueOfDrops", "(I)I"⟩, 33) := ⟨⟨by decide +kernel, by decide +kernel⟩, List.mem_of_getElem? (i := 755) (by decide +kernel), List.mem_of_getElem? (i := 1059) (by decide +kernel), List.mem_of_getElem? (i := 1060) (by decide +kernel)⟩
theorem lw_p51 : lw_okq (⟨"HueLeaseModel", "bySun", "(IIIII)J"⟩, 33) := ⟨⟨by decide +kernel, by decide +kernel⟩, List.mem_of_getElem? (i := 755) (by decide +kernel), List.mem_of_getElem? (i := 1094) (by decide +kernel), List.mem_of_getElem? (i := 1095) (by decide +kernel)⟩
theorem lw_p52 : lw_okq (⟨"HueLeaseModel", "kindsOf", "(I)I"⟩, 33) := ⟨⟨by decide +kernel, by decide +kernel⟩, List.mem_of_getElem? (i := 755) (by decide +kernel), List.mem_of_getElem? (i := 1119) (by decide +kernel), List.mem_of_getElem? (i := 1120) (by decide +kernel)⟩
theorem lw_p53 : lw_okq (⟨"HueLeaseModel", "isAsSeen", "(I)Z"⟩, 33) := ⟨⟨by decide +kernel, by decide +kernel⟩, List.mem_of_getElem? (i := 755) (by decide +kernel), List.mem_of_getElem? (i := 1123) (by decide +kernel), List.mem_of_getElem? (i := 1124) (by decide +kernel)⟩
def lw_privs_4 : List (MethodName × Nat) := [(⟨"HueLeaseModel", "copies", "(II)V"⟩, 33), (⟨"HueLeaseModel", "areDrops", "(II)Z"⟩, 33), (⟨"HueLeaseModel", "hueOfDrops", "(I)I"⟩, 33), (⟨"HueLeaseModel", "bySun", "(IIIII)J"⟩, 33), (⟨"HueLeaseModel", "kindsOf", "(I)I"⟩, 33), (⟨"HueLeaseModel", "isAsSeen", "(I)Z"⟩, 33)]
theorem lw_r4 : ∀ q ∈ lw_privs_4, lw_okq q := List.forall_mem_cons.mpr ⟨lw_p48, List.forall_mem_cons.mpr ⟨lw_p49, List.forall_mem_cons.mpr ⟨lw_p50, List.forall_mem_cons.mpr ⟨lw_p51, List.forall_mem_cons.mpr ⟨lw_p52, List.forall_mem_cons.mpr ⟨lw_p53, fun _ h => absurd h List.not_mem_nil⟩⟩⟩⟩⟩⟩
def lw_privs : List (MethodName × Nat) := lw_privs_1 ++ (lw_privs_2 ++ (lw_privs_3 ++ (lw_privs_4)))
def lw_tbl : List Cond := k2_sels lw_privs ++ tables_1
theorem lw_privs_ok : ∀ q ∈ lw_privs, lw_okq q := by
  show ∀ q ∈ lw_privs_1 ++ (lw_privs_2 ++ (lw_privs_3 ++ (lw_privs_4))), lw_okq q
  exact List.forall_mem_append.mpr ⟨lw_r1, List.forall_mem_append.mpr ⟨lw_r2, List.forall_mem_append.mpr ⟨lw_r3, lw_r4⟩⟩⟩
end
section
def RX0 : String := "HueLease$Books"
def TX0 : u_T := fun k => match k with
  | 0 => ("HueLease$Books", "colours", "I", false)
  | 1 => ("HueLease$Books", "people", "I", false)
  | 2 => ("HueLease$Books", "day", "I", false)
  | 3 => ("HueLease$Books", "seizures", "I", false)
  | 4 => ("HueLease$Books", "paid", "I", false)
  | 5 => ("HueLease$Books", "kindOf", "[I", true)
  | 6 => ("HueLease$Books", "lights", "[I", true)
  | 7 => ("HueLease$Books", "vats", "[I", true)
  | 8 => ("HueLease$Books", "purses", "[I", true)
  | 9 => ("HueLease$Books", "earned", "[I", true)
  | _ => ("HueLease$Books", "held", "[I", true)
def tyX0 : Nat → FieldType := fun k => match k with
  | 0 => .int
  | 1 => .int
  | 2 => .int
  | 3 => .int
  | 4 => .int
  | 5 => .array .int
  | 6 => .array .int
  | 7 => .array .int
  | 8 => .array .int
  | 9 => .array .int
  | _ => .array .int
abbrev wsX00 : List Cond := u_ws RX0 TX0 11
theorem nmX0 : ∀ a, a < 11 → ∀ b, b < 11 → a ≠ b → (TX0 a).2.1 ≠ (TX0 b).2.1 := by decide +kernel
theorem tyX0_ok : ∀ k, k < 11 → parseFieldDescriptor (TX0 k).2.2.1 = some (tyX0 k) := by decide +kernel
abbrev cX0_init : ByteArray := prog_2_method_1_code
def yX0_init : MethodName := ⟨RX0, "<init>", "()V"⟩
abbrev cX0_takeFrom : ByteArray := prog_2_method_2_code
def yX0_takeFrom : MethodName := ⟨RX0, "takeFrom", "(LHueLease$Books;)V"⟩
abbrev cX0_hasColour : ByteArray := prog_2_method_3_code
def yX0_hasColour : MethodName := ⟨RX0, "hasColour", "(I)Z"⟩
abbrev cX0_hasOne : ByteArray := prog_2_method_4_code
def yX0_hasOne : MethodName := ⟨RX0, "hasOne", "(I)Z"⟩
abbrev cX0_inVats : ByteArray := prog_2_method_5_code
def yX0_inVats : MethodName := ⟨RX0, "inVats", "()I"⟩
abbrev cX0_heldBy : ByteArray := prog_2_method_6_code
def yX0_heldBy : MethodName := ⟨RX0, "heldBy", "(I)I"⟩
abbrev cX0_heldByAll : ByteArray := prog_2_method_7_code
def yX0_heldByAll : MethodName := ⟨RX0, "heldByAll", "()I"⟩
abbrev cX0_heldOf : ByteArray := prog_2_method_8_code
def yX0_heldOf : MethodName := ⟨RX0, "heldOf", "(I)I"⟩
abbrev cX0_rentOf : ByteArray := prog_2_method_9_code
def yX0_rentOf : MethodName := ⟨RX0, "rentOf", "(I)I"⟩
abbrev cX0_rentOfDrops : ByteArray := prog_2_method_10_code
def yX0_rentOfDrops : MethodName := ⟨RX0, "rentOfDrops", "([II)I"⟩
abbrev cX0_hueOfDrops : ByteArray := prog_2_method_11_code
def yX0_hueOfDrops : MethodName := ⟨RX0, "hueOfDrops", "([II)I"⟩
abbrev cX0_hueOfOne : ByteArray := prog_2_method_12_code
def yX0_hueOfOne : MethodName := ⟨RX0, "hueOfOne", "(I)I"⟩
abbrev cX0_giveLoan : ByteArray := prog_2_method_13_code
def yX0_giveLoan : MethodName := ⟨RX0, "giveLoan", "(III)I"⟩
abbrev cX0_takeBack : ByteArray := prog_2_method_14_code
def yX0_takeBack : MethodName := ⟨RX0, "takeBack", "(III)V"⟩
abbrev cX0_passDays : ByteArray := prog_2_method_15_code
def yX0_passDays : MethodName := ⟨RX0, "passDays", "(I)V"⟩
abbrev cX0_passDaysOfOne : ByteArray := prog_2_method_16_code
def yX0_passDaysOfOne : MethodName := ⟨RX0, "passDaysOfOne", "(II)V"⟩
abbrev cX0_passDay : ByteArray := prog_2_method_17_code
def yX0_passDay : MethodName := ⟨RX0, "passDay", "(I)V"⟩
abbrev cX0_passDayOfOne : ByteArray := prog_2_method_18_code
def yX0_passDayOfOne : MethodName := ⟨RX0, "passDayOfOne", "(II)V"⟩
def RX1 : String := "HueLease$Looks"
def TX1 : u_T := fun k => match k with
  | 0 => ("HueLease$Looks", "size", "I", false)
  | 1 => ("HueLease$Looks", "onDay", "[I", true)
  | 2 => ("HueLease$Looks", "who", "[I", true)
  | _ => ("HueLease$Looks", "hue", "[I", true)
def tyX1 : Nat → FieldType := fun k => match k with
  | 0 => .int
  | 1 => .array .int
  | 2 => .array .int
  | _ => .array .int
abbrev wsX10 : List Cond := u_ws RX1 TX1 4
theorem nmX1 : ∀ a, a < 4 → ∀ b, b < 4 → a ≠ b → (TX1 a).2.1 ≠ (TX1 b).2.1 := by decide +kernel
theorem tyX1_ok : ∀ k, k < 4 → parseFieldDescriptor (TX1 k).2.2.1 = some (tyX1 k) := by decide +kernel
abbrev cX1_init : ByteArray := prog_3_method_1_code
def yX1_init : MethodName := ⟨RX1, "<init>", "()V"⟩
abbrev cX1_fit : ByteArray := prog_3_method_2_code
def yX1_fit : MethodName := ⟨RX1, "fit", "(LHueLease$Books;)Z"⟩
abbrev cX1_fitOnDay : ByteArray := prog_3_method_3_code
def yX1_fitOnDay : MethodName := ⟨RX1, "fitOnDay", "(LHueLease$Books;I)Z"⟩
abbrev cX1_lastDay : ByteArray := prog_3_method_4_code
def yX1_lastDay : MethodName := ⟨RX1, "lastDay", "()I"⟩
def RX2 : String := "HueLease$Mixer"
def TX2 : u_T := fun k => match k with
  | 0 => ("HueLease$Mixer", "leastOff", "I", false)
  | 1 => ("HueLease$Mixer", "leastRent", "I", false)
  | 2 => ("HueLease$Mixer", "nearest", "[I", true)
  | 3 => ("HueLease$Mixer", "picked", "[I", true)
  | 4 => ("HueLease$Mixer", "goal", "I", false)
  | _ => ("HueLease$Mixer", "farthest", "I", false)
def tyX2 : Nat → FieldType := fun k => match k with
  | 0 => .int
  | 1 => .int
  | 2 => .array .int
  | 3 => .array .int
  | 4 => .int
  | _ => .int
abbrev wsX20 : List Cond := u_ws RX2 TX2 6
theorem nmX2 : ∀ a, a < 6 → ∀ b, b < 6 → a ≠ b → (TX2 a).2.1 ≠ (TX2 b).2.1 := by decide +kernel
theorem tyX2_ok : ∀ k, k < 6 → parseFieldDescriptor (TX2 k).2.2.1 = some (tyX2 k) := by decide +kernel
abbrev cX2_init : ByteArray := prog_4_method_1_code
def yX2_init : MethodName := ⟨RX2, "<init>", "()V"⟩
abbrev cX2_tryAll : ByteArray := prog_4_method_2_code
def yX2_tryAll : MethodName := ⟨RX2, "tryAll", "(LHueLease$Books;III)V"⟩
abbrev cX2_pickFrom : ByteArray := prog_4_method_3_code
def yX2_pickFrom : MethodName := ⟨RX2, "pickFrom", "(LHueLease$Books;II)V"⟩
abbrev cX2_weigh : ByteArray := prog_4_method_4_code
def yX2_weigh : MethodName := ⟨RX2, "weigh", "(LHueLease$Books;)V"⟩
def RX3 : String := "HueLease$Sheet"
def TX3 : u_T := fun k => match k with
  | 0 => ("HueLease$Sheet", "lane", "I", false)
  | 1 => ("HueLease$Sheet", "size", "I", false)
  | _ => ("HueLease$Sheet", "cells", "[I", true)
def tyX3 : Nat → FieldType := fun k => match k with
  | 0 => .int
  | 1 => .int
  | _ => .array .int
abbrev wsX30 : List Cond := u_ws RX3 TX3 3
theorem nmX3 : ∀ a, a < 3 → ∀ b, b < 3 → a ≠ b → (TX3 a).2.1 ≠ (TX3 b).2.1 := by decide +kernel
theorem tyX3_ok : ∀ k, k < 3 → parseFieldDescriptor (TX3 k).2.2.1 = some (tyX3 k) := by decide +kernel
abbrev cX3_init : ByteArray := prog_5_method_1_code
def yX3_init : MethodName := ⟨RX3, "<init>", "()V"⟩
abbrev cX3_renew : ByteArray := prog_5_method_2_code
def yX3_renew : MethodName := ⟨RX3, "renew", "(II)V"⟩
abbrev cX3_cut : ByteArray := prog_5_method_3_code
def yX3_cut : MethodName := ⟨RX3, "cut", "(I)I"⟩
abbrev cX3_faultAs : ByteArray := prog_5_method_4_code
def yX3_faultAs : MethodName := ⟨RX3, "faultAs", "(I)I"⟩
def RX4 : String := "HueLease$Tape"
def TX4 : u_T := fun k => match k with
  | 0 => ("HueLease$Tape", "bytes", "[I", true)
  | 1 => ("HueLease$Tape", "length", "I", false)
  | 2 => ("HueLease$Tape", "fault", "I", false)
  | 3 => ("HueLease$Tape", "place", "I", false)
  | 4 => ("HueLease$Tape", "draft", "LHueLease$Books;", true)
  | 5 => ("HueLease$Tape", "blank", "LHueLease$Books;", true)
  | 6 => ("HueLease$Tape", "told", "I", false)
  | 7 => ("HueLease$Tape", "at", "I", false)
  | 8 => ("HueLease$Tape", "sort", "I", false)
  | 9 => ("HueLease$Tape", "start", "I", false)
  | _ => ("HueLease$Tape", "value", "I", false)
def tyX4 : Nat → FieldType := fun k => match k with
  | 0 => .array .int
  | 1 => .int
  | 2 => .int
  | 3 => .int
  | 4 => .object "HueLease$Books"
  | 5 => .object "HueLease$Books"
  | 6 => .int
  | 7 => .int
  | 8 => .int
  | 9 => .int
  | _ => .int
abbrev wsX40 : List Cond := u_ws RX4 TX4 11
theorem nmX4 : ∀ a, a < 11 → ∀ b, b < 11 → a ≠ b → (TX4 a).2.1 ≠ (TX4 b).2.1 := by decide +kernel
theorem tyX4_ok : ∀ k, k < 11 → parseFieldDescriptor (TX4 k).2.2.1 = some (tyX4 k) := by decide +kernel
abbrev cX4_init : ByteArray := prog_6_method_1_code
def yX4_init : MethodName := ⟨RX4, "<init>", "()V"⟩
abbrev cX4_readLines : ByteArray := prog_6_method_2_code
def yX4_readLines : MethodName := ⟨RX4, "readLines", "()I"⟩
abbrev cX4_refuse : ByteArray := prog_6_method_3_code
def yX4_refuse : MethodName := ⟨RX4, "refuse", "(II)Z"⟩
abbrev cX4_readLine : ByteArray := prog_6_method_4_code
def yX4_readLine : MethodName := ⟨RX4, "readLine", "()Z"⟩
abbrev cX4_readColour : ByteArray := prog_6_method_5_code
def yX4_readColour : MethodName := ⟨RX4, "readColour", "(I)Z"⟩
abbrev cX4_readOne : ByteArray := prog_6_method_6_code
def yX4_readOne : MethodName := ⟨RX4, "readOne", "()Z"⟩
abbrev cX4_readLent : ByteArray := prog_6_method_7_code
def yX4_readLent : MethodName := ⟨RX4, "readLent", "()Z"⟩
abbrev cX4_readNumber : ByteArray := prog_6_method_8_code
def yX4_readNumber : MethodName := ⟨RX4, "readNumber", "(I)Z"⟩
abbrev cX4_readStop : ByteArray := prog_6_method_9_code
def yX4_readStop : MethodName := ⟨RX4, "readStop", "()Z"⟩
abbrev cX4_tellsOfNobody : ByteArray := prog_6_method_10_code
def yX4_tellsOfNobody : MethodName := ⟨RX4, "tellsOfNobody", "()Z"⟩
abbrev cX4_readToken : ByteArray := prog_6_method_11_code
def yX4_readToken : MethodName := ⟨RX4, "readToken", "()Z"⟩
abbrev cX4_behind : ByteArray := prog_6_method_12_code
def yX4_behind : MethodName := ⟨RX4, "behind", "(II)I"⟩
abbrev cX4_lineOfName : ByteArray := prog_6_method_13_code
def yX4_lineOfName : MethodName := ⟨RX4, "lineOfName", "()I"⟩
abbrev cX4_isName : ByteArray := prog_6_method_14_code
def yX4_isName : MethodName := ⟨RX4, "isName", "(Ljava/lang/String;)Z"⟩
def RX5 : String := "HueLease$Weather"
def TX5 : u_T := fun k => match k with
  | 0 => ("HueLease$Weather", "who", "I", false)
  | 1 => ("HueLease$Weather", "hue", "I", false)
  | 2 => ("HueLease$Weather", "odds", "I", false)
  | 3 => ("HueLease$Weather", "daysToCome", "I", false)
  | _ => ("HueLease$Weather", "behind", "[LHueLease$Books;", true)
def tyX5 : Nat → FieldType := fun k => match k with
  | 0 => .int
  | 1 => .int
  | 2 => .int
  | 3 => .int
  | _ => .array (.object "HueLease$Books")
abbrev wsX50 : List Cond := u_ws RX5 TX5 5
theorem nmX5 : ∀ a, a < 5 → ∀ b, b < 5 → a ≠ b → (TX5 a).2.1 ≠ (TX5 b).2.1 := by decide +kernel
theorem tyX5_ok : ∀ k, k < 5 → parseFieldDescriptor (TX5 k).2.2.1 = some (tyX5 k) := by decide +kernel
abbrev cX5_init : ByteArray := prog_7_method_1_code
def yX5_init : MethodName := ⟨RX5, "<init>", "()V"⟩
abbrev cX5_meanOver : ByteArray := prog_7_method_2_code
def yX5_meanOver : MethodName := ⟨RX5, "meanOver", "(LHueLease$Books;III)J"⟩
abbrev cX5_summed : ByteArray := prog_7_method_3_code
def yX5_summed : MethodName := ⟨RX5, "summed", "(I)J"⟩
abbrev cX5_passOn : ByteArray := prog_7_method_4_code
def yX5_passOn : MethodName := ⟨RX5, "passOn", "(II)V"⟩
abbrev cX5_lookedAt : ByteArray := prog_7_method_5_code
def yX5_lookedAt : MethodName := ⟨RX5, "lookedAt", "(LHueLease$Books;)J"⟩
abbrev cX5_commonDivisor : ByteArray := prog_7_method_6_code
def yX5_commonDivisor : MethodName := ⟨RX5, "commonDivisor", "(JJ)J"⟩
def RX6 : String := "HueLease"
def TX6 : u_T := fun k => match k with
  | 0 => ("HueLease", "now", "LHueLease$Books;", true)
  | 1 => ("HueLease", "trial", "LHueLease$Books;", true)
  | 2 => ("HueLease", "images", "[LHueLease$Books;", true)
  | 3 => ("HueLease", "kept", "[Z", true)
  | 4 => ("HueLease", "worlds", "[LHueLease$Books;", true)
  | 5 => ("HueLease", "hues", "[I", true)
  | 6 => ("HueLease", "tape", "LHueLease$Tape;", true)
  | 7 => ("HueLease", "looks", "LHueLease$Looks;", true)
  | 8 => ("HueLease", "mixer", "LHueLease$Mixer;", true)
  | 9 => ("HueLease", "weather", "LHueLease$Weather;", true)
  | 10 => ("HueLease", "sheets", "[LHueLease$Sheet;", true)
  | _ => ("HueLease", "tornFault", "I", false)
def tyX6 : Nat → FieldType := fun k => match k with
  | 0 => .object "HueLease$Books"
  | 1 => .object "HueLease$Books"
  | 2 => .array (.object "HueLease$Books")
  | 3 => .array .boolean
  | 4 => .array (.object "HueLease$Books")
  | 5 => .array .int
  | 6 => .object "HueLease$Tape"
  | 7 => .object "HueLease$Looks"
  | 8 => .object "HueLease$Mixer"
  | 9 => .object "HueLease$Weather"
  | 10 => .array (.object "HueLease$Sheet")
  | _ => .int
abbrev wsX60 : List Cond := u_ws RX6 TX6 12
theorem nmX6 : ∀ a, a < 12 → ∀ b, b < 12 → a ≠ b → (TX6 a).2.1 ≠ (TX6 b).2.1 := by decide +kernel
theorem tyX6_ok : ∀ k, k < 12 → parseFieldDescriptor (TX6 k).2.2.1 = some (tyX6 k) := by decide +kernel
abbrev cX6_init : ByteArray := prog_1_method_1_code
def yX6_init : MethodName := ⟨RX6, "<init>", "()V"⟩
abbrev cX6_feed : ByteArray := prog_1_method_2_code
def yX6_feed : MethodName := ⟨RX6, "feed", "(I)I"⟩
abbrev cX6_end : ByteArray := prog_1_method_3_code
def yX6_end : MethodName := ⟨RX6, "end", "(I)I"⟩
abbrev cX6_text : ByteArray := prog_1_method_4_code
def yX6_text : MethodName := ⟨RX6, "text", "()I"⟩
abbrev cX6_fault : ByteArray := prog_1_method_5_code
def yX6_fault : MethodName := ⟨RX6, "fault", "()I"⟩
abbrev cX6_rule : ByteArray := prog_1_method_6_code
def yX6_rule : MethodName := ⟨RX6, "rule", "(I)I"⟩
abbrev cX6_colour : ByteArray := prog_1_method_7_code
def yX6_colour : MethodName := ⟨RX6, "colour", "(II)I"⟩
abbrev cX6_one : ByteArray := prog_1_method_8_code
def yX6_one : MethodName := ⟨RX6, "one", "(II)I"⟩
abbrev cX6_holds : ByteArray := prog_1_method_9_code
def yX6_holds : MethodName := ⟨RX6, "holds", "(II)I"⟩
abbrev cX6_off : ByteArray := prog_1_method_10_code
def yX6_off : MethodName := ⟨RX6, "off", "(II)I"⟩
abbrev cX6_alter : ByteArray := prog_1_method_11_code
def yX6_alter : MethodName := ⟨RX6, "alter", "(III)I"⟩
abbrev cX6_pay : ByteArray := prog_1_method_12_code
def yX6_pay : MethodName := ⟨RX6, "pay", "(III)I"⟩
abbrev cX6_lend : ByteArray := prog_1_method_13_code
def yX6_lend : MethodName := ⟨RX6, "lend", "(III)I"⟩
abbrev cX6_bring : ByteArray := prog_1_method_14_code
def yX6_bring : MethodName := ⟨RX6, "bring", "(III)I"⟩
abbrev cX6_days : ByteArray := prog_1_method_15_code
def yX6_days : MethodName := ⟨RX6, "days", "(I)I"⟩
abbrev cX6_runs : ByteArray := prog_1_method_16_code
def yX6_runs : MethodName := ⟨RX6, "runs", "(II)I"⟩
abbrev cX6_ahead : ByteArray := prog_1_method_17_code
def yX6_ahead : MethodName := ⟨RX6, "ahead", "(III)I"⟩
abbrev cX6_lasts : ByteArray := prog_1_method_18_code
def yX6_lasts : MethodName := ⟨RX6, "lasts", "(I)I"⟩
abbrev cX6_mix : ByteArray := prog_1_method_19_code
def yX6_mix : MethodName := ⟨RX6, "mix", "(III)I"⟩
abbrev cX6_cheap : ByteArray := prog_1_method_20_code
def yX6_cheap : MethodName := ⟨RX6, "cheap", "(III)I"⟩
abbrev cX6_more : ByteArray := prog_1_method_21_code
def yX6_more : MethodName := ⟨RX6, "more", "(II)I"⟩
abbrev cX6_swap : ByteArray := prog_1_method_22_code
def yX6_swap : MethodName := ⟨RX6, "swap", "(I)I"⟩
abbrev cX6_shed : ByteArray := prog_1_method_23_code
def yX6_shed : MethodName := ⟨RX6, "shed", "(II)I"⟩
abbrev cX6_need : ByteArray := prog_1_method_24_code
def yX6_need : MethodName := ⟨RX6, "need", "(II)I"⟩
abbrev cX6_kind : ByteArray := prog_1_method_25_code
def yX6_kind : MethodName := ⟨RX6, "kind", "(III)I"⟩
abbrev cX6_luck : ByteArray := prog_1_method_26_code
def yX6_luck : MethodName := ⟨RX6, "luck", "(IIIII)J"⟩
abbrev cX6_mean : ByteArray := prog_1_method_27_code
def yX6_mean : MethodName := ⟨RX6, "mean", "(III)J"⟩
abbrev cX6_see : ByteArray := prog_1_method_28_code
def yX6_see : MethodName := ⟨RX6, "see", "(III)I"⟩
abbrev cX6_forget : ByteArray := prog_1_method_29_code
def yX6_forget : MethodName := ⟨RX6, "forget", "(I)I"⟩
abbrev cX6_kinds : ByteArray := prog_1_method_30_code
def yX6_kinds : MethodName := ⟨RX6, "kinds", "(I)I"⟩
abbrev cX6_drops : ByteArray := prog_1_method_31_code
def yX6_drops : MethodName := ⟨RX6, "drops", "(II)I"⟩
abbrev cX6_ask : ByteArray := prog_1_method_32_code
def yX6_ask : MethodName := ⟨RX6, "ask", "(II)I"⟩
abbrev cX6_drift : ByteArray := prog_1_method_33_code
def yX6_drift : MethodName := ⟨RX6, "drift", "(III)I"⟩
abbrev cX6_keep : ByteArray := prog_1_method_34_code
def yX6_keep : MethodName := ⟨RX6, "keep", "(I)I"⟩
abbrev cX6_back : ByteArray := prog_1_method_35_code
def yX6_back : MethodName := ⟨RX6, "back", "(I)I"⟩
abbrev cX6_sheet : ByteArray := prog_1_method_36_code
def yX6_sheet : MethodName := ⟨RX6, "sheet", "(III)I"⟩
abbrev cX6_lay : ByteArray := prog_1_method_37_code
def yX6_lay : MethodName := ⟨RX6, "lay", "(III)I"⟩
abbrev cX6_read : ByteArray := prog_1_method_38_code
def yX6_read : MethodName := ⟨RX6, "read", "(IIII)I"⟩
abbrev cX6_torn : ByteArray := prog_1_method_39_code
def yX6_torn : MethodName := ⟨RX6, "torn", "()I"⟩
abbrev cX6_count : ByteArray := prog_1_method_40_code
def yX6_count : MethodName := ⟨RX6, "count", "(I)I"⟩
abbrev cX6_within : ByteArray := prog_1_method_41_code
def yX6_within : MethodName := ⟨RX6, "within", "(III)Z"⟩
abbrev cX6_isHue : ByteArray := prog_1_method_42_code
def yX6_isHue : MethodName := ⟨RX6, "isHue", "(I)Z"⟩
abbrev cX6_hasBit : ByteArray := prog_1_method_43_code
def yX6_hasBit : MethodName := ⟨RX6, "hasBit", "(II)Z"⟩
abbrev cX6_offBetween : ByteArray := prog_1_method_44_code
def yX6_offBetween : MethodName := ⟨RX6, "offBetween", "(II)I"⟩
abbrev cX6_sum : ByteArray := prog_1_method_45_code
def yX6_sum : MethodName := ⟨RX6, "sum", "([III)I"⟩
abbrev cX6_mostToAlter : ByteArray := prog_1_method_46_code
def yX6_mostToAlter : MethodName := ⟨RX6, "mostToAlter", "(I)I"⟩
abbrev cX6_seizuresIfLent : ByteArray := prog_1_method_47_code
def yX6_seizuresIfLent : MethodName := ⟨RX6, "seizuresIfLent", "(III)I"⟩
abbrev cX6_seizuresIfExchanged : ByteArray := prog_1_method_48_code
def yX6_seizuresIfExchanged : MethodName := ⟨RX6, "seizuresIfExchanged", "(II)I"⟩
abbrev cX6_keepsAll : ByteArray := prog_1_method_49_code
def yX6_keepsAll : MethodName := ⟨RX6, "keepsAll", "(III)Z"⟩
abbrev cX6_kindsLeft : ByteArray := prog_1_method_50_code
def yX6_kindsLeft : MethodName := ⟨RX6, "kindsLeft", "(I)I"⟩
abbrev cX6_worstLeft : ByteArray := prog_1_method_51_code
def yX6_worstLeft : MethodName := ⟨RX6, "worstLeft", "(II)I"⟩
abbrev cX6_lendOnTrial : ByteArray := prog_1_method_52_code
def yX6_lendOnTrial : MethodName := ⟨RX6, "lendOnTrial", "([II)Z"⟩
def RX7 : String := "HueLeaseModel"
def TX7 : u_T := fun k => match k with
  | 0 => ("HueLeaseModel", "state", "[I", true)
  | 1 => ("HueLeaseModel", "colourMany", "I", false)
  | 2 => ("HueLeaseModel", "oneMany", "I", false)
  | 3 => ("HueLeaseModel", "readPage", "[I", true)
  | 4 => ("HueLeaseModel", "readColours", "I", false)
  | 5 => ("HueLeaseModel", "readOnes", "I", false)
  | 6 => ("HueLeaseModel", "toldLent", "I", false)
  | 7 => ("HueLeaseModel", "highOne", "I", false)
  | 8 => ("HueLeaseModel", "highColour", "I", false)
  | 9 => ("HueLeaseModel", "tape", "[I", true)
  | 10 => ("HueLeaseModel", "taped", "I", false)
  | 11 => ("HueLeaseModel", "fault", "I", false)
  | 12 => ("HueLeaseModel", "broken", "I", false)
  | 13 => ("HueLeaseModel", "brokenAt", "I", false)
  | 14 => ("HueLeaseModel", "spot", "I", false)
  | 15 => ("HueLeaseModel", "here", "I", false)
  | 16 => ("HueLeaseModel", "token", "I", false)
  | 17 => ("HueLeaseModel", "value", "I", false)
  | 18 => ("HueLeaseModel", "cuts", "[I", true)
  | 19 => ("HueLeaseModel", "letters", "[I", true)
  | 20 => ("HueLeaseModel", "paid", "I", false)
  | 21 => ("HueLeaseModel", "seizedOf", "[I", true)
  | 22 => ("HueLeaseModel", "firstSeized", "I", false)
  | 23 => ("HueLeaseModel", "drops", "[I", true)
  | 24 => ("HueLeaseModel", "bestDrops", "[I", true)
  | 25 => ("HueLeaseModel", "seen", "[I", true)
  | 26 => ("HueLeaseModel", "seenMany", "I", false)
  | 27 => ("HueLeaseModel", "hueBy", "[I", true)
  | 28 => ("HueLeaseModel", "isKept", "[Z", true)
  | 29 => ("HueLeaseModel", "lanes", "[I", true)
  | 30 => ("HueLeaseModel", "lengths", "[I", true)
  | 31 => ("HueLeaseModel", "cells", "[I", true)
  | _ => ("HueLeaseModel", "torn", "I", false)
def tyX7 : Nat → FieldType := fun k => match k with
  | 0 => .array .int
  | 1 => .int
  | 2 => .int
  | 3 => .array .int
  | 4 => .int
  | 5 => .int
  | 6 => .int
  | 7 => .int
  | 8 => .int
  | 9 => .array .int
  | 10 => .int
  | 11 => .int
  | 12 => .int
  | 13 => .int
  | 14 => .int
  | 15 => .int
  | 16 => .int
  | 17 => .int
  | 18 => .array .int
  | 19 => .array .int
  | 20 => .int
  | 21 => .array .int
  | 22 => .int
  | 23 => .array .int
  | 24 => .array .int
  | 25 => .array .int
  | 26 => .int
  | 27 => .array .int
  | 28 => .array .boolean
  | 29 => .array .int
  | 30 => .array .int
  | 31 => .array .int
  | _ => .int
abbrev wsX70 : List Cond := u_ws RX7 TX7 33
theorem nmX7 : ∀ a, a < 33 → ∀ b, b < 33 → a ≠ b → (TX7 a).2.1 ≠ (TX7 b).2.1 := by decide +kernel
theorem tyX7_ok : ∀ k, k < 33 → parseFieldDescriptor (TX7 k).2.2.1 = some (tyX7 k) := by decide +kernel
abbrev cX7_init : ByteArray := prog_9_method_1_code
def yX7_init : MethodName := ⟨RX7, "<init>", "()V"⟩
abbrev cX7_in : ByteArray := prog_9_method_3_code
def yX7_in : MethodName := ⟨RX7, "in", "(JJJ)Z"⟩
abbrev cX7_feed : ByteArray := prog_9_method_4_code
def yX7_feed : MethodName := ⟨RX7, "feed", "(I)I"⟩
abbrev cX7_end : ByteArray := prog_9_method_5_code
def yX7_end : MethodName := ⟨RX7, "end", "(I)I"⟩
abbrev cX7_byteAt : ByteArray := prog_9_method_6_code
def yX7_byteAt : MethodName := ⟨RX7, "byteAt", "(I)I"⟩
abbrev cX7_fails : ByteArray := prog_9_method_7_code
def yX7_fails : MethodName := ⟨RX7, "fails", "(I)V"⟩
abbrev cX7_nameHere : ByteArray := prog_9_method_8_code
def yX7_nameHere : MethodName := ⟨RX7, "nameHere", "()I"⟩
abbrev cX7_step : ByteArray := prog_9_method_9_code
def yX7_step : MethodName := ⟨RX7, "step", "()V"⟩
abbrev cX7_number : ByteArray := prog_9_method_10_code
def yX7_number : MethodName := ⟨RX7, "number", "(II)I"⟩
abbrev cX7_readColour : ByteArray := prog_9_method_11_code
def yX7_readColour : MethodName := ⟨RX7, "readColour", "(I)V"⟩
abbrev cX7_readLent : ByteArray := prog_9_method_12_code
def yX7_readLent : MethodName := ⟨RX7, "readLent", "()V"⟩
abbrev cX7_readMore : ByteArray := prog_9_method_13_code
def yX7_readMore : MethodName := ⟨RX7, "readMore", "(I)V"⟩
abbrev cX7_readLine : ByteArray := prog_9_method_14_code
def yX7_readLine : MethodName := ⟨RX7, "readLine", "()V"⟩
abbrev cX7_text : ByteArray := prog_9_method_15_code
def yX7_text : MethodName := ⟨RX7, "text", "()I"⟩
abbrev cX7_fault : ByteArray := prog_9_method_16_code
def yX7_fault : MethodName := ⟨RX7, "fault", "()I"⟩
abbrev cX7_isColour : ByteArray := prog_9_method_17_code
def yX7_isColour : MethodName := ⟨RX7, "isColour", "(I)Z"⟩
abbrev cX7_isOne : ByteArray := prog_9_method_18_code
def yX7_isOne : MethodName := ⟨RX7, "isOne", "(I)Z"⟩
abbrev cX7_rentOn : ByteArray := prog_9_method_19_code
def yX7_rentOn : MethodName := ⟨RX7, "rentOn", "(II)I"⟩
abbrev cX7_fadesOn : ByteArray := prog_9_method_20_code
def yX7_fadesOn : MethodName := ⟨RX7, "fadesOn", "(II)I"⟩
abbrev cX7_heldOn : ByteArray := prog_9_method_21_code
def yX7_heldOn : MethodName := ⟨RX7, "heldOn", "(II)I"⟩
abbrev cX7_heldByAll : ByteArray := prog_9_method_22_code
def yX7_heldByAll : MethodName := ⟨RX7, "heldByAll", "(I)I"⟩
abbrev cX7_hueOn : ByteArray := prog_9_method_23_code
def yX7_hueOn : MethodName := ⟨RX7, "hueOn", "(II)I"⟩
abbrev cX7_apart : ByteArray := prog_9_method_24_code
def yX7_apart : MethodName := ⟨RX7, "apart", "(II)I"⟩
abbrev cX7_offOf : ByteArray := prog_9_method_25_code
def yX7_offOf : MethodName := ⟨RX7, "offOf", "(II)I"⟩
abbrev cX7_colourGoes : ByteArray := prog_9_method_26_code
def yX7_colourGoes : MethodName := ⟨RX7, "colourGoes", "(IIII)V"⟩
abbrev cX7_dayOn : ByteArray := prog_9_method_27_code
def yX7_dayOn : MethodName := ⟨RX7, "dayOn", "(II)V"⟩
abbrev cX7_vatsOn : ByteArray := prog_9_method_28_code
def yX7_vatsOn : MethodName := ⟨RX7, "vatsOn", "(I)I"⟩
abbrev cX7_rule : ByteArray := prog_9_method_29_code
def yX7_rule : MethodName := ⟨RX7, "rule", "(I)I"⟩
abbrev cX7_colour : ByteArray := prog_9_method_30_code
def yX7_colour : MethodName := ⟨RX7, "colour", "(II)I"⟩
abbrev cX7_one : ByteArray := prog_9_method_31_code
def yX7_one : MethodName := ⟨RX7, "one", "(II)I"⟩
abbrev cX7_holds : ByteArray := prog_9_method_32_code
def yX7_holds : MethodName := ⟨RX7, "holds", "(II)I"⟩
abbrev cX7_off : ByteArray := prog_9_method_33_code
def yX7_off : MethodName := ⟨RX7, "off", "(II)I"⟩
abbrev cX7_puts : ByteArray := prog_9_method_34_code
def yX7_puts : MethodName := ⟨RX7, "puts", "(ZII)I"⟩
abbrev cX7_alter : ByteArray := prog_9_method_35_code
def yX7_alter : MethodName := ⟨RX7, "alter", "(III)I"⟩
abbrev cX7_pay : ByteArray := prog_9_method_36_code
def yX7_pay : MethodName := ⟨RX7, "pay", "(III)I"⟩
abbrev cX7_lendsOn : ByteArray := prog_9_method_37_code
def yX7_lendsOn : MethodName := ⟨RX7, "lendsOn", "(IIII)I"⟩
abbrev cX7_lend : ByteArray := prog_9_method_38_code
def yX7_lend : MethodName := ⟨RX7, "lend", "(III)I"⟩
abbrev cX7_bringsOn : ByteArray := prog_9_method_39_code
def yX7_bringsOn : MethodName := ⟨RX7, "bringsOn", "(IIII)V"⟩
abbrev cX7_bring : ByteArray := prog_9_method_40_code
def yX7_bring : MethodName := ⟨RX7, "bring", "(III)I"⟩
abbrev cX7_days : ByteArray := prog_9_method_41_code
def yX7_days : MethodName := ⟨RX7, "days", "(I)I"⟩
abbrev cX7_copies : ByteArray := prog_9_method_42_code
def yX7_copies : MethodName := ⟨RX7, "copies", "(II)V"⟩
abbrev cX7_daysGo : ByteArray := prog_9_method_43_code
def yX7_daysGo : MethodName := ⟨RX7, "daysGo", "(II)I"⟩
abbrev cX7_runs : ByteArray := prog_9_method_44_code
def yX7_runs : MethodName := ⟨RX7, "runs", "(II)I"⟩
abbrev cX7_ahead : ByteArray := prog_9_method_45_code
def yX7_ahead : MethodName := ⟨RX7, "ahead", "(III)I"⟩
abbrev cX7_lasts : ByteArray := prog_9_method_46_code
def yX7_lasts : MethodName := ⟨RX7, "lasts", "(I)I"⟩
abbrev cX7_powerOf : ByteArray := prog_9_method_47_code
def yX7_powerOf : MethodName := ⟨RX7, "powerOf", "(II)I"⟩
abbrev cX7_areDrops : ByteArray := prog_9_method_48_code
def yX7_areDrops : MethodName := ⟨RX7, "areDrops", "(II)Z"⟩
abbrev cX7_hueOfDrops : ByteArray := prog_9_method_49_code
def yX7_hueOfDrops : MethodName := ⟨RX7, "hueOfDrops", "(I)I"⟩
abbrev cX7_mix : ByteArray := prog_9_method_50_code
def yX7_mix : MethodName := ⟨RX7, "mix", "(III)I"⟩
abbrev cX7_cheap : ByteArray := prog_9_method_51_code
def yX7_cheap : MethodName := ⟨RX7, "cheap", "(III)I"⟩
abbrev cX7_more : ByteArray := prog_9_method_52_code
def yX7_more : MethodName := ⟨RX7, "more", "(II)I"⟩
abbrev cX7_swap : ByteArray := prog_9_method_53_code
def yX7_swap : MethodName := ⟨RX7, "swap", "(I)I"⟩
abbrev cX7_shed : ByteArray := prog_9_method_54_code
def yX7_shed : MethodName := ⟨RX7, "shed", "(II)I"⟩
abbrev cX7_need : ByteArray := prog_9_method_55_code
def yX7_need : MethodName := ⟨RX7, "need", "(II)I"⟩
abbrev cX7_kind : ByteArray := prog_9_method_56_code
def yX7_kind : MethodName := ⟨RX7, "kind", "(III)I"⟩
abbrev cX7_lowest : ByteArray := prog_9_method_57_code
def yX7_lowest : MethodName := ⟨RX7, "lowest", "(JJI)J"⟩
abbrev cX7_bySun : ByteArray := prog_9_method_58_code
def yX7_bySun : MethodName := ⟨RX7, "bySun", "(IIIII)J"⟩
abbrev cX7_luck : ByteArray := prog_9_method_59_code
def yX7_luck : MethodName := ⟨RX7, "luck", "(IIIII)J"⟩
abbrev cX7_mean : ByteArray := prog_9_method_60_code
def yX7_mean : MethodName := ⟨RX7, "mean", "(III)J"⟩
abbrev cX7_see : ByteArray := prog_9_method_61_code
def yX7_see : MethodName := ⟨RX7, "see", "(III)I"⟩
abbrev cX7_forget : ByteArray := prog_9_method_62_code
def yX7_forget : MethodName := ⟨RX7, "forget", "(I)I"⟩
abbrev cX7_isAsSeen : ByteArray := prog_9_method_63_code
def yX7_isAsSeen : MethodName := ⟨RX7, "isAsSeen", "(I)Z"⟩
abbrev cX7_kindsOf : ByteArray := prog_9_method_64_code
def yX7_kindsOf : MethodName := ⟨RX7, "kindsOf", "(I)I"⟩
abbrev cX7_kinds : ByteArray := prog_9_method_65_code
def yX7_kinds : MethodName := ⟨RX7, "kinds", "(I)I"⟩
abbrev cX7_drops : ByteArray := prog_9_method_66_code
def yX7_drops : MethodName := ⟨RX7, "drops", "(II)I"⟩
abbrev cX7_ask : ByteArray := prog_9_method_67_code
def yX7_ask : MethodName := ⟨RX7, "ask", "(II)I"⟩
abbrev cX7_drift : ByteArray := prog_9_method_68_code
def yX7_drift : MethodName := ⟨RX7, "drift", "(III)I"⟩
abbrev cX7_keep : ByteArray := prog_9_method_69_code
def yX7_keep : MethodName := ⟨RX7, "keep", "(I)I"⟩
abbrev cX7_back : ByteArray := prog_9_method_70_code
def yX7_back : MethodName := ⟨RX7, "back", "(I)I"⟩
abbrev cX7_sheet : ByteArray := prog_9_method_71_code
def yX7_sheet : MethodName := ⟨RX7, "sheet", "(III)I"⟩
abbrev cX7_lay : ByteArray := prog_9_method_72_code
def yX7_lay : MethodName := ⟨RX7, "lay", "(III)I"⟩
abbrev cX7_read : ByteArray := prog_9_method_73_code
def yX7_read : MethodName := ⟨RX7, "read", "(IIII)I"⟩
abbrev cX7_torn : ByteArray := prog_9_method_74_code
def yX7_torn : MethodName := ⟨RX7, "torn", "()I"⟩
abbrev cX7_count : ByteArray := prog_9_method_75_code
def yX7_count : MethodName := ⟨RX7, "count", "(I)I"⟩
def RJ6 : String := "java/lang/Integer"
def TJ6 : u_T := fun k => match k with
  | _ => ("", "", "", false)
def tyJ6 : Nat → FieldType := fun k => match k with
  | _ => .int
theorem nmJ6 : ∀ a, a < 0 → ∀ b, b < 0 → a ≠ b → (TJ6 a).2.1 ≠ (TJ6 b).2.1 := by decide +kernel
theorem tyJ6_ok : ∀ k, k < 0 → parseFieldDescriptor (TJ6 k).2.2.1 = some (tyJ6 k) := by decide +kernel
abbrev cJ6_bitCount_0f7a4 : ByteArray := prog_10_method_49_code
def yJ6_bitCount_0f7a4 : MethodName := ⟨RJ6, "bitCount", "(I)I"⟩
def RJ9 : String := "java/lang/Math"
def TJ9 : u_T := fun k => match k with
  | _ => ("", "", "", false)
def tyJ9 : Nat → FieldType := fun k => match k with
  | _ => .int
theorem nmJ9 : ∀ a, a < 0 → ∀ b, b < 0 → a ≠ b → (TJ9 a).2.1 ≠ (TJ9 b).2.1 := by decide +kernel
theorem tyJ9_ok : ∀ k, k < 0 → parseFieldDescriptor (TJ9 k).2.2.1 = some (tyJ9 k) := by decide +kernel
abbrev cJ9_abs_0f7a4 : ByteArray := prog_11_method_59_code
def yJ9_abs_0f7a4 : MethodName := ⟨RJ9, "abs", "(I)I"⟩
abbrev cJ9_max_7cf53 : ByteArray := prog_11_method_65_code
def yJ9_max_7cf53 : MethodName := ⟨RJ9, "max", "(II)I"⟩
abbrev cJ9_min_7cf53 : ByteArray := prog_11_method_69_code
def yJ9_min_7cf53 : MethodName := ⟨RJ9, "min", "(II)I"⟩
def RJ0 : String := "java/lang/String"
def TJ0 : u_T := fun k => match k with
  | _ => ("", "", "", false)
def tyJ0 : Nat → FieldType := fun k => match k with
  | _ => .int
theorem nmJ0 : ∀ a, a < 0 → ∀ b, b < 0 → a ≠ b → (TJ0 a).2.1 ≠ (TJ0 b).2.1 := by decide +kernel
theorem tyJ0_ok : ∀ k, k < 0 → parseFieldDescriptor (TJ0 k).2.2.1 = some (tyJ0 k) := by decide +kernel
abbrev cJ0_length_8abf5 : ByteArray := prog_12_method_54_code
def yJ0_length_8abf5 : MethodName := ⟨RJ0, "length", "()I"⟩
abbrev cJ0_charAt_5068e : ByteArray := prog_12_method_56_code
def yJ0_charAt_5068e : MethodName := ⟨RJ0, "charAt", "(I)C"⟩
abbrev cJ0_coder_7d493 : ByteArray := prog_12_method_152_code
def yJ0_coder_7d493 : MethodName := ⟨RJ0, "coder", "()B"⟩
abbrev cJ0_isLatin1_aae02 : ByteArray := prog_12_method_154_code
def yJ0_isLatin1_aae02 : MethodName := ⟨RJ0, "isLatin1", "()Z"⟩
abbrev cJ0_checkIndex_df160 : ByteArray := prog_12_method_155_code
def yJ0_checkIndex_df160 : MethodName := ⟨RJ0, "checkIndex", "(II)V"⟩
def RJ1 : String := "java/lang/StringLatin1"
def TJ1 : u_T := fun k => match k with
  | _ => ("", "", "", false)
def tyJ1 : Nat → FieldType := fun k => match k with
  | _ => .int
theorem nmJ1 : ∀ a, a < 0 → ∀ b, b < 0 → a ≠ b → (TJ1 a).2.1 ≠ (TJ1 b).2.1 := by decide +kernel
theorem tyJ1_ok : ∀ k, k < 0 → parseFieldDescriptor (TJ1 k).2.2.1 = some (tyJ1 k) := by decide +kernel
abbrev cJ1_charAt_3b067 : ByteArray := prog_13_method_2_code
def yJ1_charAt_3b067 : MethodName := ⟨RJ1, "charAt", "([BI)C"⟩
def RJ2 : String := "java/lang/StringUTF16"
def TJ2 : u_T := fun k => match k with
  | _ => ("", "", "", false)
def tyJ2 : Nat → FieldType := fun k => match k with
  | _ => .int
theorem nmJ2 : ∀ a, a < 0 → ∀ b, b < 0 → a ≠ b → (TJ2 a).2.1 ≠ (TJ2 b).2.1 := by decide +kernel
theorem tyJ2_ok : ∀ k, k < 0 → parseFieldDescriptor (TJ2 k).2.2.1 = some (tyJ2 k) := by decide +kernel
abbrev cJ2_getChar_3b067 : ByteArray := prog_14_method_5_code
def yJ2_getChar_3b067 : MethodName := ⟨RJ2, "getChar", "([BI)C"⟩
abbrev cJ2_length_9d52b : ByteArray := prog_14_method_6_code
def yJ2_length_9d52b : MethodName := ⟨RJ2, "length", "([B)I"⟩
abbrev cJ2_charAt_3b067 : ByteArray := prog_14_method_83_code
def yJ2_charAt_3b067 : MethodName := ⟨RJ2, "charAt", "([BI)C"⟩
abbrev cJ2_checkIndex_2214a : ByteArray := prog_14_method_91_code
def yJ2_checkIndex_2214a : MethodName := ⟨RJ2, "checkIndex", "(I[B)V"⟩
def RJ10 : String := "java/lang/System"
def TJ10 : u_T := fun k => match k with
  | _ => ("", "", "", false)
def tyJ10 : Nat → FieldType := fun k => match k with
  | _ => .int
theorem nmJ10 : ∀ a, a < 0 → ∀ b, b < 0 → a ≠ b → (TJ10 a).2.1 ≠ (TJ10 b).2.1 := by decide +kernel
theorem tyJ10_ok : ∀ k, k < 0 → parseFieldDescriptor (TJ10 k).2.2.1 = some (tyJ10 k) := by decide +kernel
def RJ3 : String := "jdk/internal/util/Preconditions"
def TJ3 : u_T := fun k => match k with
  | _ => ("", "", "", false)
def tyJ3 : Nat → FieldType := fun k => match k with
  | _ => .int
theorem nmJ3 : ∀ a, a < 0 → ∀ b, b < 0 → a ≠ b → (TJ3 a).2.1 ≠ (TJ3 b).2.1 := by decide +kernel
theorem tyJ3_ok : ∀ k, k < 0 → parseFieldDescriptor (TJ3 k).2.2.1 = some (tyJ3 k) := by decide +kernel
abbrev cJ3_checkIndex_8e157 : ByteArray := prog_16_method_11_code
def yJ3_checkIndex_8e157 : MethodName := ⟨RJ3, "checkIndex", "(IILjava/util/function/BiFunction;)I"⟩
def RL : String := "HueLeaseLaw"
abbrev cL_law : ByteArray := code
def yL_law : MethodName := ⟨RL, "law", "([I)Z"⟩
abbrev vwCl : List vw_C := [(RX0, TX0, 11), (RX1, TX1, 4), (RX2, TX2, 6), (RX3, TX3, 3), (RX4, TX4, 11), (RX5, TX5, 5), (RX6, TX6, 12), (RX7, TX7, 33)]
end
section
theorem dX0_init_0 : decode cX0_init 0 = .ok (.aload_n 0, 1) := by decide +kernel
theorem dX0_init_1 : decode cX0_init 1 = .ok (.invokespecial 3, 3) := by decide +kernel
theorem dX0_init_4 : decode cX0_init 4 = .ok (.aload_n 0, 1) := by decide +kernel
theorem dX0_init_5 : decode cX0_init 5 = .ok (.iconst 5, 1) := by decide +kernel
theorem dX0_init_6 : decode cX0_init 6 = .ok (.newarray .int, 2) := by decide +kernel
theorem dX0_init_8 : decode cX0_init 8 = .ok (.putfield 9, 3) := by decide +kernel
theorem dX0_init_11 : decode cX0_init 11 = .ok (.aload_n 0, 1) := by decide +kernel
theorem dX0_init_12 : decode cX0_init 12 = .ok (.bipush 15, 2) := by decide +kernel
theorem dX0_init_14 : decode cX0_init 14 = .ok (.newarray .int, 2) := by decide +kernel
theorem dX0_init_16 : decode cX0_init 16 = .ok (.putfield 15, 3) := by decide +kernel
theorem dX0_init_19 : decode cX0_init 19 = .ok (.aload_n 0, 1) := by decide +kernel
theorem dX0_init_20 : decode cX0_init 20 = .ok (.iconst 5, 1) := by decide +kernel
theorem dX0_init_21 : decode cX0_init 21 = .ok (.newarray .int, 2) := by decide +kernel
theorem dX0_init_23 : decode cX0_init 23 = .ok (.putfield 18, 3) := by decide +kernel
theorem dX0_init_26 : decode cX0_init 26 = .ok (.aload_n 0, 1) := by decide +kernel
theorem dX0_init_27 : decode cX0_init 27 = .ok (.iconst 4, 1) := by decide +kernel
theorem dX0_init_28 : decode cX0_init 28 = .ok (.newarray .int, 2) := by decide +kernel
theorem dX0_init_30 : decode cX0_init 30 = .ok (.putfield 21, 3) := by decide +kernel
theorem dX0_init_33 : decode cX0_init 33 = .ok (.aload_n 0, 1) := by decide +kernel
theorem dX0_init_34 : decode cX0_init 34 = .ok (.iconst 4, 1) := by decide +kernel
theorem dX0_init_35 : decode cX0_init 35 = .ok (.newarray .int, 2) := by decide +kernel
theorem dX0_init_37 : decode cX0_init 37 = .ok (.putfield 24, 3) := by decide +kernel
theorem dX0_init_40 : decode cX0_init 40 = .ok (.aload_n 0, 1) := by decide +kernel
theorem dX0_init_41 : decode cX0_init 41 = .ok (.bipush 20, 2) := by decide +kernel
theorem dX0_init_43 : decode cX0_init 43 = .ok (.newarray .int, 2) := by decide +kernel
theorem dX0_init_45 : decode cX0_init 45 = .ok (.putfield 27, 3) := by decide +kernel
theorem dX0_init_48 : decode cX0_init 48 = .ok (.return_, 1) := by decide +kernel
theorem dX0_takeFrom_0 : decode cX0_takeFrom 0 = .ok (.aload_n 0, 1) := by decide +kernel
theorem dX0_takeFrom_1 : decode cX0_takeFrom 1 = .ok (.aload_n 1, 1) := by decide +kernel
theorem dX0_takeFrom_2 : decode cX0_takeFrom 2 = .ok (.getfield 30, 3) := by decide +kernel
theorem dX0_takeFrom_5 : decode cX0_takeFrom 5 = .ok (.putfield 30, 3) := by decide +kernel
theorem dX0_takeFrom_8 : decode cX0_takeFrom 8 = .ok (.aload_n 0, 1) := by decide +kernel
theorem dX0_takeFrom_9 : decode cX0_takeFrom 9 = .ok (.aload_n 1, 1) := by decide +kernel
theorem dX0_takeFrom_10 : decode cX0_takeFrom 10 = .ok (.getfield 34, 3) := by decide +kernel
theorem dX0_takeFrom_13 : decode cX0_takeFrom 13 = .ok (.putfield 34, 3) := by decide +kernel
theorem dX0_takeFrom_16 : decode cX0_takeFrom 16 = .ok (.aload_n 0, 1) := by decide +kernel
theorem dX0_takeFrom_17 : decode cX0_takeFrom 17 = .ok (.aload_n 1, 1) := by decide +kernel
theorem dX0_takeFrom_18 : decode cX0_takeFrom 18 = .ok (.getfield 37, 3) := by decide +kernel
theorem dX0_takeFrom_21 : decode cX0_takeFrom 21 = .ok (.putfield 37, 3) := by decide +kernel
theorem dX0_takeFrom_24 : decode cX0_takeFrom 24 = .ok (.aload_n 0, 1) := by decide +kernel
theorem dX0_takeFrom_25 : decode cX0_takeFrom 25 = .ok (.aload_n 1, 1) := by decide +kernel
theorem dX0_takeFrom_26 : decode cX0_takeFrom 26 = .ok (.getfield 40, 3) := by decide +kernel
theorem dX0_takeFrom_29 : decode cX0_takeFrom 29 = .ok (.putfield 40, 3) := by decide +kernel
theorem dX0_takeFrom_32 : decode cX0_takeFrom 32 = .ok (.aload_n 0, 1) := by decide +kernel
theorem dX0_takeFrom_33 : decode cX0_takeFrom 33 = .ok (.iconst 0, 1) := by decide +kernel
theorem dX0_takeFrom_34 : decode cX0_takeFrom 34 = .ok (.putfield 43, 3) := by decide +kernel
theorem dX0_takeFrom_37 : decode cX0_takeFrom 37 = .ok (.aload_n 1, 1) := by decide +kernel
theorem dX0_takeFrom_38 : decode cX0_takeFrom 38 = .ok (.getfield 9, 3) := by decide +kernel
theorem dX0_takeFrom_41 : decode cX0_takeFrom 41 = .ok (.iconst 0, 1) := by decide +kernel
theorem dX0_takeFrom_42 : decode cX0_takeFrom 42 = .ok (.aload_n 0, 1) := by decide +kernel
theorem dX0_takeFrom_43 : decode cX0_takeFrom 43 = .ok (.getfield 9, 3) := by decide +kernel
theorem dX0_takeFrom_46 : decode cX0_takeFrom 46 = .ok (.iconst 0, 1) := by decide +kernel
theorem dX0_takeFrom_47 : decode cX0_takeFrom 47 = .ok (.iconst 5, 1) := by decide +kernel
theorem dX0_takeFrom_48 : decode cX0_takeFrom 48 = .ok (.invokestatic 46, 3) := by decide +kernel
theorem dX0_takeFrom_51 : decode cX0_takeFrom 51 = .ok (.aload_n 1, 1) := by decide +kernel
theorem dX0_takeFrom_52 : decode cX0_takeFrom 52 = .ok (.getfield 15, 3) := by decide +kernel
theorem dX0_takeFrom_55 : decode cX0_takeFrom 55 = .ok (.iconst 0, 1) := by decide +kernel
theorem dX0_takeFrom_56 : decode cX0_takeFrom 56 = .ok (.aload_n 0, 1) := by decide +kernel
theorem dX0_takeFrom_57 : decode cX0_takeFrom 57 = .ok (.getfield 15, 3) := by decide +kernel
theorem dX0_takeFrom_60 : decode cX0_takeFrom 60 = .ok (.iconst 0, 1) := by decide +kernel
theorem dX0_takeFrom_61 : decode cX0_takeFrom 61 = .ok (.bipush 15, 2) := by decide +kernel
theorem dX0_takeFrom_63 : decode cX0_takeFrom 63 = .ok (.invokestatic 46, 3) := by decide +kernel
theorem dX0_takeFrom_66 : decode cX0_takeFrom 66 = .ok (.aload_n 1, 1) := by decide +kernel
theorem dX0_takeFrom_67 : decode cX0_takeFrom 67 = .ok (.getfield 18, 3) := by decide +kernel
theorem dX0_takeFrom_70 : decode cX0_takeFrom 70 = .ok (.iconst 0, 1) := by decide +kernel
theorem dX0_takeFrom_71 : decode cX0_takeFrom 71 = .ok (.aload_n 0, 1) := by decide +kernel
theorem dX0_takeFrom_72 : decode cX0_takeFrom 72 = .ok (.getfield 18, 3) := by decide +kernel
theorem dX0_takeFrom_75 : decode cX0_takeFrom 75 = .ok (.iconst 0, 1) := by decide +kernel
theorem dX0_takeFrom_76 : decode cX0_takeFrom 76 = .ok (.iconst 5, 1) := by decide +kernel
theorem dX0_takeFrom_77 : decode cX0_takeFrom 77 = .ok (.invokestatic 46, 3) := by decide +kernel
theorem dX0_takeFrom_80 : decode cX0_takeFrom 80 = .ok (.aload_n 1, 1) := by decide +kernel
theorem dX0_takeFrom_81 : decode cX0_takeFrom 81 = .ok (.getfield 21, 3) := by decide +kernel
theorem dX0_takeFrom_84 : decode cX0_takeFrom 84 = .ok (.iconst 0, 1) := by decide +kernel
theorem dX0_takeFrom_85 : decode cX0_takeFrom 85 = .ok (.aload_n 0, 1) := by decide +kernel
theorem dX0_takeFrom_86 : decode cX0_takeFrom 86 = .ok (.getfield 21, 3) := by decide +kernel
theorem dX0_takeFrom_89 : decode cX0_takeFrom 89 = .ok (.iconst 0, 1) := by decide +kernel
theorem dX0_takeFrom_90 : decode cX0_takeFrom 90 = .ok (.iconst 4, 1) := by decide +kernel
theorem dX0_takeFrom_91 : decode cX0_takeFrom 91 = .ok (.invokestatic 46, 3) := by decide +kernel
theorem dX0_takeFrom_94 : decode cX0_takeFrom 94 = .ok (.aload_n 1, 1) := by decide +kernel
theorem dX0_takeFrom_95 : decode cX0_takeFrom 95 = .ok (.getfield 24, 3) := by decide +kernel
theorem dX0_takeFrom_98 : decode cX0_takeFrom 98 = .ok (.iconst 0, 1) := by decide +kernel
theorem dX0_takeFrom_99 : decode cX0_takeFrom 99 = .ok (.aload_n 0, 1) := by decide +kernel
theorem dX0_takeFrom_100 : decode cX0_takeFrom 100 = .ok (.getfield 24, 3) := by decide +kernel
theorem dX0_takeFrom_103 : decode cX0_takeFrom 103 = .ok (.iconst 0, 1) := by decide +kernel
theorem dX0_takeFrom_104 : decode cX0_takeFrom 104 = .ok (.iconst 4, 1) := by decide +kernel
theorem dX0_takeFrom_105 : decode cX0_takeFrom 105 = .ok (.invokestatic 46, 3) := by decide +kernel
theorem dX0_takeFrom_108 : decode cX0_takeFrom 108 = .ok (.aload_n 1, 1) := by decide +kernel
theorem dX0_takeFrom_109 : decode cX0_takeFrom 109 = .ok (.getfield 27, 3) := by decide +kernel
theorem dX0_takeFrom_112 : decode cX0_takeFrom 112 = .ok (.iconst 0, 1) := by decide +kernel
theorem dX0_takeFrom_113 : decode cX0_takeFrom 113 = .ok (.aload_n 0, 1) := by decide +kernel
theorem dX0_takeFrom_114 : decode cX0_takeFrom 114 = .ok (.getfield 27, 3) := by decide +kernel
theorem dX0_takeFrom_117 : decode cX0_takeFrom 117 = .ok (.iconst 0, 1) := by decide +kernel
theorem dX0_takeFrom_118 : decode cX0_takeFrom 118 = .ok (.bipush 20, 2) := by decide +kernel
theorem dX0_takeFrom_120 : decode cX0_takeFrom 120 = .ok (.invokestatic 46, 3) := by decide +kernel
theorem dX0_takeFrom_123 : decode cX0_takeFrom 123 = .ok (.return_, 1) := by decide +kernel
theorem dX0_hasColour_0 : decode cX0_hasColour 0 = .ok (.iload_n 1, 1) := by decide +kernel
theorem dX0_hasColour_1 : decode cX0_hasColour 1 = .ok (.iconst 0, 1) := by decide +kernel
theorem dX0_hasColour_2 : decode cX0_hasColour 2 = .ok (.aload_n 0, 1) := by decide +kernel
theorem dX0_hasColour_3 : decode cX0_hasColour 3 = .ok (.getfield 30, 3) := by decide +kernel
theorem dX0_hasColour_6 : decode cX0_hasColour 6 = .ok (.iconst 1, 1) := by decide +kernel
theorem dX0_hasColour_7 : decode cX0_hasColour 7 = .ok (.isub, 1) := by decide +kernel
theorem dX0_hasColour_8 : decode cX0_hasColour 8 = .ok (.invokestatic 52, 3) := by decide +kernel
theorem dX0_hasColour_11 : decode cX0_hasColour 11 = .ok (.ireturn, 1) := by decide +kernel
theorem dX0_hasOne_0 : decode cX0_hasOne 0 = .ok (.iload_n 1, 1) := by decide +kernel
theorem dX0_hasOne_1 : decode cX0_hasOne 1 = .ok (.iconst 0, 1) := by decide +kernel
theorem dX0_hasOne_2 : decode cX0_hasOne 2 = .ok (.aload_n 0, 1) := by decide +kernel
theorem dX0_hasOne_3 : decode cX0_hasOne 3 = .ok (.getfield 34, 3) := by decide +kernel
theorem dX0_hasOne_6 : decode cX0_hasOne 6 = .ok (.iconst 1, 1) := by decide +kernel
theorem dX0_hasOne_7 : decode cX0_hasOne 7 = .ok (.isub, 1) := by decide +kernel
theorem dX0_hasOne_8 : decode cX0_hasOne 8 = .ok (.invokestatic 52, 3) := by decide +kernel
theorem dX0_hasOne_11 : decode cX0_hasOne 11 = .ok (.ireturn, 1) := by decide +kernel
theorem dX0_inVats_0 : decode cX0_inVats 0 = .ok (.aload_n 0, 1) := by decide +kernel
theorem dX0_inVats_1 : decode cX0_inVats 1 = .ok (.getfield 18, 3) := by decide +kernel
theorem dX0_inVats_4 : decode cX0_inVats 4 = .ok (.iconst 0, 1) := by decide +kernel
theorem dX0_inVats_5 : decode cX0_inVats 5 = .ok (.aload_n 0, 1) := by decide +kernel
theorem dX0_inVats_6 : decode cX0_inVats 6 = .ok (.getfield 30, 3) := by decide +kernel
theorem dX0_inVats_9 : decode cX0_inVats 9 = .ok (.invokestatic 56, 3) := by decide +kernel
theorem dX0_inVats_12 : decode cX0_inVats 12 = .ok (.ireturn, 1) := by decide +kernel
theorem dX0_heldBy_0 : decode cX0_heldBy 0 = .ok (.aload_n 0, 1) := by decide +kernel
theorem dX0_heldBy_1 : decode cX0_heldBy 1 = .ok (.getfield 27, 3) := by decide +kernel
theorem dX0_heldBy_4 : decode cX0_heldBy 4 = .ok (.iload_n 1, 1) := by decide +kernel
theorem dX0_heldBy_5 : decode cX0_heldBy 5 = .ok (.iconst 5, 1) := by decide +kernel
theorem dX0_heldBy_6 : decode cX0_heldBy 6 = .ok (.imul, 1) := by decide +kernel
theorem dX0_heldBy_7 : decode cX0_heldBy 7 = .ok (.aload_n 0, 1) := by decide +kernel
theorem dX0_heldBy_8 : decode cX0_heldBy 8 = .ok (.getfield 30, 3) := by decide +kernel
theorem dX0_heldBy_11 : decode cX0_heldBy 11 = .ok (.invokestatic 56, 3) := by decide +kernel
theorem dX0_heldBy_14 : decode cX0_heldBy 14 = .ok (.ireturn, 1) := by decide +kernel
theorem dX0_heldByAll_0 : decode cX0_heldByAll 0 = .ok (.aload_n 0, 1) := by decide +kernel
theorem dX0_heldByAll_1 : decode cX0_heldByAll 1 = .ok (.getfield 27, 3) := by decide +kernel
theorem dX0_heldByAll_4 : decode cX0_heldByAll 4 = .ok (.iconst 0, 1) := by decide +kernel
theorem dX0_heldByAll_5 : decode cX0_heldByAll 5 = .ok (.aload_n 0, 1) := by decide +kernel
theorem dX0_heldByAll_6 : decode cX0_heldByAll 6 = .ok (.getfield 34, 3) := by decide +kernel
theorem dX0_heldByAll_9 : decode cX0_heldByAll 9 = .ok (.iconst 5, 1) := by decide +kernel
theorem dX0_heldByAll_10 : decode cX0_heldByAll 10 = .ok (.imul, 1) := by decide +kernel
theorem dX0_heldByAll_11 : decode cX0_heldByAll 11 = .ok (.invokestatic 56, 3) := by decide +kernel
theorem dX0_heldByAll_14 : decode cX0_heldByAll 14 = .ok (.ireturn, 1) := by decide +kernel
theorem dX0_heldOf_0 : decode cX0_heldOf 0 = .ok (.iconst 0, 1) := by decide +kernel
theorem dX0_heldOf_1 : decode cX0_heldOf 1 = .ok (.istore_n 2, 1) := by decide +kernel
theorem dX0_heldOf_2 : decode cX0_heldOf 2 = .ok (.iconst 0, 1) := by decide +kernel
theorem dX0_heldOf_3 : decode cX0_heldOf 3 = .ok (.istore_n 3, 1) := by decide +kernel
theorem dX0_heldOf_4 : decode cX0_heldOf 4 = .ok (.iload_n 3, 1) := by decide +kernel
theorem dX0_heldOf_5 : decode cX0_heldOf 5 = .ok (.aload_n 0, 1) := by decide +kernel
theorem dX0_heldOf_6 : decode cX0_heldOf 6 = .ok (.getfield 34, 3) := by decide +kernel
theorem dX0_heldOf_9 : decode cX0_heldOf 9 = .ok (.if_icmp .ge 22, 3) := by decide +kernel
theorem dX0_heldOf_12 : decode cX0_heldOf 12 = .ok (.iload_n 2, 1) := by decide +kernel
theorem dX0_heldOf_13 : decode cX0_heldOf 13 = .ok (.aload_n 0, 1) := by decide +kernel
theorem dX0_heldOf_14 : decode cX0_heldOf 14 = .ok (.getfield 27, 3) := by decide +kernel
theorem dX0_heldOf_17 : decode cX0_heldOf 17 = .ok (.iload_n 3, 1) := by decide +kernel
theorem dX0_heldOf_18 : decode cX0_heldOf 18 = .ok (.iconst 5, 1) := by decide +kernel
theorem dX0_heldOf_19 : decode cX0_heldOf 19 = .ok (.imul, 1) := by decide +kernel
theorem dX0_heldOf_20 : decode cX0_heldOf 20 = .ok (.iload_n 1, 1) := by decide +kernel
theorem dX0_heldOf_21 : decode cX0_heldOf 21 = .ok (.iadd, 1) := by decide +kernel
theorem dX0_heldOf_22 : decode cX0_heldOf 22 = .ok (.iaload, 1) := by decide +kernel
theorem dX0_heldOf_23 : decode cX0_heldOf 23 = .ok (.iadd, 1) := by decide +kernel
theorem dX0_heldOf_24 : decode cX0_heldOf 24 = .ok (.istore_n 2, 1) := by decide +kernel
theorem dX0_heldOf_25 : decode cX0_heldOf 25 = .ok (.iinc 3 1, 3) := by decide +kernel
theorem dX0_heldOf_28 : decode cX0_heldOf 28 = .ok (.goto (-24), 3) := by decide +kernel
theorem dX0_heldOf_31 : decode cX0_heldOf 31 = .ok (.iload_n 2, 1) := by decide +kernel
theorem dX0_heldOf_32 : decode cX0_heldOf 32 = .ok (.ireturn, 1) := by decide +kernel
theorem dX0_rentOf_0 : decode cX0_rentOf 0 = .ok (.getstatic 60, 3) := by decide +kernel
theorem dX0_rentOf_3 : decode cX0_rentOf 3 = .ok (.aload_n 0, 1) := by decide +kernel
theorem dX0_rentOf_4 : decode cX0_rentOf 4 = .ok (.getfield 9, 3) := by decide +kernel
theorem dX0_rentOf_7 : decode cX0_rentOf 7 = .ok (.iload_n 1, 1) := by decide +kernel
theorem dX0_rentOf_8 : decode cX0_rentOf 8 = .ok (.iaload, 1) := by decide +kernel
theorem dX0_rentOf_9 : decode cX0_rentOf 9 = .ok (.iaload, 1) := by decide +kernel
theorem dX0_rentOf_10 : decode cX0_rentOf 10 = .ok (.ireturn, 1) := by decide +kernel
theorem dX0_rentOfDrops_0 : decode cX0_rentOfDrops 0 = .ok (.iconst 0, 1) := by decide +kernel
theorem dX0_rentOfDrops_1 : decode cX0_rentOfDrops 1 = .ok (.istore_n 3, 1) := by decide +kernel
theorem dX0_rentOfDrops_2 : decode cX0_rentOfDrops 2 = .ok (.iconst 0, 1) := by decide +kernel
theorem dX0_rentOfDrops_3 : decode cX0_rentOfDrops 3 = .ok (.istore 4, 2) := by decide +kernel
theorem dX0_rentOfDrops_5 : decode cX0_rentOfDrops 5 = .ok (.iload 4, 2) := by decide +kernel
theorem dX0_rentOfDrops_7 : decode cX0_rentOfDrops 7 = .ok (.aload_n 0, 1) := by decide +kernel
theorem dX0_rentOfDrops_8 : decode cX0_rentOfDrops 8 = .ok (.getfield 30, 3) := by decide +kernel
theorem dX0_rentOfDrops_11 : decode cX0_rentOfDrops 11 = .ok (.if_icmp .ge 25, 3) := by decide +kernel
theorem dX0_rentOfDrops_14 : decode cX0_rentOfDrops 14 = .ok (.iload_n 3, 1) := by decide +kernel
theorem dX0_rentOfDrops_15 : decode cX0_rentOfDrops 15 = .ok (.aload_n 1, 1) := by decide +kernel
theorem dX0_rentOfDrops_16 : decode cX0_rentOfDrops 16 = .ok (.iload_n 2, 1) := by decide +kernel
theorem dX0_rentOfDrops_17 : decode cX0_rentOfDrops 17 = .ok (.iload 4, 2) := by decide +kernel
theorem dX0_rentOfDrops_19 : decode cX0_rentOfDrops 19 = .ok (.iadd, 1) := by decide +kernel
theorem dX0_rentOfDrops_20 : decode cX0_rentOfDrops 20 = .ok (.iaload, 1) := by decide +kernel
theorem dX0_rentOfDrops_21 : decode cX0_rentOfDrops 21 = .ok (.aload_n 0, 1) := by decide +kernel
theorem dX0_rentOfDrops_22 : decode cX0_rentOfDrops 22 = .ok (.iload 4, 2) := by decide +kernel
theorem dX0_rentOfDrops_24 : decode cX0_rentOfDrops 24 = .ok (.invokevirtual 63, 3) := by decide +kernel
theorem dX0_rentOfDrops_27 : decode cX0_rentOfDrops 27 = .ok (.imul, 1) := by decide +kernel
theorem dX0_rentOfDrops_28 : decode cX0_rentOfDrops 28 = .ok (.iadd, 1) := by decide +kernel
theorem dX0_rentOfDrops_29 : decode cX0_rentOfDrops 29 = .ok (.istore_n 3, 1) := by decide +kernel
theorem dX0_rentOfDrops_30 : decode cX0_rentOfDrops 30 = .ok (.iinc 4 1, 3) := by decide +kernel
theorem dX0_rentOfDrops_33 : decode cX0_rentOfDrops 33 = .ok (.goto (-28), 3) := by decide +kernel
theorem dX0_rentOfDrops_36 : decode cX0_rentOfDrops 36 = .ok (.iload_n 3, 1) := by decide +kernel
theorem dX0_rentOfDrops_37 : decode cX0_rentOfDrops 37 = .ok (.ireturn, 1) := by decide +kernel
theorem dX0_hueOfDrops_0 : decode cX0_hueOfDrops 0 = .ok (.aload_n 1, 1) := by decide +kernel
theorem dX0_hueOfDrops_1 : decode cX0_hueOfDrops 1 = .ok (.iload_n 2, 1) := by decide +kernel
theorem dX0_hueOfDrops_2 : decode cX0_hueOfDrops 2 = .ok (.aload_n 0, 1) := by decide +kernel
theorem dX0_hueOfDrops_3 : decode cX0_hueOfDrops 3 = .ok (.getfield 30, 3) := by decide +kernel
theorem dX0_hueOfDrops_6 : decode cX0_hueOfDrops 6 = .ok (.invokestatic 56, 3) := by decide +kernel
theorem dX0_hueOfDrops_9 : decode cX0_hueOfDrops 9 = .ok (.istore_n 3, 1) := by decide +kernel
theorem dX0_hueOfDrops_10 : decode cX0_hueOfDrops 10 = .ok (.iload_n 3, 1) := by decide +kernel
theorem dX0_hueOfDrops_11 : decode cX0_hueOfDrops 11 = .ok (.ifCond .gt 5, 3) := by decide +kernel
theorem dX0_hueOfDrops_14 : decode cX0_hueOfDrops 14 = .ok (.iconst 0, 1) := by decide +kernel
theorem dX0_hueOfDrops_15 : decode cX0_hueOfDrops 15 = .ok (.ireturn, 1) := by decide +kernel
theorem dX0_hueOfDrops_16 : decode cX0_hueOfDrops 16 = .ok (.iconst 0, 1) := by decide +kernel
theorem dX0_hueOfDrops_17 : decode cX0_hueOfDrops 17 = .ok (.istore 4, 2) := by decide +kernel
theorem dX0_hueOfDrops_19 : decode cX0_hueOfDrops 19 = .ok (.iconst 0, 1) := by decide +kernel
theorem dX0_hueOfDrops_20 : decode cX0_hueOfDrops 20 = .ok (.istore 5, 2) := by decide +kernel
theorem dX0_hueOfDrops_22 : decode cX0_hueOfDrops 22 = .ok (.iload 5, 2) := by decide +kernel
theorem dX0_hueOfDrops_24 : decode cX0_hueOfDrops 24 = .ok (.iconst 3, 1) := by decide +kernel
theorem dX0_hueOfDrops_25 : decode cX0_hueOfDrops 25 = .ok (.if_icmp .ge 66, 3) := by decide +kernel
theorem dX0_hueOfDrops_28 : decode cX0_hueOfDrops 28 = .ok (.iconst 0, 1) := by decide +kernel
theorem dX0_hueOfDrops_29 : decode cX0_hueOfDrops 29 = .ok (.istore 6, 2) := by decide +kernel
theorem dX0_hueOfDrops_31 : decode cX0_hueOfDrops 31 = .ok (.iconst 0, 1) := by decide +kernel
theorem dX0_hueOfDrops_32 : decode cX0_hueOfDrops 32 = .ok (.istore 7, 2) := by decide +kernel
theorem dX0_hueOfDrops_34 : decode cX0_hueOfDrops 34 = .ok (.iload 7, 2) := by decide +kernel
theorem dX0_hueOfDrops_36 : decode cX0_hueOfDrops 36 = .ok (.aload_n 0, 1) := by decide +kernel
theorem dX0_hueOfDrops_37 : decode cX0_hueOfDrops 37 = .ok (.getfield 30, 3) := by decide +kernel
theorem dX0_hueOfDrops_40 : decode cX0_hueOfDrops 40 = .ok (.if_icmp .ge 33, 3) := by decide +kernel
theorem dX0_hueOfDrops_43 : decode cX0_hueOfDrops 43 = .ok (.iload 6, 2) := by decide +kernel
theorem dX0_hueOfDrops_45 : decode cX0_hueOfDrops 45 = .ok (.aload_n 1, 1) := by decide +kernel
theorem dX0_hueOfDrops_46 : decode cX0_hueOfDrops 46 = .ok (.iload_n 2, 1) := by decide +kernel
theorem dX0_hueOfDrops_47 : decode cX0_hueOfDrops 47 = .ok (.iload 7, 2) := by decide +kernel
theorem dX0_hueOfDrops_49 : decode cX0_hueOfDrops 49 = .ok (.iadd, 1) := by decide +kernel
theorem dX0_hueOfDrops_50 : decode cX0_hueOfDrops 50 = .ok (.iaload, 1) := by decide +kernel
theorem dX0_hueOfDrops_51 : decode cX0_hueOfDrops 51 = .ok (.aload_n 0, 1) := by decide +kernel
theorem dX0_hueOfDrops_52 : decode cX0_hueOfDrops 52 = .ok (.getfield 15, 3) := by decide +kernel
theorem dX0_hueOfDrops_55 : decode cX0_hueOfDrops 55 = .ok (.iconst 3, 1) := by decide +kernel
theorem dX0_hueOfDrops_56 : decode cX0_hueOfDrops 56 = .ok (.iload 7, 2) := by decide +kernel
theorem dX0_hueOfDrops_58 : decode cX0_hueOfDrops 58 = .ok (.imul, 1) := by decide +kernel
theorem dX0_hueOfDrops_59 : decode cX0_hueOfDrops 59 = .ok (.iload 5, 2) := by decide +kernel
theorem dX0_hueOfDrops_61 : decode cX0_hueOfDrops 61 = .ok (.iadd, 1) := by decide +kernel
theorem dX0_hueOfDrops_62 : decode cX0_hueOfDrops 62 = .ok (.iaload, 1) := by decide +kernel
theorem dX0_hueOfDrops_63 : decode cX0_hueOfDrops 63 = .ok (.imul, 1) := by decide +kernel
theorem dX0_hueOfDrops_64 : decode cX0_hueOfDrops 64 = .ok (.iadd, 1) := by decide +kernel
theorem dX0_hueOfDrops_65 : decode cX0_hueOfDrops 65 = .ok (.istore 6, 2) := by decide +kernel
theorem dX0_hueOfDrops_67 : decode cX0_hueOfDrops 67 = .ok (.iinc 7 1, 3) := by decide +kernel
theorem dX0_hueOfDrops_70 : decode cX0_hueOfDrops 70 = .ok (.goto (-36), 3) := by decide +kernel
theorem dX0_hueOfDrops_73 : decode cX0_hueOfDrops 73 = .ok (.bipush 10, 2) := by decide +kernel
theorem dX0_hueOfDrops_75 : decode cX0_hueOfDrops 75 = .ok (.iload 4, 2) := by decide +kernel
theorem dX0_hueOfDrops_77 : decode cX0_hueOfDrops 77 = .ok (.imul, 1) := by decide +kernel
theorem dX0_hueOfDrops_78 : decode cX0_hueOfDrops 78 = .ok (.iload 6, 2) := by decide +kernel
theorem dX0_hueOfDrops_80 : decode cX0_hueOfDrops 80 = .ok (.iload_n 3, 1) := by decide +kernel
theorem dX0_hueOfDrops_81 : decode cX0_hueOfDrops 81 = .ok (.idiv, 1) := by decide +kernel
theorem dX0_hueOfDrops_82 : decode cX0_hueOfDrops 82 = .ok (.iadd, 1) := by decide +kernel
theorem dX0_hueOfDrops_83 : decode cX0_hueOfDrops 83 = .ok (.istore 4, 2) := by decide +kernel
theorem dX0_hueOfDrops_85 : decode cX0_hueOfDrops 85 = .ok (.iinc 5 1, 3) := by decide +kernel
theorem dX0_hueOfDrops_88 : decode cX0_hueOfDrops 88 = .ok (.goto (-66), 3) := by decide +kernel
theorem dX0_hueOfDrops_91 : decode cX0_hueOfDrops 91 = .ok (.iload 4, 2) := by decide +kernel
theorem dX0_hueOfDrops_93 : decode cX0_hueOfDrops 93 = .ok (.ireturn, 1) := by decide +kernel
theorem dX0_hueOfOne_0 : decode cX0_hueOfOne 0 = .ok (.aload_n 0, 1) := by decide +kernel
theorem dX0_hueOfOne_1 : decode cX0_hueOfOne 1 = .ok (.aload_n 0, 1) := by decide +kernel
theorem dX0_hueOfOne_2 : decode cX0_hueOfOne 2 = .ok (.getfield 27, 3) := by decide +kernel
theorem dX0_hueOfOne_5 : decode cX0_hueOfOne 5 = .ok (.iload_n 1, 1) := by decide +kernel
theorem dX0_hueOfOne_6 : decode cX0_hueOfOne 6 = .ok (.iconst 5, 1) := by decide +kernel
theorem dX0_hueOfOne_7 : decode cX0_hueOfOne 7 = .ok (.imul, 1) := by decide +kernel
theorem dX0_hueOfOne_8 : decode cX0_hueOfOne 8 = .ok (.invokevirtual 67, 3) := by decide +kernel
theorem dX0_hueOfOne_11 : decode cX0_hueOfOne 11 = .ok (.ireturn, 1) := by decide +kernel
theorem dX0_giveLoan_0 : decode cX0_giveLoan 0 = .ok (.aload_n 0, 1) := by decide +kernel
theorem dX0_giveLoan_1 : decode cX0_giveLoan 1 = .ok (.iload_n 1, 1) := by decide +kernel
theorem dX0_giveLoan_2 : decode cX0_giveLoan 2 = .ok (.invokevirtual 71, 3) := by decide +kernel
theorem dX0_giveLoan_5 : decode cX0_giveLoan 5 = .ok (.ifCond .eq 21, 3) := by decide +kernel
theorem dX0_giveLoan_8 : decode cX0_giveLoan 8 = .ok (.aload_n 0, 1) := by decide +kernel
theorem dX0_giveLoan_9 : decode cX0_giveLoan 9 = .ok (.iload_n 2, 1) := by decide +kernel
theorem dX0_giveLoan_10 : decode cX0_giveLoan 10 = .ok (.invokevirtual 75, 3) := by decide +kernel
theorem dX0_giveLoan_13 : decode cX0_giveLoan 13 = .ok (.ifCond .eq 13, 3) := by decide +kernel
theorem dX0_giveLoan_16 : decode cX0_giveLoan 16 = .ok (.iload_n 3, 1) := by decide +kernel
theorem dX0_giveLoan_17 : decode cX0_giveLoan 17 = .ok (.iconst 1, 1) := by decide +kernel
theorem dX0_giveLoan_18 : decode cX0_giveLoan 18 = .ok (.bipush 99, 2) := by decide +kernel
theorem dX0_giveLoan_20 : decode cX0_giveLoan 20 = .ok (.invokestatic 52, 3) := by decide +kernel
theorem dX0_giveLoan_23 : decode cX0_giveLoan 23 = .ok (.ifCond .ne 5, 3) := by decide +kernel
theorem dX0_giveLoan_26 : decode cX0_giveLoan 26 = .ok (.iconst (-1), 1) := by decide +kernel
theorem dX0_giveLoan_27 : decode cX0_giveLoan 27 = .ok (.ireturn, 1) := by decide +kernel
theorem dX0_giveLoan_28 : decode cX0_giveLoan 28 = .ok (.iload_n 1, 1) := by decide +kernel
theorem dX0_giveLoan_29 : decode cX0_giveLoan 29 = .ok (.iconst 5, 1) := by decide +kernel
theorem dX0_giveLoan_30 : decode cX0_giveLoan 30 = .ok (.imul, 1) := by decide +kernel
theorem dX0_giveLoan_31 : decode cX0_giveLoan 31 = .ok (.iload_n 2, 1) := by decide +kernel
theorem dX0_giveLoan_32 : decode cX0_giveLoan 32 = .ok (.iadd, 1) := by decide +kernel
theorem dX0_giveLoan_33 : decode cX0_giveLoan 33 = .ok (.istore 4, 2) := by decide +kernel
theorem dX0_giveLoan_35 : decode cX0_giveLoan 35 = .ok (.aload_n 0, 1) := by decide +kernel
theorem dX0_giveLoan_36 : decode cX0_giveLoan 36 = .ok (.getfield 18, 3) := by decide +kernel
theorem dX0_giveLoan_39 : decode cX0_giveLoan 39 = .ok (.iload_n 2, 1) := by decide +kernel
theorem dX0_giveLoan_40 : decode cX0_giveLoan 40 = .ok (.iaload, 1) := by decide +kernel
theorem dX0_giveLoan_41 : decode cX0_giveLoan 41 = .ok (.iload_n 3, 1) := by decide +kernel
theorem dX0_giveLoan_42 : decode cX0_giveLoan 42 = .ok (.if_icmp .lt 17, 3) := by decide +kernel
theorem dX0_giveLoan_45 : decode cX0_giveLoan 45 = .ok (.aload_n 0, 1) := by decide +kernel
theorem dX0_giveLoan_46 : decode cX0_giveLoan 46 = .ok (.getfield 27, 3) := by decide +kernel
theorem dX0_giveLoan_49 : decode cX0_giveLoan 49 = .ok (.iload 4, 2) := by decide +kernel
theorem dX0_giveLoan_51 : decode cX0_giveLoan 51 = .ok (.iaload, 1) := by decide +kernel
theorem dX0_giveLoan_52 : decode cX0_giveLoan 52 = .ok (.iload_n 3, 1) := by decide +kernel
theorem dX0_giveLoan_53 : decode cX0_giveLoan 53 = .ok (.iadd, 1) := by decide +kernel
theorem dX0_giveLoan_54 : decode cX0_giveLoan 54 = .ok (.bipush 99, 2) := by decide +kernel
theorem dX0_giveLoan_56 : decode cX0_giveLoan 56 = .ok (.if_icmp .le 6, 3) := by decide +kernel
theorem dX0_giveLoan_59 : decode cX0_giveLoan 59 = .ok (.bipush (-2), 2) := by decide +kernel
theorem dX0_giveLoan_61 : decode cX0_giveLoan 61 = .ok (.ireturn, 1) := by decide +kernel
theorem dX0_giveLoan_62 : decode cX0_giveLoan 62 = .ok (.aload_n 0, 1) := by decide +kernel
theorem dX0_giveLoan_63 : decode cX0_giveLoan 63 = .ok (.getfield 18, 3) := by decide +kernel
theorem dX0_giveLoan_66 : decode cX0_giveLoan 66 = .ok (.iload_n 2, 1) := by decide +kernel
theorem dX0_giveLoan_67 : decode cX0_giveLoan 67 = .ok (.dup2, 1) := by decide +kernel
theorem dX0_giveLoan_68 : decode cX0_giveLoan 68 = .ok (.iaload, 1) := by decide +kernel
theorem dX0_giveLoan_69 : decode cX0_giveLoan 69 = .ok (.iload_n 3, 1) := by decide +kernel
theorem dX0_giveLoan_70 : decode cX0_giveLoan 70 = .ok (.isub, 1) := by decide +kernel
theorem dX0_giveLoan_71 : decode cX0_giveLoan 71 = .ok (.iastore, 1) := by decide +kernel
theorem dX0_giveLoan_72 : decode cX0_giveLoan 72 = .ok (.aload_n 0, 1) := by decide +kernel
theorem dX0_giveLoan_73 : decode cX0_giveLoan 73 = .ok (.getfield 27, 3) := by decide +kernel
theorem dX0_giveLoan_76 : decode cX0_giveLoan 76 = .ok (.iload 4, 2) := by decide +kernel
theorem dX0_giveLoan_78 : decode cX0_giveLoan 78 = .ok (.dup2, 1) := by decide +kernel
theorem dX0_giveLoan_79 : decode cX0_giveLoan 79 = .ok (.iaload, 1) := by decide +kernel
theorem dX0_giveLoan_80 : decode cX0_giveLoan 80 = .ok (.iload_n 3, 1) := by decide +kernel
theorem dX0_giveLoan_81 : decode cX0_giveLoan 81 = .ok (.iadd, 1) := by decide +kernel
theorem dX0_giveLoan_82 : decode cX0_giveLoan 82 = .ok (.iastore, 1) := by decide +kernel
theorem dX0_giveLoan_83 : decode cX0_giveLoan 83 = .ok (.aload_n 0, 1) := by decide +kernel
theorem dX0_giveLoan_84 : decode cX0_giveLoan 84 = .ok (.getfield 27, 3) := by decide +kernel
theorem dX0_giveLoan_87 : decode cX0_giveLoan 87 = .ok (.iload 4, 2) := by decide +kernel
theorem dX0_giveLoan_89 : decode cX0_giveLoan 89 = .ok (.iaload, 1) := by decide +kernel
theorem dX0_giveLoan_90 : decode cX0_giveLoan 90 = .ok (.ireturn, 1) := by decide +kernel
theorem dX0_takeBack_0 : decode cX0_takeBack 0 = .ok (.aload_n 0, 1) := by decide +kernel
theorem dX0_takeBack_1 : decode cX0_takeBack 1 = .ok (.getfield 27, 3) := by decide +kernel
theorem dX0_takeBack_4 : decode cX0_takeBack 4 = .ok (.iload_n 1, 1) := by decide +kernel
theorem dX0_takeBack_5 : decode cX0_takeBack 5 = .ok (.iconst 5, 1) := by decide +kernel
theorem dX0_takeBack_6 : decode cX0_takeBack 6 = .ok (.imul, 1) := by decide +kernel
theorem dX0_takeBack_7 : decode cX0_takeBack 7 = .ok (.iload_n 2, 1) := by decide +kernel
theorem dX0_takeBack_8 : decode cX0_takeBack 8 = .ok (.iadd, 1) := by decide +kernel
theorem dX0_takeBack_9 : decode cX0_takeBack 9 = .ok (.dup2, 1) := by decide +kernel
theorem dX0_takeBack_10 : decode cX0_takeBack 10 = .ok (.iaload, 1) := by decide +kernel
theorem dX0_takeBack_11 : decode cX0_takeBack 11 = .ok (.iload_n 3, 1) := by decide +kernel
theorem dX0_takeBack_12 : decode cX0_takeBack 12 = .ok (.isub, 1) := by decide +kernel
theorem dX0_takeBack_13 : decode cX0_takeBack 13 = .ok (.iastore, 1) := by decide +kernel
theorem dX0_takeBack_14 : decode cX0_takeBack 14 = .ok (.aload_n 0, 1) := by decide +kernel
theorem dX0_takeBack_15 : decode cX0_takeBack 15 = .ok (.getfield 18, 3) := by decide +kernel
theorem dX0_takeBack_18 : decode cX0_takeBack 18 = .ok (.iload_n 2, 1) := by decide +kernel
theorem dX0_takeBack_19 : decode cX0_takeBack 19 = .ok (.bipush 99, 2) := by decide +kernel
theorem dX0_takeBack_21 : decode cX0_takeBack 21 = .ok (.aload_n 0, 1) := by decide +kernel
theorem dX0_takeBack_22 : decode cX0_takeBack 22 = .ok (.getfield 18, 3) := by decide +kernel
theorem dX0_takeBack_25 : decode cX0_takeBack 25 = .ok (.iload_n 2, 1) := by decide +kernel
theorem dX0_takeBack_26 : decode cX0_takeBack 26 = .ok (.iaload, 1) := by decide +kernel
theorem dX0_takeBack_27 : decode cX0_takeBack 27 = .ok (.iload_n 3, 1) := by decide +kernel
theorem dX0_takeBack_28 : decode cX0_takeBack 28 = .ok (.iadd, 1) := by decide +kernel
theorem dX0_takeBack_29 : decode cX0_takeBack 29 = .ok (.invokestatic 78, 3) := by decide +kernel
theorem dX0_takeBack_32 : decode cX0_takeBack 32 = .ok (.iastore, 1) := by decide +kernel
theorem dX0_takeBack_33 : decode cX0_takeBack 33 = .ok (.return_, 1) := by decide +kernel
theorem dX0_passDays_0 : decode cX0_passDays 0 = .ok (.iconst 0, 1) := by decide +kernel
theorem dX0_passDays_1 : decode cX0_passDays 1 = .ok (.istore_n 2, 1) := by decide +kernel
theorem dX0_passDays_2 : decode cX0_passDays 2 = .ok (.iload_n 2, 1) := by decide +kernel
theorem dX0_passDays_3 : decode cX0_passDays 3 = .ok (.iload_n 1, 1) := by decide +kernel
theorem dX0_passDays_4 : decode cX0_passDays 4 = .ok (.if_icmp .ge 14, 3) := by decide +kernel
theorem dX0_passDays_7 : decode cX0_passDays 7 = .ok (.aload_n 0, 1) := by decide +kernel
theorem dX0_passDays_8 : decode cX0_passDays 8 = .ok (.iconst 1, 1) := by decide +kernel
theorem dX0_passDays_9 : decode cX0_passDays 9 = .ok (.invokevirtual 84, 3) := by decide +kernel
theorem dX0_passDays_12 : decode cX0_passDays 12 = .ok (.iinc 2 1, 3) := by decide +kernel
theorem dX0_passDays_15 : decode cX0_passDays 15 = .ok (.goto (-13), 3) := by decide +kernel
theorem dX0_passDays_18 : decode cX0_passDays 18 = .ok (.return_, 1) := by decide +kernel
theorem dX0_passDaysOfOne_0 : decode cX0_passDaysOfOne 0 = .ok (.iconst 0, 1) := by decide +kernel
theorem dX0_passDaysOfOne_1 : decode cX0_passDaysOfOne 1 = .ok (.istore_n 3, 1) := by decide +kernel
theorem dX0_passDaysOfOne_2 : decode cX0_passDaysOfOne 2 = .ok (.iload_n 3, 1) := by decide +kernel
theorem dX0_passDaysOfOne_3 : decode cX0_passDaysOfOne 3 = .ok (.iload_n 2, 1) := by decide +kernel
theorem dX0_passDaysOfOne_4 : decode cX0_passDaysOfOne 4 = .ok (.if_icmp .ge 15, 3) := by decide +kernel
theorem dX0_passDaysOfOne_7 : decode cX0_passDaysOfOne 7 = .ok (.aload_n 0, 1) := by decide +kernel
theorem dX0_passDaysOfOne_8 : decode cX0_passDaysOfOne 8 = .ok (.iload_n 1, 1) := by decide +kernel
theorem dX0_passDaysOfOne_9 : decode cX0_passDaysOfOne 9 = .ok (.iconst 1, 1) := by decide +kernel
theorem dX0_passDaysOfOne_10 : decode cX0_passDaysOfOne 10 = .ok (.invokevirtual 88, 3) := by decide +kernel
theorem dX0_passDaysOfOne_13 : decode cX0_passDaysOfOne 13 = .ok (.iinc 3 1, 3) := by decide +kernel
theorem dX0_passDaysOfOne_16 : decode cX0_passDaysOfOne 16 = .ok (.goto (-14), 3) := by decide +kernel
theorem dX0_passDaysOfOne_19 : decode cX0_passDaysOfOne 19 = .ok (.return_, 1) := by decide +kernel
theorem dX0_passDay_0 : decode cX0_passDay 0 = .ok (.iconst 0, 1) := by decide +kernel
theorem dX0_passDay_1 : decode cX0_passDay 1 = .ok (.istore_n 2, 1) := by decide +kernel
theorem dX0_passDay_2 : decode cX0_passDay 2 = .ok (.iload_n 2, 1) := by decide +kernel
theorem dX0_passDay_3 : decode cX0_passDay 3 = .ok (.aload_n 0, 1) := by decide +kernel
theorem dX0_passDay_4 : decode cX0_passDay 4 = .ok (.getfield 34, 3) := by decide +kernel
theorem dX0_passDay_7 : decode cX0_passDay 7 = .ok (.if_icmp .ge 15, 3) := by decide +kernel
theorem dX0_passDay_10 : decode cX0_passDay 10 = .ok (.aload_n 0, 1) := by decide +kernel
theorem dX0_passDay_11 : decode cX0_passDay 11 = .ok (.iload_n 2, 1) := by decide +kernel
theorem dX0_passDay_12 : decode cX0_passDay 12 = .ok (.iload_n 1, 1) := by decide +kernel
theorem dX0_passDay_13 : decode cX0_passDay 13 = .ok (.invokevirtual 88, 3) := by decide +kernel
theorem dX0_passDay_16 : decode cX0_passDay 16 = .ok (.iinc 2 1, 3) := by decide +kernel
theorem dX0_passDay_19 : decode cX0_passDay 19 = .ok (.goto (-17), 3) := by decide +kernel
theorem dX0_passDay_22 : decode cX0_passDay 22 = .ok (.aload_n 0, 1) := by decide +kernel
theorem dX0_passDay_23 : decode cX0_passDay 23 = .ok (.dup, 1) := by decide +kernel
theorem dX0_passDay_24 : decode cX0_passDay 24 = .ok (.getfield 37, 3) := by decide +kernel
theorem dX0_passDay_27 : decode cX0_passDay 27 = .ok (.iconst 1, 1) := by decide +kernel
theorem dX0_passDay_28 : decode cX0_passDay 28 = .ok (.iadd, 1) := by decide +kernel
theorem dX0_passDay_29 : decode cX0_passDay 29 = .ok (.putfield 37, 3) := by decide +kernel
theorem dX0_passDay_32 : decode cX0_passDay 32 = .ok (.return_, 1) := by decide +kernel
theorem dX0_passDayOfOne_0 : decode cX0_passDayOfOne 0 = .ok (.aload_n 0, 1) := by decide +kernel
theorem dX0_passDayOfOne_1 : decode cX0_passDayOfOne 1 = .ok (.getfield 21, 3) := by decide +kernel
theorem dX0_passDayOfOne_4 : decode cX0_passDayOfOne 4 = .ok (.iload_n 1, 1) := by decide +kernel
theorem dX0_passDayOfOne_5 : decode cX0_passDayOfOne 5 = .ok (.sipush 999, 3) := by decide +kernel
theorem dX0_passDayOfOne_8 : decode cX0_passDayOfOne 8 = .ok (.aload_n 0, 1) := by decide +kernel
theorem dX0_passDayOfOne_9 : decode cX0_passDayOfOne 9 = .ok (.getfield 21, 3) := by decide +kernel
theorem dX0_passDayOfOne_12 : decode cX0_passDayOfOne 12 = .ok (.iload_n 1, 1) := by decide +kernel
theorem dX0_passDayOfOne_13 : decode cX0_passDayOfOne 13 = .ok (.iaload, 1) := by decide +kernel
theorem dX0_passDayOfOne_14 : decode cX0_passDayOfOne 14 = .ok (.aload_n 0, 1) := by decide +kernel
theorem dX0_passDayOfOne_15 : decode cX0_passDayOfOne 15 = .ok (.getfield 24, 3) := by decide +kernel
theorem dX0_passDayOfOne_18 : decode cX0_passDayOfOne 18 = .ok (.iload_n 1, 1) := by decide +kernel
theorem dX0_passDayOfOne_19 : decode cX0_passDayOfOne 19 = .ok (.iaload, 1) := by decide +kernel
theorem dX0_passDayOfOne_20 : decode cX0_passDayOfOne 20 = .ok (.iadd, 1) := by decide +kernel
theorem dX0_passDayOfOne_21 : decode cX0_passDayOfOne 21 = .ok (.invokestatic 78, 3) := by decide +kernel
theorem dX0_passDayOfOne_24 : decode cX0_passDayOfOne 24 = .ok (.iastore, 1) := by decide +kernel
theorem dX0_passDayOfOne_25 : decode cX0_passDayOfOne 25 = .ok (.iconst 0, 1) := by decide +kernel
theorem dX0_passDayOfOne_26 : decode cX0_passDayOfOne 26 = .ok (.istore_n 3, 1) := by decide +kernel
theorem dX0_passDayOfOne_27 : decode cX0_passDayOfOne 27 = .ok (.iload_n 3, 1) := by decide +kernel
theorem dX0_passDayOfOne_28 : decode cX0_passDayOfOne 28 = .ok (.aload_n 0, 1) := by decide +kernel
theorem dX0_passDayOfOne_29 : decode cX0_passDayOfOne 29 = .ok (.getfield 30, 3) := by decide +kernel
theorem dX0_passDayOfOne_32 : decode cX0_passDayOfOne 32 = .ok (.if_icmp .ge 125, 3) := by decide +kernel
theorem dX0_passDayOfOne_35 : decode cX0_passDayOfOne 35 = .ok (.iload_n 1, 1) := by decide +kernel
theorem dX0_passDayOfOne_36 : decode cX0_passDayOfOne 36 = .ok (.iconst 5, 1) := by decide +kernel
theorem dX0_passDayOfOne_37 : decode cX0_passDayOfOne 37 = .ok (.imul, 1) := by decide +kernel
theorem dX0_passDayOfOne_38 : decode cX0_passDayOfOne 38 = .ok (.iload_n 3, 1) := by decide +kernel
theorem dX0_passDayOfOne_39 : decode cX0_passDayOfOne 39 = .ok (.iadd, 1) := by decide +kernel
theorem dX0_passDayOfOne_40 : decode cX0_passDayOfOne 40 = .ok (.istore 4, 2) := by decide +kernel
theorem dX0_passDayOfOne_42 : decode cX0_passDayOfOne 42 = .ok (.aload_n 0, 1) := by decide +kernel
theorem dX0_passDayOfOne_43 : decode cX0_passDayOfOne 43 = .ok (.getfield 27, 3) := by decide +kernel
theorem dX0_passDayOfOne_46 : decode cX0_passDayOfOne 46 = .ok (.iload 4, 2) := by decide +kernel
theorem dX0_passDayOfOne_48 : decode cX0_passDayOfOne 48 = .ok (.iaload, 1) := by decide +kernel
theorem dX0_passDayOfOne_49 : decode cX0_passDayOfOne 49 = .ok (.istore 5, 2) := by decide +kernel
theorem dX0_passDayOfOne_51 : decode cX0_passDayOfOne 51 = .ok (.iload 5, 2) := by decide +kernel
theorem dX0_passDayOfOne_53 : decode cX0_passDayOfOne 53 = .ok (.aload_n 0, 1) := by decide +kernel
theorem dX0_passDayOfOne_54 : decode cX0_passDayOfOne 54 = .ok (.iload_n 3, 1) := by decide +kernel
theorem dX0_passDayOfOne_55 : decode cX0_passDayOfOne 55 = .ok (.invokevirtual 63, 3) := by decide +kernel
theorem dX0_passDayOfOne_58 : decode cX0_passDayOfOne 58 = .ok (.imul, 1) := by decide +kernel
theorem dX0_passDayOfOne_59 : decode cX0_passDayOfOne 59 = .ok (.istore 6, 2) := by decide +kernel
theorem dX0_passDayOfOne_61 : decode cX0_passDayOfOne 61 = .ok (.iload 5, 2) := by decide +kernel
theorem dX0_passDayOfOne_63 : decode cX0_passDayOfOne 63 = .ok (.ifCond .le 65, 3) := by decide +kernel
theorem dX0_passDayOfOne_66 : decode cX0_passDayOfOne 66 = .ok (.aload_n 0, 1) := by decide +kernel
theorem dX0_passDayOfOne_67 : decode cX0_passDayOfOne 67 = .ok (.getfield 21, 3) := by decide +kernel
theorem dX0_passDayOfOne_70 : decode cX0_passDayOfOne 70 = .ok (.iload_n 1, 1) := by decide +kernel
theorem dX0_passDayOfOne_71 : decode cX0_passDayOfOne 71 = .ok (.iaload, 1) := by decide +kernel
theorem dX0_passDayOfOne_72 : decode cX0_passDayOfOne 72 = .ok (.iload 6, 2) := by decide +kernel
theorem dX0_passDayOfOne_74 : decode cX0_passDayOfOne 74 = .ok (.if_icmp .lt 54, 3) := by decide +kernel
theorem dX0_passDayOfOne_77 : decode cX0_passDayOfOne 77 = .ok (.aload_n 0, 1) := by decide +kernel
theorem dX0_passDayOfOne_78 : decode cX0_passDayOfOne 78 = .ok (.getfield 21, 3) := by decide +kernel
theorem dX0_passDayOfOne_81 : decode cX0_passDayOfOne 81 = .ok (.iload_n 1, 1) := by decide +kernel
theorem dX0_passDayOfOne_82 : decode cX0_passDayOfOne 82 = .ok (.dup2, 1) := by decide +kernel
theorem dX0_passDayOfOne_83 : decode cX0_passDayOfOne 83 = .ok (.iaload, 1) := by decide +kernel
theorem dX0_passDayOfOne_84 : decode cX0_passDayOfOne 84 = .ok (.iload 6, 2) := by decide +kernel
theorem dX0_passDayOfOne_86 : decode cX0_passDayOfOne 86 = .ok (.isub, 1) := by decide +kernel
theorem dX0_passDayOfOne_87 : decode cX0_passDayOfOne 87 = .ok (.iastore, 1) := by decide +kernel
theorem dX0_passDayOfOne_88 : decode cX0_passDayOfOne 88 = .ok (.aload_n 0, 1) := by decide +kernel
theorem dX0_passDayOfOne_89 : decode cX0_passDayOfOne 89 = .ok (.dup, 1) := by decide +kernel
theorem dX0_passDayOfOne_90 : decode cX0_passDayOfOne 90 = .ok (.getfield 43, 3) := by decide +kernel
theorem dX0_passDayOfOne_93 : decode cX0_passDayOfOne 93 = .ok (.iload 6, 2) := by decide +kernel
theorem dX0_passDayOfOne_95 : decode cX0_passDayOfOne 95 = .ok (.iadd, 1) := by decide +kernel
theorem dX0_passDayOfOne_96 : decode cX0_passDayOfOne 96 = .ok (.putfield 43, 3) := by decide +kernel
theorem dX0_passDayOfOne_99 : decode cX0_passDayOfOne 99 = .ok (.aload_n 0, 1) := by decide +kernel
theorem dX0_passDayOfOne_100 : decode cX0_passDayOfOne 100 = .ok (.getfield 27, 3) := by decide +kernel
theorem dX0_passDayOfOne_103 : decode cX0_passDayOfOne 103 = .ok (.iload 4, 2) := by decide +kernel
theorem dX0_passDayOfOne_105 : decode cX0_passDayOfOne 105 = .ok (.iconst 0, 1) := by decide +kernel
theorem dX0_passDayOfOne_106 : decode cX0_passDayOfOne 106 = .ok (.iload 5, 2) := by decide +kernel
theorem dX0_passDayOfOne_108 : decode cX0_passDayOfOne 108 = .ok (.iload_n 2, 1) := by decide +kernel
theorem dX0_passDayOfOne_109 : decode cX0_passDayOfOne 109 = .ok (.getstatic 92, 3) := by decide +kernel
theorem dX0_passDayOfOne_112 : decode cX0_passDayOfOne 112 = .ok (.aload_n 0, 1) := by decide +kernel
theorem dX0_passDayOfOne_113 : decode cX0_passDayOfOne 113 = .ok (.getfield 9, 3) := by decide +kernel
theorem dX0_passDayOfOne_116 : decode cX0_passDayOfOne 116 = .ok (.iload_n 3, 1) := by decide +kernel
theorem dX0_passDayOfOne_117 : decode cX0_passDayOfOne 117 = .ok (.iaload, 1) := by decide +kernel
theorem dX0_passDayOfOne_118 : decode cX0_passDayOfOne 118 = .ok (.iaload, 1) := by decide +kernel
theorem dX0_passDayOfOne_119 : decode cX0_passDayOfOne 119 = .ok (.imul, 1) := by decide +kernel
theorem dX0_passDayOfOne_120 : decode cX0_passDayOfOne 120 = .ok (.isub, 1) := by decide +kernel
theorem dX0_passDayOfOne_121 : decode cX0_passDayOfOne 121 = .ok (.invokestatic 95, 3) := by decide +kernel
theorem dX0_passDayOfOne_124 : decode cX0_passDayOfOne 124 = .ok (.iastore, 1) := by decide +kernel
theorem dX0_passDayOfOne_125 : decode cX0_passDayOfOne 125 = .ok (.goto 26, 3) := by decide +kernel
theorem dX0_passDayOfOne_128 : decode cX0_passDayOfOne 128 = .ok (.iload 5, 2) := by decide +kernel
theorem dX0_passDayOfOne_130 : decode cX0_passDayOfOne 130 = .ok (.ifCond .le 21, 3) := by decide +kernel
theorem dX0_passDayOfOne_133 : decode cX0_passDayOfOne 133 = .ok (.aload_n 0, 1) := by decide +kernel
theorem dX0_passDayOfOne_134 : decode cX0_passDayOfOne 134 = .ok (.iload_n 1, 1) := by decide +kernel
theorem dX0_passDayOfOne_135 : decode cX0_passDayOfOne 135 = .ok (.iload_n 3, 1) := by decide +kernel
theorem dX0_passDayOfOne_136 : decode cX0_passDayOfOne 136 = .ok (.iload 5, 2) := by decide +kernel
theorem dX0_passDayOfOne_138 : decode cX0_passDayOfOne 138 = .ok (.invokevirtual 98, 3) := by decide +kernel
theorem dX0_passDayOfOne_141 : decode cX0_passDayOfOne 141 = .ok (.aload_n 0, 1) := by decide +kernel
theorem dX0_passDayOfOne_142 : decode cX0_passDayOfOne 142 = .ok (.dup, 1) := by decide +kernel
theorem dX0_passDayOfOne_143 : decode cX0_passDayOfOne 143 = .ok (.getfield 40, 3) := by decide +kernel
theorem dX0_passDayOfOne_146 : decode cX0_passDayOfOne 146 = .ok (.iconst 1, 1) := by decide +kernel
theorem dX0_passDayOfOne_147 : decode cX0_passDayOfOne 147 = .ok (.iadd, 1) := by decide +kernel
theorem dX0_passDayOfOne_148 : decode cX0_passDayOfOne 148 = .ok (.putfield 40, 3) := by decide +kernel
theorem dX0_passDayOfOne_151 : decode cX0_passDayOfOne 151 = .ok (.iinc 3 1, 3) := by decide +kernel
theorem dX0_passDayOfOne_154 : decode cX0_passDayOfOne 154 = .ok (.goto (-127), 3) := by decide +kernel
theorem dX0_passDayOfOne_157 : decode cX0_passDayOfOne 157 = .ok (.return_, 1) := by decide +kernel
theorem dX1_init_0 : decode cX1_init 0 = .ok (.aload_n 0, 1) := by decide +kernel
theorem dX1_init_1 : decode cX1_init 1 = .ok (.invokespecial 3, 3) := by decide +kernel
theorem dX1_init_4 : decode cX1_init 4 = .ok (.aload_n 0, 1) := by decide +kernel
theorem dX1_init_5 : decode cX1_init 5 = .ok (.bipush 6, 2) := by decide +kernel
theorem dX1_init_7 : decode cX1_init 7 = .ok (.newarray .int, 2) := by decide +kernel
theorem dX1_init_9 : decode cX1_init 9 = .ok (.putfield 9, 3) := by decide +kernel
theorem dX1_init_12 : decode cX1_init 12 = .ok (.aload_n 0, 1) := by decide +kernel
theorem dX1_init_13 : decode cX1_init 13 = .ok (.bipush 6, 2) := by decide +kernel
theorem dX1_init_15 : decode cX1_init 15 = .ok (.newarray .int, 2) := by decide +kernel
theorem dX1_init_17 : decode cX1_init 17 = .ok (.putfield 15, 3) := by decide +kernel
theorem dX1_init_20 : decode cX1_init 20 = .ok (.aload_n 0, 1) := by decide +kernel
theorem dX1_init_21 : decode cX1_init 21 = .ok (.bipush 6, 2) := by decide +kernel
theorem dX1_init_23 : decode cX1_init 23 = .ok (.newarray .int, 2) := by decide +kernel
theorem dX1_init_25 : decode cX1_init 25 = .ok (.putfield 18, 3) := by decide +kernel
theorem dX1_init_28 : decode cX1_init 28 = .ok (.return_, 1) := by decide +kernel
theorem dX1_fit_0 : decode cX1_fit 0 = .ok (.aload_n 0, 1) := by decide +kernel
theorem dX1_fit_1 : decode cX1_fit 1 = .ok (.invokevirtual 21, 3) := by decide +kernel
theorem dX1_fit_4 : decode cX1_fit 4 = .ok (.istore_n 2, 1) := by decide +kernel
theorem dX1_fit_5 : decode cX1_fit 5 = .ok (.iconst 0, 1) := by decide +kernel
theorem dX1_fit_6 : decode cX1_fit 6 = .ok (.istore_n 3, 1) := by decide +kernel
theorem dX1_fit_7 : decode cX1_fit 7 = .ok (.iload_n 3, 1) := by decide +kernel
theorem dX1_fit_8 : decode cX1_fit 8 = .ok (.iload_n 2, 1) := by decide +kernel
theorem dX1_fit_9 : decode cX1_fit 9 = .ok (.if_icmp .gt 25, 3) := by decide +kernel
theorem dX1_fit_12 : decode cX1_fit 12 = .ok (.aload_n 0, 1) := by decide +kernel
theorem dX1_fit_13 : decode cX1_fit 13 = .ok (.aload_n 1, 1) := by decide +kernel
theorem dX1_fit_14 : decode cX1_fit 14 = .ok (.iload_n 3, 1) := by decide +kernel
theorem dX1_fit_15 : decode cX1_fit 15 = .ok (.invokevirtual 25, 3) := by decide +kernel
theorem dX1_fit_18 : decode cX1_fit 18 = .ok (.ifCond .ne 5, 3) := by decide +kernel
theorem dX1_fit_21 : decode cX1_fit 21 = .ok (.iconst 0, 1) := by decide +kernel
theorem dX1_fit_22 : decode cX1_fit 22 = .ok (.ireturn, 1) := by decide +kernel
theorem dX1_fit_23 : decode cX1_fit 23 = .ok (.aload_n 1, 1) := by decide +kernel
theorem dX1_fit_24 : decode cX1_fit 24 = .ok (.iconst 1, 1) := by decide +kernel
theorem dX1_fit_25 : decode cX1_fit 25 = .ok (.invokevirtual 29, 3) := by decide +kernel
theorem dX1_fit_28 : decode cX1_fit 28 = .ok (.iinc 3 1, 3) := by decide +kernel
theorem dX1_fit_31 : decode cX1_fit 31 = .ok (.goto (-24), 3) := by decide +kernel
theorem dX1_fit_34 : decode cX1_fit 34 = .ok (.iconst 1, 1) := by decide +kernel
theorem dX1_fit_35 : decode cX1_fit 35 = .ok (.ireturn, 1) := by decide +kernel
theorem dX1_fitOnDay_0 : decode cX1_fitOnDay 0 = .ok (.iconst 0, 1) := by decide +kernel
theorem dX1_fitOnDay_1 : decode cX1_fitOnDay 1 = .ok (.istore_n 3, 1) := by decide +kernel
theorem dX1_fitOnDay_2 : decode cX1_fitOnDay 2 = .ok (.iload_n 3, 1) := by decide +kernel
theorem dX1_fitOnDay_3 : decode cX1_fitOnDay 3 = .ok (.aload_n 0, 1) := by decide +kernel
theorem dX1_fitOnDay_4 : decode cX1_fitOnDay 4 = .ok (.getfield 35, 3) := by decide +kernel
theorem dX1_fitOnDay_7 : decode cX1_fitOnDay 7 = .ok (.if_icmp .ge 40, 3) := by decide +kernel
theorem dX1_fitOnDay_10 : decode cX1_fitOnDay 10 = .ok (.aload_n 0, 1) := by decide +kernel
theorem dX1_fitOnDay_11 : decode cX1_fitOnDay 11 = .ok (.getfield 9, 3) := by decide +kernel
theorem dX1_fitOnDay_14 : decode cX1_fitOnDay 14 = .ok (.iload_n 3, 1) := by decide +kernel
theorem dX1_fitOnDay_15 : decode cX1_fitOnDay 15 = .ok (.iaload, 1) := by decide +kernel
theorem dX1_fitOnDay_16 : decode cX1_fitOnDay 16 = .ok (.iload_n 2, 1) := by decide +kernel
theorem dX1_fitOnDay_17 : decode cX1_fitOnDay 17 = .ok (.if_icmp .ne 24, 3) := by decide +kernel
theorem dX1_fitOnDay_20 : decode cX1_fitOnDay 20 = .ok (.aload_n 1, 1) := by decide +kernel
theorem dX1_fitOnDay_21 : decode cX1_fitOnDay 21 = .ok (.aload_n 0, 1) := by decide +kernel
theorem dX1_fitOnDay_22 : decode cX1_fitOnDay 22 = .ok (.getfield 15, 3) := by decide +kernel
theorem dX1_fitOnDay_25 : decode cX1_fitOnDay 25 = .ok (.iload_n 3, 1) := by decide +kernel
theorem dX1_fitOnDay_26 : decode cX1_fitOnDay 26 = .ok (.iaload, 1) := by decide +kernel
theorem dX1_fitOnDay_27 : decode cX1_fitOnDay 27 = .ok (.invokevirtual 39, 3) := by decide +kernel
theorem dX1_fitOnDay_30 : decode cX1_fitOnDay 30 = .ok (.aload_n 0, 1) := by decide +kernel
theorem dX1_fitOnDay_31 : decode cX1_fitOnDay 31 = .ok (.getfield 18, 3) := by decide +kernel
theorem dX1_fitOnDay_34 : decode cX1_fitOnDay 34 = .ok (.iload_n 3, 1) := by decide +kernel
theorem dX1_fitOnDay_35 : decode cX1_fitOnDay 35 = .ok (.iaload, 1) := by decide +kernel
theorem dX1_fitOnDay_36 : decode cX1_fitOnDay 36 = .ok (.if_icmp .eq 5, 3) := by decide +kernel
theorem dX1_fitOnDay_39 : decode cX1_fitOnDay 39 = .ok (.iconst 0, 1) := by decide +kernel
theorem dX1_fitOnDay_40 : decode cX1_fitOnDay 40 = .ok (.ireturn, 1) := by decide +kernel
theorem dX1_fitOnDay_41 : decode cX1_fitOnDay 41 = .ok (.iinc 3 1, 3) := by decide +kernel
theorem dX1_fitOnDay_44 : decode cX1_fitOnDay 44 = .ok (.goto (-42), 3) := by decide +kernel
theorem dX1_fitOnDay_47 : decode cX1_fitOnDay 47 = .ok (.iconst 1, 1) := by decide +kernel
theorem dX1_fitOnDay_48 : decode cX1_fitOnDay 48 = .ok (.ireturn, 1) := by decide +kernel
theorem dX1_lastDay_0 : decode cX1_lastDay 0 = .ok (.iconst (-1), 1) := by decide +kernel
theorem dX1_lastDay_1 : decode cX1_lastDay 1 = .ok (.istore_n 1, 1) := by decide +kernel
theorem dX1_lastDay_2 : decode cX1_lastDay 2 = .ok (.iconst 0, 1) := by decide +kernel
theorem dX1_lastDay_3 : decode cX1_lastDay 3 = .ok (.istore_n 2, 1) := by decide +kernel
theorem dX1_lastDay_4 : decode cX1_lastDay 4 = .ok (.iload_n 2, 1) := by decide +kernel
theorem dX1_lastDay_5 : decode cX1_lastDay 5 = .ok (.aload_n 0, 1) := by decide +kernel
theorem dX1_lastDay_6 : decode cX1_lastDay 6 = .ok (.getfield 35, 3) := by decide +kernel
theorem dX1_lastDay_9 : decode cX1_lastDay 9 = .ok (.if_icmp .ge 20, 3) := by decide +kernel
theorem dX1_lastDay_12 : decode cX1_lastDay 12 = .ok (.iload_n 1, 1) := by decide +kernel
theorem dX1_lastDay_13 : decode cX1_lastDay 13 = .ok (.aload_n 0, 1) := by decide +kernel
theorem dX1_lastDay_14 : decode cX1_lastDay 14 = .ok (.getfield 9, 3) := by decide +kernel
theorem dX1_lastDay_17 : decode cX1_lastDay 17 = .ok (.iload_n 2, 1) := by decide +kernel
theorem dX1_lastDay_18 : decode cX1_lastDay 18 = .ok (.iaload, 1) := by decide +kernel
theorem dX1_lastDay_19 : decode cX1_lastDay 19 = .ok (.invokestatic 43, 3) := by decide +kernel
theorem dX1_lastDay_22 : decode cX1_lastDay 22 = .ok (.istore_n 1, 1) := by decide +kernel
theorem dX1_lastDay_23 : decode cX1_lastDay 23 = .ok (.iinc 2 1, 3) := by decide +kernel
theorem dX1_lastDay_26 : decode cX1_lastDay 26 = .ok (.goto (-22), 3) := by decide +kernel
theorem dX1_lastDay_29 : decode cX1_lastDay 29 = .ok (.iload_n 1, 1) := by decide +kernel
theorem dX1_lastDay_30 : decode cX1_lastDay 30 = .ok (.ireturn, 1) := by decide +kernel
theorem dX2_init_0 : decode cX2_init 0 = .ok (.aload_n 0, 1) := by decide +kernel
theorem dX2_init_1 : decode cX2_init 1 = .ok (.invokespecial 3, 3) := by decide +kernel
theorem dX2_init_4 : decode cX2_init 4 = .ok (.aload_n 0, 1) := by decide +kernel
theorem dX2_init_5 : decode cX2_init 5 = .ok (.iconst 5, 1) := by decide +kernel
theorem dX2_init_6 : decode cX2_init 6 = .ok (.newarray .int, 2) := by decide +kernel
theorem dX2_init_8 : decode cX2_init 8 = .ok (.putfield 9, 3) := by decide +kernel
theorem dX2_init_11 : decode cX2_init 11 = .ok (.aload_n 0, 1) := by decide +kernel
theorem dX2_init_12 : decode cX2_init 12 = .ok (.iconst 5, 1) := by decide +kernel
theorem dX2_init_13 : decode cX2_init 13 = .ok (.newarray .int, 2) := by decide +kernel
theorem dX2_init_15 : decode cX2_init 15 = .ok (.putfield 15, 3) := by decide +kernel
theorem dX2_init_18 : decode cX2_init 18 = .ok (.return_, 1) := by decide +kernel
theorem dX2_tryAll_0 : decode cX2_tryAll 0 = .ok (.aload_n 0, 1) := by decide +kernel
theorem dX2_tryAll_1 : decode cX2_tryAll 1 = .ok (.iload_n 2, 1) := by decide +kernel
theorem dX2_tryAll_2 : decode cX2_tryAll 2 = .ok (.putfield 18, 3) := by decide +kernel
theorem dX2_tryAll_5 : decode cX2_tryAll 5 = .ok (.aload_n 0, 1) := by decide +kernel
theorem dX2_tryAll_6 : decode cX2_tryAll 6 = .ok (.iload 4, 2) := by decide +kernel
theorem dX2_tryAll_8 : decode cX2_tryAll 8 = .ok (.putfield 22, 3) := by decide +kernel
theorem dX2_tryAll_11 : decode cX2_tryAll 11 = .ok (.aload_n 0, 1) := by decide +kernel
theorem dX2_tryAll_12 : decode cX2_tryAll 12 = .ok (.bipush 28, 2) := by decide +kernel
theorem dX2_tryAll_14 : decode cX2_tryAll 14 = .ok (.putfield 25, 3) := by decide +kernel
theorem dX2_tryAll_17 : decode cX2_tryAll 17 = .ok (.aload_n 0, 1) := by decide +kernel
theorem dX2_tryAll_18 : decode cX2_tryAll 18 = .ok (.bipush (-4), 2) := by decide +kernel
theorem dX2_tryAll_20 : decode cX2_tryAll 20 = .ok (.putfield 28, 3) := by decide +kernel
theorem dX2_tryAll_23 : decode cX2_tryAll 23 = .ok (.aload_n 0, 1) := by decide +kernel
theorem dX2_tryAll_24 : decode cX2_tryAll 24 = .ok (.aload_n 1, 1) := by decide +kernel
theorem dX2_tryAll_25 : decode cX2_tryAll 25 = .ok (.iconst 0, 1) := by decide +kernel
theorem dX2_tryAll_26 : decode cX2_tryAll 26 = .ok (.iload_n 3, 1) := by decide +kernel
theorem dX2_tryAll_27 : decode cX2_tryAll 27 = .ok (.invokevirtual 31, 3) := by decide +kernel
theorem dX2_tryAll_30 : decode cX2_tryAll 30 = .ok (.return_, 1) := by decide +kernel
theorem dX2_pickFrom_0 : decode cX2_pickFrom 0 = .ok (.iload_n 2, 1) := by decide +kernel
theorem dX2_pickFrom_1 : decode cX2_pickFrom 1 = .ok (.aload_n 1, 1) := by decide +kernel
theorem dX2_pickFrom_2 : decode cX2_pickFrom 2 = .ok (.getfield 35, 3) := by decide +kernel
theorem dX2_pickFrom_5 : decode cX2_pickFrom 5 = .ok (.if_icmp .ge 8, 3) := by decide +kernel
theorem dX2_pickFrom_8 : decode cX2_pickFrom 8 = .ok (.iload_n 2, 1) := by decide +kernel
theorem dX2_pickFrom_9 : decode cX2_pickFrom 9 = .ok (.iconst 5, 1) := by decide +kernel
theorem dX2_pickFrom_10 : decode cX2_pickFrom 10 = .ok (.if_icmp .lt 13, 3) := by decide +kernel
theorem dX2_pickFrom_13 : decode cX2_pickFrom 13 = .ok (.iload_n 3, 1) := by decide +kernel
theorem dX2_pickFrom_14 : decode cX2_pickFrom 14 = .ok (.ifCond .ne 8, 3) := by decide +kernel
theorem dX2_pickFrom_17 : decode cX2_pickFrom 17 = .ok (.aload_n 0, 1) := by decide +kernel
theorem dX2_pickFrom_18 : decode cX2_pickFrom 18 = .ok (.aload_n 1, 1) := by decide +kernel
theorem dX2_pickFrom_19 : decode cX2_pickFrom 19 = .ok (.invokevirtual 40, 3) := by decide +kernel
theorem dX2_pickFrom_22 : decode cX2_pickFrom 22 = .ok (.return_, 1) := by decide +kernel
theorem dX2_pickFrom_23 : decode cX2_pickFrom 23 = .ok (.iload_n 3, 1) := by decide +kernel
theorem dX2_pickFrom_24 : decode cX2_pickFrom 24 = .ok (.aload_n 1, 1) := by decide +kernel
theorem dX2_pickFrom_25 : decode cX2_pickFrom 25 = .ok (.getfield 44, 3) := by decide +kernel
theorem dX2_pickFrom_28 : decode cX2_pickFrom 28 = .ok (.iload_n 2, 1) := by decide +kernel
theorem dX2_pickFrom_29 : decode cX2_pickFrom 29 = .ok (.iaload, 1) := by decide +kernel
theorem dX2_pickFrom_30 : decode cX2_pickFrom 30 = .ok (.invokestatic 47, 3) := by decide +kernel
theorem dX2_pickFrom_33 : decode cX2_pickFrom 33 = .ok (.istore 4, 2) := by decide +kernel
theorem dX2_pickFrom_35 : decode cX2_pickFrom 35 = .ok (.iconst 0, 1) := by decide +kernel
theorem dX2_pickFrom_36 : decode cX2_pickFrom 36 = .ok (.istore 5, 2) := by decide +kernel
theorem dX2_pickFrom_38 : decode cX2_pickFrom 38 = .ok (.iload 5, 2) := by decide +kernel
theorem dX2_pickFrom_40 : decode cX2_pickFrom 40 = .ok (.iload 4, 2) := by decide +kernel
theorem dX2_pickFrom_42 : decode cX2_pickFrom 42 = .ok (.if_icmp .gt 29, 3) := by decide +kernel
theorem dX2_pickFrom_45 : decode cX2_pickFrom 45 = .ok (.aload_n 0, 1) := by decide +kernel
theorem dX2_pickFrom_46 : decode cX2_pickFrom 46 = .ok (.getfield 15, 3) := by decide +kernel
theorem dX2_pickFrom_49 : decode cX2_pickFrom 49 = .ok (.iload_n 2, 1) := by decide +kernel
theorem dX2_pickFrom_50 : decode cX2_pickFrom 50 = .ok (.iload 5, 2) := by decide +kernel
theorem dX2_pickFrom_52 : decode cX2_pickFrom 52 = .ok (.iastore, 1) := by decide +kernel
theorem dX2_pickFrom_53 : decode cX2_pickFrom 53 = .ok (.aload_n 0, 1) := by decide +kernel
theorem dX2_pickFrom_54 : decode cX2_pickFrom 54 = .ok (.aload_n 1, 1) := by decide +kernel
theorem dX2_pickFrom_55 : decode cX2_pickFrom 55 = .ok (.iload_n 2, 1) := by decide +kernel
theorem dX2_pickFrom_56 : decode cX2_pickFrom 56 = .ok (.iconst 1, 1) := by decide +kernel
theorem dX2_pickFrom_57 : decode cX2_pickFrom 57 = .ok (.iadd, 1) := by decide +kernel
theorem dX2_pickFrom_58 : decode cX2_pickFrom 58 = .ok (.iload_n 3, 1) := by decide +kernel
theorem dX2_pickFrom_59 : decode cX2_pickFrom 59 = .ok (.iload 5, 2) := by decide +kernel
theorem dX2_pickFrom_61 : decode cX2_pickFrom 61 = .ok (.isub, 1) := by decide +kernel
theorem dX2_pickFrom_62 : decode cX2_pickFrom 62 = .ok (.invokevirtual 31, 3) := by decide +kernel
theorem dX2_pickFrom_65 : decode cX2_pickFrom 65 = .ok (.iinc 5 1, 3) := by decide +kernel
theorem dX2_pickFrom_68 : decode cX2_pickFrom 68 = .ok (.goto (-30), 3) := by decide +kernel
theorem dX2_pickFrom_71 : decode cX2_pickFrom 71 = .ok (.return_, 1) := by decide +kernel
theorem dX2_weigh_0 : decode cX2_weigh 0 = .ok (.aload_n 1, 1) := by decide +kernel
theorem dX2_weigh_1 : decode cX2_weigh 1 = .ok (.aload_n 0, 1) := by decide +kernel
theorem dX2_weigh_2 : decode cX2_weigh 2 = .ok (.getfield 15, 3) := by decide +kernel
theorem dX2_weigh_5 : decode cX2_weigh 5 = .ok (.iconst 0, 1) := by decide +kernel
theorem dX2_weigh_6 : decode cX2_weigh 6 = .ok (.invokevirtual 53, 3) := by decide +kernel
theorem dX2_weigh_9 : decode cX2_weigh 9 = .ok (.aload_n 0, 1) := by decide +kernel
theorem dX2_weigh_10 : decode cX2_weigh 10 = .ok (.getfield 18, 3) := by decide +kernel
theorem dX2_weigh_13 : decode cX2_weigh 13 = .ok (.invokestatic 57, 3) := by decide +kernel
theorem dX2_weigh_16 : decode cX2_weigh 16 = .ok (.istore_n 2, 1) := by decide +kernel
theorem dX2_weigh_17 : decode cX2_weigh 17 = .ok (.iload_n 2, 1) := by decide +kernel
theorem dX2_weigh_18 : decode cX2_weigh 18 = .ok (.aload_n 0, 1) := by decide +kernel
theorem dX2_weigh_19 : decode cX2_weigh 19 = .ok (.getfield 25, 3) := by decide +kernel
theorem dX2_weigh_22 : decode cX2_weigh 22 = .ok (.if_icmp .ge 22, 3) := by decide +kernel
theorem dX2_weigh_25 : decode cX2_weigh 25 = .ok (.aload_n 0, 1) := by decide +kernel
theorem dX2_weigh_26 : decode cX2_weigh 26 = .ok (.iload_n 2, 1) := by decide +kernel
theorem dX2_weigh_27 : decode cX2_weigh 27 = .ok (.putfield 25, 3) := by decide +kernel
theorem dX2_weigh_30 : decode cX2_weigh 30 = .ok (.aload_n 0, 1) := by decide +kernel
theorem dX2_weigh_31 : decode cX2_weigh 31 = .ok (.getfield 15, 3) := by decide +kernel
theorem dX2_weigh_34 : decode cX2_weigh 34 = .ok (.iconst 0, 1) := by decide +kernel
theorem dX2_weigh_35 : decode cX2_weigh 35 = .ok (.aload_n 0, 1) := by decide +kernel
theorem dX2_weigh_36 : decode cX2_weigh 36 = .ok (.getfield 9, 3) := by decide +kernel
theorem dX2_weigh_39 : decode cX2_weigh 39 = .ok (.iconst 0, 1) := by decide +kernel
theorem dX2_weigh_40 : decode cX2_weigh 40 = .ok (.iconst 5, 1) := by decide +kernel
theorem dX2_weigh_41 : decode cX2_weigh 41 = .ok (.invokestatic 60, 3) := by decide +kernel
theorem dX2_weigh_44 : decode cX2_weigh 44 = .ok (.iload_n 2, 1) := by decide +kernel
theorem dX2_weigh_45 : decode cX2_weigh 45 = .ok (.aload_n 0, 1) := by decide +kernel
theorem dX2_weigh_46 : decode cX2_weigh 46 = .ok (.getfield 22, 3) := by decide +kernel
theorem dX2_weigh_49 : decode cX2_weigh 49 = .ok (.if_icmp .gt 38, 3) := by decide +kernel
theorem dX2_weigh_52 : decode cX2_weigh 52 = .ok (.aload_n 1, 1) := by decide +kernel
theorem dX2_weigh_53 : decode cX2_weigh 53 = .ok (.aload_n 0, 1) := by decide +kernel
theorem dX2_weigh_54 : decode cX2_weigh 54 = .ok (.getfield 15, 3) := by decide +kernel
theorem dX2_weigh_57 : decode cX2_weigh 57 = .ok (.iconst 0, 1) := by decide +kernel
theorem dX2_weigh_58 : decode cX2_weigh 58 = .ok (.invokevirtual 66, 3) := by decide +kernel
theorem dX2_weigh_61 : decode cX2_weigh 61 = .ok (.istore_n 3, 1) := by decide +kernel
theorem dX2_weigh_62 : decode cX2_weigh 62 = .ok (.aload_n 0, 1) := by decide +kernel
theorem dX2_weigh_63 : decode cX2_weigh 63 = .ok (.aload_n 0, 1) := by decide +kernel
theorem dX2_weigh_64 : decode cX2_weigh 64 = .ok (.getfield 28, 3) := by decide +kernel
theorem dX2_weigh_67 : decode cX2_weigh 67 = .ok (.bipush (-4), 2) := by decide +kernel
theorem dX2_weigh_69 : decode cX2_weigh 69 = .ok (.if_icmp .ne 7, 3) := by decide +kernel
theorem dX2_weigh_72 : decode cX2_weigh 72 = .ok (.iload_n 3, 1) := by decide +kernel
theorem dX2_weigh_73 : decode cX2_weigh 73 = .ok (.goto 11, 3) := by decide +kernel
theorem dX2_weigh_76 : decode cX2_weigh 76 = .ok (.aload_n 0, 1) := by decide +kernel
theorem dX2_weigh_77 : decode cX2_weigh 77 = .ok (.getfield 28, 3) := by decide +kernel
theorem dX2_weigh_80 : decode cX2_weigh 80 = .ok (.iload_n 3, 1) := by decide +kernel
theorem dX2_weigh_81 : decode cX2_weigh 81 = .ok (.invokestatic 47, 3) := by decide +kernel
theorem dX2_weigh_84 : decode cX2_weigh 84 = .ok (.putfield 28, 3) := by decide +kernel
theorem dX2_weigh_87 : decode cX2_weigh 87 = .ok (.return_, 1) := by decide +kernel
theorem dX3_init_0 : decode cX3_init 0 = .ok (.aload_n 0, 1) := by decide +kernel
theorem dX3_init_1 : decode cX3_init 1 = .ok (.invokespecial 3, 3) := by decide +kernel
theorem dX3_init_4 : decode cX3_init 4 = .ok (.aload_n 0, 1) := by decide +kernel
theorem dX3_init_5 : decode cX3_init 5 = .ok (.iconst (-1), 1) := by decide +kernel
theorem dX3_init_6 : decode cX3_init 6 = .ok (.putfield 9, 3) := by decide +kernel
theorem dX3_init_9 : decode cX3_init 9 = .ok (.aload_n 0, 1) := by decide +kernel
theorem dX3_init_10 : decode cX3_init 10 = .ok (.bipush 40, 2) := by decide +kernel
theorem dX3_init_12 : decode cX3_init 12 = .ok (.newarray .int, 2) := by decide +kernel
theorem dX3_init_14 : decode cX3_init 14 = .ok (.putfield 15, 3) := by decide +kernel
theorem dX3_init_17 : decode cX3_init 17 = .ok (.return_, 1) := by decide +kernel
theorem dX3_renew_0 : decode cX3_renew 0 = .ok (.aload_n 0, 1) := by decide +kernel
theorem dX3_renew_1 : decode cX3_renew 1 = .ok (.iload_n 1, 1) := by decide +kernel
theorem dX3_renew_2 : decode cX3_renew 2 = .ok (.putfield 19, 3) := by decide +kernel
theorem dX3_renew_5 : decode cX3_renew 5 = .ok (.aload_n 0, 1) := by decide +kernel
theorem dX3_renew_6 : decode cX3_renew 6 = .ok (.iload_n 2, 1) := by decide +kernel
theorem dX3_renew_7 : decode cX3_renew 7 = .ok (.putfield 9, 3) := by decide +kernel
theorem dX3_renew_10 : decode cX3_renew 10 = .ok (.iconst 0, 1) := by decide +kernel
theorem dX3_renew_11 : decode cX3_renew 11 = .ok (.istore_n 3, 1) := by decide +kernel
theorem dX3_renew_12 : decode cX3_renew 12 = .ok (.iload_n 3, 1) := by decide +kernel
theorem dX3_renew_13 : decode cX3_renew 13 = .ok (.bipush 40, 2) := by decide +kernel
theorem dX3_renew_15 : decode cX3_renew 15 = .ok (.if_icmp .ge 16, 3) := by decide +kernel
theorem dX3_renew_18 : decode cX3_renew 18 = .ok (.aload_n 0, 1) := by decide +kernel
theorem dX3_renew_19 : decode cX3_renew 19 = .ok (.getfield 15, 3) := by decide +kernel
theorem dX3_renew_22 : decode cX3_renew 22 = .ok (.iload_n 3, 1) := by decide +kernel
theorem dX3_renew_23 : decode cX3_renew 23 = .ok (.iconst 0, 1) := by decide +kernel
theorem dX3_renew_24 : decode cX3_renew 24 = .ok (.iastore, 1) := by decide +kernel
theorem dX3_renew_25 : decode cX3_renew 25 = .ok (.iinc 3 1, 3) := by decide +kernel
theorem dX3_renew_28 : decode cX3_renew 28 = .ok (.goto (-16), 3) := by decide +kernel
theorem dX3_renew_31 : decode cX3_renew 31 = .ok (.return_, 1) := by decide +kernel
theorem dX3_cut_0 : decode cX3_cut 0 = .ok (.aload_n 0, 1) := by decide +kernel
theorem dX3_cut_1 : decode cX3_cut 1 = .ok (.getfield 19, 3) := by decide +kernel
theorem dX3_cut_4 : decode cX3_cut 4 = .ok (.ifCond .ne 6, 3) := by decide +kernel
theorem dX3_cut_7 : decode cX3_cut 7 = .ok (.iload_n 1, 1) := by decide +kernel
theorem dX3_cut_8 : decode cX3_cut 8 = .ok (.i2b, 1) := by decide +kernel
theorem dX3_cut_9 : decode cX3_cut 9 = .ok (.ireturn, 1) := by decide +kernel
theorem dX3_cut_10 : decode cX3_cut 10 = .ok (.aload_n 0, 1) := by decide +kernel
theorem dX3_cut_11 : decode cX3_cut 11 = .ok (.getfield 19, 3) := by decide +kernel
theorem dX3_cut_14 : decode cX3_cut 14 = .ok (.iconst 1, 1) := by decide +kernel
theorem dX3_cut_15 : decode cX3_cut 15 = .ok (.if_icmp .ne 8, 3) := by decide +kernel
theorem dX3_cut_18 : decode cX3_cut 18 = .ok (.iload_n 1, 1) := by decide +kernel
theorem dX3_cut_19 : decode cX3_cut 19 = .ok (.i2s, 1) := by decide +kernel
theorem dX3_cut_20 : decode cX3_cut 20 = .ok (.goto 4, 3) := by decide +kernel
theorem dX3_cut_23 : decode cX3_cut 23 = .ok (.iload_n 1, 1) := by decide +kernel
theorem dX3_cut_24 : decode cX3_cut 24 = .ok (.ireturn, 1) := by decide +kernel
theorem dX3_faultAs_0 : decode cX3_faultAs 0 = .ok (.aload_n 0, 1) := by decide +kernel
theorem dX3_faultAs_1 : decode cX3_faultAs 1 = .ok (.getfield 9, 3) := by decide +kernel
theorem dX3_faultAs_4 : decode cX3_faultAs 4 = .ok (.ifCond .ge 5, 3) := by decide +kernel
theorem dX3_faultAs_7 : decode cX3_faultAs 7 = .ok (.iconst 1, 1) := by decide +kernel
theorem dX3_faultAs_8 : decode cX3_faultAs 8 = .ok (.ireturn, 1) := by decide +kernel
theorem dX3_faultAs_9 : decode cX3_faultAs 9 = .ok (.aload_n 0, 1) := by decide +kernel
theorem dX3_faultAs_10 : decode cX3_faultAs 10 = .ok (.getfield 19, 3) := by decide +kernel
theorem dX3_faultAs_13 : decode cX3_faultAs 13 = .ok (.iload_n 1, 1) := by decide +kernel
theorem dX3_faultAs_14 : decode cX3_faultAs 14 = .ok (.if_icmp .ne 7, 3) := by decide +kernel
theorem dX3_faultAs_17 : decode cX3_faultAs 17 = .ok (.iconst 0, 1) := by decide +kernel
theorem dX3_faultAs_18 : decode cX3_faultAs 18 = .ok (.goto 4, 3) := by decide +kernel
theorem dX3_faultAs_21 : decode cX3_faultAs 21 = .ok (.iconst 3, 1) := by decide +kernel
theorem dX3_faultAs_22 : decode cX3_faultAs 22 = .ok (.ireturn, 1) := by decide +kernel
theorem dX4_init_0 : decode cX4_init 0 = .ok (.aload_n 0, 1) := by decide +kernel
theorem dX4_init_1 : decode cX4_init 1 = .ok (.invokespecial 3, 3) := by decide +kernel
theorem dX4_init_4 : decode cX4_init 4 = .ok (.aload_n 0, 1) := by decide +kernel
theorem dX4_init_5 : decode cX4_init 5 = .ok (.sipush 160, 3) := by decide +kernel
theorem dX4_init_8 : decode cX4_init 8 = .ok (.newarray .int, 2) := by decide +kernel
theorem dX4_init_10 : decode cX4_init 10 = .ok (.putfield 9, 3) := by decide +kernel
theorem dX4_init_13 : decode cX4_init 13 = .ok (.aload_n 0, 1) := by decide +kernel
theorem dX4_init_14 : decode cX4_init 14 = .ok (.new 15, 3) := by decide +kernel
theorem dX4_init_17 : decode cX4_init 17 = .ok (.dup, 1) := by decide +kernel
theorem dX4_init_18 : decode cX4_init 18 = .ok (.invokespecial 17, 3) := by decide +kernel
theorem dX4_init_21 : decode cX4_init 21 = .ok (.putfield 18, 3) := by decide +kernel
theorem dX4_init_24 : decode cX4_init 24 = .ok (.aload_n 0, 1) := by decide +kernel
theorem dX4_init_25 : decode cX4_init 25 = .ok (.new 15, 3) := by decide +kernel
theorem dX4_init_28 : decode cX4_init 28 = .ok (.dup, 1) := by decide +kernel
theorem dX4_init_29 : decode cX4_init 29 = .ok (.invokespecial 17, 3) := by decide +kernel
theorem dX4_init_32 : decode cX4_init 32 = .ok (.putfield 22, 3) := by decide +kernel
theorem dX4_init_35 : decode cX4_init 35 = .ok (.return_, 1) := by decide +kernel
theorem dX4_readLines_0 : decode cX4_readLines 0 = .ok (.aload_n 0, 1) := by decide +kernel
theorem dX4_readLines_1 : decode cX4_readLines 1 = .ok (.getfield 18, 3) := by decide +kernel
theorem dX4_readLines_4 : decode cX4_readLines 4 = .ok (.aload_n 0, 1) := by decide +kernel
theorem dX4_readLines_5 : decode cX4_readLines 5 = .ok (.getfield 22, 3) := by decide +kernel
theorem dX4_readLines_8 : decode cX4_readLines 8 = .ok (.invokevirtual 25, 3) := by decide +kernel
theorem dX4_readLines_11 : decode cX4_readLines 11 = .ok (.aload_n 0, 1) := by decide +kernel
theorem dX4_readLines_12 : decode cX4_readLines 12 = .ok (.iconst 0, 1) := by decide +kernel
theorem dX4_readLines_13 : decode cX4_readLines 13 = .ok (.putfield 29, 3) := by decide +kernel
theorem dX4_readLines_16 : decode cX4_readLines 16 = .ok (.aload_n 0, 1) := by decide +kernel
theorem dX4_readLines_17 : decode cX4_readLines 17 = .ok (.iconst 0, 1) := by decide +kernel
theorem dX4_readLines_18 : decode cX4_readLines 18 = .ok (.putfield 33, 3) := by decide +kernel
theorem dX4_readLines_21 : decode cX4_readLines 21 = .ok (.aload_n 0, 1) := by decide +kernel
theorem dX4_readLines_22 : decode cX4_readLines 22 = .ok (.iconst 0, 1) := by decide +kernel
theorem dX4_readLines_23 : decode cX4_readLines 23 = .ok (.putfield 36, 3) := by decide +kernel
theorem dX4_readLines_26 : decode cX4_readLines 26 = .ok (.iconst 0, 1) := by decide +kernel
theorem dX4_readLines_27 : decode cX4_readLines 27 = .ok (.istore_n 1, 1) := by decide +kernel
theorem dX4_readLines_28 : decode cX4_readLines 28 = .ok (.aload_n 0, 1) := by decide +kernel
theorem dX4_readLines_29 : decode cX4_readLines 29 = .ok (.invokevirtual 39, 3) := by decide +kernel
theorem dX4_readLines_32 : decode cX4_readLines 32 = .ok (.ifCond .eq 14, 3) := by decide +kernel
theorem dX4_readLines_35 : decode cX4_readLines 35 = .ok (.aload_n 0, 1) := by decide +kernel
theorem dX4_readLines_36 : decode cX4_readLines 36 = .ok (.getfield 43, 3) := by decide +kernel
theorem dX4_readLines_39 : decode cX4_readLines 39 = .ok (.ifCond .eq 7, 3) := by decide +kernel
theorem dX4_readLines_42 : decode cX4_readLines 42 = .ok (.iconst 1, 1) := by decide +kernel
theorem dX4_readLines_43 : decode cX4_readLines 43 = .ok (.goto 4, 3) := by decide +kernel
theorem dX4_readLines_46 : decode cX4_readLines 46 = .ok (.iconst 0, 1) := by decide +kernel
theorem dX4_readLines_47 : decode cX4_readLines 47 = .ok (.istore_n 2, 1) := by decide +kernel
theorem dX4_readLines_48 : decode cX4_readLines 48 = .ok (.iconst 0, 1) := by decide +kernel
theorem dX4_readLines_49 : decode cX4_readLines 49 = .ok (.istore_n 3, 1) := by decide +kernel
theorem dX4_readLines_50 : decode cX4_readLines 50 = .ok (.iload_n 3, 1) := by decide +kernel
theorem dX4_readLines_51 : decode cX4_readLines 51 = .ok (.sipush 160, 3) := by decide +kernel
theorem dX4_readLines_54 : decode cX4_readLines 54 = .ok (.if_icmp .ge 45, 3) := by decide +kernel
theorem dX4_readLines_57 : decode cX4_readLines 57 = .ok (.iload_n 2, 1) := by decide +kernel
theorem dX4_readLines_58 : decode cX4_readLines 58 = .ok (.ifCond .eq 41, 3) := by decide +kernel
theorem dX4_readLines_61 : decode cX4_readLines 61 = .ok (.aload_n 0, 1) := by decide +kernel
theorem dX4_readLines_62 : decode cX4_readLines 62 = .ok (.invokevirtual 46, 3) := by decide +kernel
theorem dX4_readLines_65 : decode cX4_readLines 65 = .ok (.istore_n 2, 1) := by decide +kernel
theorem dX4_readLines_66 : decode cX4_readLines 66 = .ok (.iload_n 2, 1) := by decide +kernel
theorem dX4_readLines_67 : decode cX4_readLines 67 = .ok (.ifCond .eq 26, 3) := by decide +kernel
theorem dX4_readLines_70 : decode cX4_readLines 70 = .ok (.iinc 1 1, 3) := by decide +kernel
theorem dX4_readLines_73 : decode cX4_readLines 73 = .ok (.aload_n 0, 1) := by decide +kernel
theorem dX4_readLines_74 : decode cX4_readLines 74 = .ok (.invokevirtual 39, 3) := by decide +kernel
theorem dX4_readLines_77 : decode cX4_readLines 77 = .ok (.ifCond .eq 14, 3) := by decide +kernel
theorem dX4_readLines_80 : decode cX4_readLines 80 = .ok (.aload_n 0, 1) := by decide +kernel
theorem dX4_readLines_81 : decode cX4_readLines 81 = .ok (.getfield 43, 3) := by decide +kernel
theorem dX4_readLines_84 : decode cX4_readLines 84 = .ok (.ifCond .eq 7, 3) := by decide +kernel
theorem dX4_readLines_87 : decode cX4_readLines 87 = .ok (.iconst 1, 1) := by decide +kernel
theorem dX4_readLines_88 : decode cX4_readLines 88 = .ok (.goto 4, 3) := by decide +kernel
theorem dX4_readLines_91 : decode cX4_readLines 91 = .ok (.iconst 0, 1) := by decide +kernel
theorem dX4_readLines_92 : decode cX4_readLines 92 = .ok (.istore_n 2, 1) := by decide +kernel
theorem dX4_readLines_93 : decode cX4_readLines 93 = .ok (.iinc 3 1, 3) := by decide +kernel
theorem dX4_readLines_96 : decode cX4_readLines 96 = .ok (.goto (-46), 3) := by decide +kernel
theorem dX4_readLines_99 : decode cX4_readLines 99 = .ok (.aload_n 0, 1) := by decide +kernel
theorem dX4_readLines_100 : decode cX4_readLines 100 = .ok (.getfield 29, 3) := by decide +kernel
theorem dX4_readLines_103 : decode cX4_readLines 103 = .ok (.ifCond .ne 21, 3) := by decide +kernel
theorem dX4_readLines_106 : decode cX4_readLines 106 = .ok (.aload_n 0, 1) := by decide +kernel
theorem dX4_readLines_107 : decode cX4_readLines 107 = .ok (.invokevirtual 49, 3) := by decide +kernel
theorem dX4_readLines_110 : decode cX4_readLines 110 = .ok (.ifCond .eq 14, 3) := by decide +kernel
theorem dX4_readLines_113 : decode cX4_readLines 113 = .ok (.aload_n 0, 1) := by decide +kernel
theorem dX4_readLines_114 : decode cX4_readLines 114 = .ok (.bipush 6, 2) := by decide +kernel
theorem dX4_readLines_116 : decode cX4_readLines 116 = .ok (.aload_n 0, 1) := by decide +kernel
theorem dX4_readLines_117 : decode cX4_readLines 117 = .ok (.getfield 52, 3) := by decide +kernel
theorem dX4_readLines_120 : decode cX4_readLines 120 = .ok (.invokevirtual 55, 3) := by decide +kernel
theorem dX4_readLines_123 : decode cX4_readLines 123 = .ok (.pop, 1) := by decide +kernel
theorem dX4_readLines_124 : decode cX4_readLines 124 = .ok (.iload_n 1, 1) := by decide +kernel
theorem dX4_readLines_125 : decode cX4_readLines 125 = .ok (.ireturn, 1) := by decide +kernel
theorem dX4_refuse_0 : decode cX4_refuse 0 = .ok (.aload_n 0, 1) := by decide +kernel
theorem dX4_refuse_1 : decode cX4_refuse 1 = .ok (.iload_n 1, 1) := by decide +kernel
theorem dX4_refuse_2 : decode cX4_refuse 2 = .ok (.putfield 29, 3) := by decide +kernel
theorem dX4_refuse_5 : decode cX4_refuse 5 = .ok (.aload_n 0, 1) := by decide +kernel
theorem dX4_refuse_6 : decode cX4_refuse 6 = .ok (.iload_n 2, 1) := by decide +kernel
theorem dX4_refuse_7 : decode cX4_refuse 7 = .ok (.putfield 59, 3) := by decide +kernel
theorem dX4_refuse_10 : decode cX4_refuse 10 = .ok (.iconst 0, 1) := by decide +kernel
theorem dX4_refuse_11 : decode cX4_refuse 11 = .ok (.ireturn, 1) := by decide +kernel
theorem dX4_readLine_0 : decode cX4_readLine 0 = .ok (.aload_n 0, 1) := by decide +kernel
theorem dX4_readLine_1 : decode cX4_readLine 1 = .ok (.getfield 43, 3) := by decide +kernel
theorem dX4_readLine_4 : decode cX4_readLine 4 = .ok (.iconst 1, 1) := by decide +kernel
theorem dX4_readLine_5 : decode cX4_readLine 5 = .ok (.if_icmp .ne 10, 3) := by decide +kernel
theorem dX4_readLine_8 : decode cX4_readLine 8 = .ok (.aload_n 0, 1) := by decide +kernel
theorem dX4_readLine_9 : decode cX4_readLine 9 = .ok (.invokevirtual 62, 3) := by decide +kernel
theorem dX4_readLine_12 : decode cX4_readLine 12 = .ok (.goto 4, 3) := by decide +kernel
theorem dX4_readLine_15 : decode cX4_readLine 15 = .ok (.iconst (-1), 1) := by decide +kernel
theorem dX4_readLine_16 : decode cX4_readLine 16 = .ok (.istore_n 1, 1) := by decide +kernel
theorem dX4_readLine_17 : decode cX4_readLine 17 = .ok (.iload_n 1, 1) := by decide +kernel
theorem dX4_readLine_18 : decode cX4_readLine 18 = .ok (.iconst (-1), 1) := by decide +kernel
theorem dX4_readLine_19 : decode cX4_readLine 19 = .ok (.if_icmp .ne 13, 3) := by decide +kernel
theorem dX4_readLine_22 : decode cX4_readLine 22 = .ok (.aload_n 0, 1) := by decide +kernel
theorem dX4_readLine_23 : decode cX4_readLine 23 = .ok (.iconst 2, 1) := by decide +kernel
theorem dX4_readLine_24 : decode cX4_readLine 24 = .ok (.aload_n 0, 1) := by decide +kernel
theorem dX4_readLine_25 : decode cX4_readLine 25 = .ok (.getfield 66, 3) := by decide +kernel
theorem dX4_readLine_28 : decode cX4_readLine 28 = .ok (.invokevirtual 55, 3) := by decide +kernel
theorem dX4_readLine_31 : decode cX4_readLine 31 = .ok (.ireturn, 1) := by decide +kernel
theorem dX4_readLine_32 : decode cX4_readLine 32 = .ok (.iload_n 1, 1) := by decide +kernel
theorem dX4_readLine_33 : decode cX4_readLine 33 = .ok (.iconst 5, 1) := by decide +kernel
theorem dX4_readLine_34 : decode cX4_readLine 34 = .ok (.if_icmp .ne 8, 3) := by decide +kernel
theorem dX4_readLine_37 : decode cX4_readLine 37 = .ok (.aload_n 0, 1) := by decide +kernel
theorem dX4_readLine_38 : decode cX4_readLine 38 = .ok (.invokevirtual 69, 3) := by decide +kernel
theorem dX4_readLine_41 : decode cX4_readLine 41 = .ok (.ireturn, 1) := by decide +kernel
theorem dX4_readLine_42 : decode cX4_readLine 42 = .ok (.iload_n 1, 1) := by decide +kernel
theorem dX4_readLine_43 : decode cX4_readLine 43 = .ok (.iconst 4, 1) := by decide +kernel
theorem dX4_readLine_44 : decode cX4_readLine 44 = .ok (.if_icmp .ne 10, 3) := by decide +kernel
theorem dX4_readLine_47 : decode cX4_readLine 47 = .ok (.aload_n 0, 1) := by decide +kernel
theorem dX4_readLine_48 : decode cX4_readLine 48 = .ok (.invokevirtual 72, 3) := by decide +kernel
theorem dX4_readLine_51 : decode cX4_readLine 51 = .ok (.goto 8, 3) := by decide +kernel
theorem dX4_readLine_54 : decode cX4_readLine 54 = .ok (.aload_n 0, 1) := by decide +kernel
theorem dX4_readLine_55 : decode cX4_readLine 55 = .ok (.iload_n 1, 1) := by decide +kernel
theorem dX4_readLine_56 : decode cX4_readLine 56 = .ok (.invokevirtual 75, 3) := by decide +kernel
theorem dX4_readLine_59 : decode cX4_readLine 59 = .ok (.ireturn, 1) := by decide +kernel
theorem dX4_readColour_0 : decode cX4_readColour 0 = .ok (.aload_n 0, 1) := by decide +kernel
theorem dX4_readColour_1 : decode cX4_readColour 1 = .ok (.getfield 18, 3) := by decide +kernel
theorem dX4_readColour_4 : decode cX4_readColour 4 = .ok (.getfield 79, 3) := by decide +kernel
theorem dX4_readColour_7 : decode cX4_readColour 7 = .ok (.istore_n 2, 1) := by decide +kernel
theorem dX4_readColour_8 : decode cX4_readColour 8 = .ok (.iload_n 2, 1) := by decide +kernel
theorem dX4_readColour_9 : decode cX4_readColour 9 = .ok (.iconst 5, 1) := by decide +kernel
theorem dX4_readColour_10 : decode cX4_readColour 10 = .ok (.if_icmp .lt 13, 3) := by decide +kernel
theorem dX4_readColour_13 : decode cX4_readColour 13 = .ok (.aload_n 0, 1) := by decide +kernel
theorem dX4_readColour_14 : decode cX4_readColour 14 = .ok (.iconst 5, 1) := by decide +kernel
theorem dX4_readColour_15 : decode cX4_readColour 15 = .ok (.aload_n 0, 1) := by decide +kernel
theorem dX4_readColour_16 : decode cX4_readColour 16 = .ok (.getfield 66, 3) := by decide +kernel
theorem dX4_readColour_19 : decode cX4_readColour 19 = .ok (.invokevirtual 55, 3) := by decide +kernel
theorem dX4_readColour_22 : decode cX4_readColour 22 = .ok (.ireturn, 1) := by decide +kernel
theorem dX4_readColour_23 : decode cX4_readColour 23 = .ok (.aload_n 0, 1) := by decide +kernel
theorem dX4_readColour_24 : decode cX4_readColour 24 = .ok (.getfield 18, 3) := by decide +kernel
theorem dX4_readColour_27 : decode cX4_readColour 27 = .ok (.dup, 1) := by decide +kernel
theorem dX4_readColour_28 : decode cX4_readColour 28 = .ok (.getfield 79, 3) := by decide +kernel
theorem dX4_readColour_31 : decode cX4_readColour 31 = .ok (.iconst 1, 1) := by decide +kernel
theorem dX4_readColour_32 : decode cX4_readColour 32 = .ok (.iadd, 1) := by decide +kernel
theorem dX4_readColour_33 : decode cX4_readColour 33 = .ok (.putfield 79, 3) := by decide +kernel
theorem dX4_readColour_36 : decode cX4_readColour 36 = .ok (.aload_n 0, 1) := by decide +kernel
theorem dX4_readColour_37 : decode cX4_readColour 37 = .ok (.getfield 18, 3) := by decide +kernel
theorem dX4_readColour_40 : decode cX4_readColour 40 = .ok (.getfield 82, 3) := by decide +kernel
theorem dX4_readColour_43 : decode cX4_readColour 43 = .ok (.iload_n 2, 1) := by decide +kernel
theorem dX4_readColour_44 : decode cX4_readColour 44 = .ok (.iload_n 1, 1) := by decide +kernel
theorem dX4_readColour_45 : decode cX4_readColour 45 = .ok (.iastore, 1) := by decide +kernel
theorem dX4_readColour_46 : decode cX4_readColour 46 = .ok (.iconst 0, 1) := by decide +kernel
theorem dX4_readColour_47 : decode cX4_readColour 47 = .ok (.istore_n 3, 1) := by decide +kernel
theorem dX4_readColour_48 : decode cX4_readColour 48 = .ok (.iload_n 3, 1) := by decide +kernel
theorem dX4_readColour_49 : decode cX4_readColour 49 = .ok (.iconst 3, 1) := by decide +kernel
theorem dX4_readColour_50 : decode cX4_readColour 50 = .ok (.if_icmp .ge 37, 3) := by decide +kernel
theorem dX4_readColour_53 : decode cX4_readColour 53 = .ok (.aload_n 0, 1) := by decide +kernel
theorem dX4_readColour_54 : decode cX4_readColour 54 = .ok (.bipush 9, 2) := by decide +kernel
theorem dX4_readColour_56 : decode cX4_readColour 56 = .ok (.invokevirtual 85, 3) := by decide +kernel
theorem dX4_readColour_59 : decode cX4_readColour 59 = .ok (.ifCond .ne 5, 3) := by decide +kernel
theorem dX4_readColour_62 : decode cX4_readColour 62 = .ok (.iconst 0, 1) := by decide +kernel
theorem dX4_readColour_63 : decode cX4_readColour 63 = .ok (.ireturn, 1) := by decide +kernel
theorem dX4_readColour_64 : decode cX4_readColour 64 = .ok (.aload_n 0, 1) := by decide +kernel
theorem dX4_readColour_65 : decode cX4_readColour 65 = .ok (.getfield 18, 3) := by decide +kernel
theorem dX4_readColour_68 : decode cX4_readColour 68 = .ok (.getfield 88, 3) := by decide +kernel
theorem dX4_readColour_71 : decode cX4_readColour 71 = .ok (.iconst 3, 1) := by decide +kernel
theorem dX4_readColour_72 : decode cX4_readColour 72 = .ok (.iload_n 2, 1) := by decide +kernel
theorem dX4_readColour_73 : decode cX4_readColour 73 = .ok (.imul, 1) := by decide +kernel
theorem dX4_readColour_74 : decode cX4_readColour 74 = .ok (.iload_n 3, 1) := by decide +kernel
theorem dX4_readColour_75 : decode cX4_readColour 75 = .ok (.iadd, 1) := by decide +kernel
theorem dX4_readColour_76 : decode cX4_readColour 76 = .ok (.aload_n 0, 1) := by decide +kernel
theorem dX4_readColour_77 : decode cX4_readColour 77 = .ok (.getfield 91, 3) := by decide +kernel
theorem dX4_readColour_80 : decode cX4_readColour 80 = .ok (.iastore, 1) := by decide +kernel
theorem dX4_readColour_81 : decode cX4_readColour 81 = .ok (.iinc 3 1, 3) := by decide +kernel
theorem dX4_readColour_84 : decode cX4_readColour 84 = .ok (.goto (-36), 3) := by decide +kernel
theorem dX4_readColour_87 : decode cX4_readColour 87 = .ok (.aload_n 0, 1) := by decide +kernel
theorem dX4_readColour_88 : decode cX4_readColour 88 = .ok (.bipush 99, 2) := by decide +kernel
theorem dX4_readColour_90 : decode cX4_readColour 90 = .ok (.invokevirtual 85, 3) := by decide +kernel
theorem dX4_readColour_93 : decode cX4_readColour 93 = .ok (.ifCond .ne 5, 3) := by decide +kernel
theorem dX4_readColour_96 : decode cX4_readColour 96 = .ok (.iconst 0, 1) := by decide +kernel
theorem dX4_readColour_97 : decode cX4_readColour 97 = .ok (.ireturn, 1) := by decide +kernel
theorem dX4_readColour_98 : decode cX4_readColour 98 = .ok (.aload_n 0, 1) := by decide +kernel
theorem dX4_readColour_99 : decode cX4_readColour 99 = .ok (.getfield 18, 3) := by decide +kernel
theorem dX4_readColour_102 : decode cX4_readColour 102 = .ok (.getfield 94, 3) := by decide +kernel
theorem dX4_readColour_105 : decode cX4_readColour 105 = .ok (.iload_n 2, 1) := by decide +kernel
theorem dX4_readColour_106 : decode cX4_readColour 106 = .ok (.aload_n 0, 1) := by decide +kernel
theorem dX4_readColour_107 : decode cX4_readColour 107 = .ok (.getfield 91, 3) := by decide +kernel
theorem dX4_readColour_110 : decode cX4_readColour 110 = .ok (.iastore, 1) := by decide +kernel
theorem dX4_readColour_111 : decode cX4_readColour 111 = .ok (.aload_n 0, 1) := by decide +kernel
theorem dX4_readColour_112 : decode cX4_readColour 112 = .ok (.invokevirtual 97, 3) := by decide +kernel
theorem dX4_readColour_115 : decode cX4_readColour 115 = .ok (.ireturn, 1) := by decide +kernel
theorem dX4_readOne_0 : decode cX4_readOne 0 = .ok (.aload_n 0, 1) := by decide +kernel
theorem dX4_readOne_1 : decode cX4_readOne 1 = .ok (.getfield 18, 3) := by decide +kernel
theorem dX4_readOne_4 : decode cX4_readOne 4 = .ok (.getfield 100, 3) := by decide +kernel
theorem dX4_readOne_7 : decode cX4_readOne 7 = .ok (.istore_n 1, 1) := by decide +kernel
theorem dX4_readOne_8 : decode cX4_readOne 8 = .ok (.iload_n 1, 1) := by decide +kernel
theorem dX4_readOne_9 : decode cX4_readOne 9 = .ok (.iconst 4, 1) := by decide +kernel
theorem dX4_readOne_10 : decode cX4_readOne 10 = .ok (.if_icmp .lt 13, 3) := by decide +kernel
theorem dX4_readOne_13 : decode cX4_readOne 13 = .ok (.aload_n 0, 1) := by decide +kernel
theorem dX4_readOne_14 : decode cX4_readOne 14 = .ok (.iconst 5, 1) := by decide +kernel
theorem dX4_readOne_15 : decode cX4_readOne 15 = .ok (.aload_n 0, 1) := by decide +kernel
theorem dX4_readOne_16 : decode cX4_readOne 16 = .ok (.getfield 66, 3) := by decide +kernel
theorem dX4_readOne_19 : decode cX4_readOne 19 = .ok (.invokevirtual 55, 3) := by decide +kernel
theorem dX4_readOne_22 : decode cX4_readOne 22 = .ok (.ireturn, 1) := by decide +kernel
theorem dX4_readOne_23 : decode cX4_readOne 23 = .ok (.aload_n 0, 1) := by decide +kernel
theorem dX4_readOne_24 : decode cX4_readOne 24 = .ok (.getfield 18, 3) := by decide +kernel
theorem dX4_readOne_27 : decode cX4_readOne 27 = .ok (.dup, 1) := by decide +kernel
theorem dX4_readOne_28 : decode cX4_readOne 28 = .ok (.getfield 100, 3) := by decide +kernel
theorem dX4_readOne_31 : decode cX4_readOne 31 = .ok (.iconst 1, 1) := by decide +kernel
theorem dX4_readOne_32 : decode cX4_readOne 32 = .ok (.iadd, 1) := by decide +kernel
theorem dX4_readOne_33 : decode cX4_readOne 33 = .ok (.putfield 100, 3) := by decide +kernel
theorem dX4_readOne_36 : decode cX4_readOne 36 = .ok (.aload_n 0, 1) := by decide +kernel
theorem dX4_readOne_37 : decode cX4_readOne 37 = .ok (.bipush 99, 2) := by decide +kernel
theorem dX4_readOne_39 : decode cX4_readOne 39 = .ok (.invokevirtual 85, 3) := by decide +kernel
theorem dX4_readOne_42 : decode cX4_readOne 42 = .ok (.ifCond .ne 5, 3) := by decide +kernel
theorem dX4_readOne_45 : decode cX4_readOne 45 = .ok (.iconst 0, 1) := by decide +kernel
theorem dX4_readOne_46 : decode cX4_readOne 46 = .ok (.ireturn, 1) := by decide +kernel
theorem dX4_readOne_47 : decode cX4_readOne 47 = .ok (.aload_n 0, 1) := by decide +kernel
theorem dX4_readOne_48 : decode cX4_readOne 48 = .ok (.getfield 18, 3) := by decide +kernel
theorem dX4_readOne_51 : decode cX4_readOne 51 = .ok (.getfield 103, 3) := by decide +kernel
theorem dX4_readOne_54 : decode cX4_readOne 54 = .ok (.iload_n 1, 1) := by decide +kernel
theorem dX4_readOne_55 : decode cX4_readOne 55 = .ok (.aload_n 0, 1) := by decide +kernel
theorem dX4_readOne_56 : decode cX4_readOne 56 = .ok (.getfield 91, 3) := by decide +kernel
theorem dX4_readOne_59 : decode cX4_readOne 59 = .ok (.iastore, 1) := by decide +kernel
theorem dX4_readOne_60 : decode cX4_readOne 60 = .ok (.aload_n 0, 1) := by decide +kernel
theorem dX4_readOne_61 : decode cX4_readOne 61 = .ok (.bipush 99, 2) := by decide +kernel
theorem dX4_readOne_63 : decode cX4_readOne 63 = .ok (.invokevirtual 85, 3) := by decide +kernel
theorem dX4_readOne_66 : decode cX4_readOne 66 = .ok (.ifCond .ne 5, 3) := by decide +kernel
theorem dX4_readOne_69 : decode cX4_readOne 69 = .ok (.iconst 0, 1) := by decide +kernel
theorem dX4_readOne_70 : decode cX4_readOne 70 = .ok (.ireturn, 1) := by decide +kernel
theorem dX4_readOne_71 : decode cX4_readOne 71 = .ok (.aload_n 0, 1) := by decide +kernel
theorem dX4_readOne_72 : decode cX4_readOne 72 = .ok (.getfield 18, 3) := by decide +kernel
theorem dX4_readOne_75 : decode cX4_readOne 75 = .ok (.getfield 106, 3) := by decide +kernel
theorem dX4_readOne_78 : decode cX4_readOne 78 = .ok (.iload_n 1, 1) := by decide +kernel
theorem dX4_readOne_79 : decode cX4_readOne 79 = .ok (.aload_n 0, 1) := by decide +kernel
theorem dX4_readOne_80 : decode cX4_readOne 80 = .ok (.getfield 91, 3) := by decide +kernel
theorem dX4_readOne_83 : decode cX4_readOne 83 = .ok (.iastore, 1) := by decide +kernel
theorem dX4_readOne_84 : decode cX4_readOne 84 = .ok (.aload_n 0, 1) := by decide +kernel
theorem dX4_readOne_85 : decode cX4_readOne 85 = .ok (.invokevirtual 97, 3) := by decide +kernel
theorem dX4_readOne_88 : decode cX4_readOne 88 = .ok (.ireturn, 1) := by decide +kernel
theorem dX4_readLent_0 : decode cX4_readLent 0 = .ok (.aload_n 0, 1) := by decide +kernel
theorem dX4_readLent_1 : decode cX4_readLent 1 = .ok (.iconst 3, 1) := by decide +kernel
theorem dX4_readLent_2 : decode cX4_readLent 2 = .ok (.invokevirtual 85, 3) := by decide +kernel
theorem dX4_readLent_5 : decode cX4_readLent 5 = .ok (.ifCond .ne 5, 3) := by decide +kernel
theorem dX4_readLent_8 : decode cX4_readLent 8 = .ok (.iconst 0, 1) := by decide +kernel
theorem dX4_readLent_9 : decode cX4_readLent 9 = .ok (.ireturn, 1) := by decide +kernel
theorem dX4_readLent_10 : decode cX4_readLent 10 = .ok (.aload_n 0, 1) := by decide +kernel
theorem dX4_readLent_11 : decode cX4_readLent 11 = .ok (.getfield 91, 3) := by decide +kernel
theorem dX4_readLent_14 : decode cX4_readLent 14 = .ok (.istore_n 1, 1) := by decide +kernel
theorem dX4_readLent_15 : decode cX4_readLent 15 = .ok (.aload_n 0, 1) := by decide +kernel
theorem dX4_readLent_16 : decode cX4_readLent 16 = .ok (.iconst 4, 1) := by decide +kernel
theorem dX4_readLent_17 : decode cX4_readLent 17 = .ok (.invokevirtual 85, 3) := by decide +kernel
theorem dX4_readLent_20 : decode cX4_readLent 20 = .ok (.ifCond .ne 5, 3) := by decide +kernel
theorem dX4_readLent_23 : decode cX4_readLent 23 = .ok (.iconst 0, 1) := by decide +kernel
theorem dX4_readLent_24 : decode cX4_readLent 24 = .ok (.ireturn, 1) := by decide +kernel
theorem dX4_readLent_25 : decode cX4_readLent 25 = .ok (.iload_n 1, 1) := by decide +kernel
theorem dX4_readLent_26 : decode cX4_readLent 26 = .ok (.iconst 5, 1) := by decide +kernel
theorem dX4_readLent_27 : decode cX4_readLent 27 = .ok (.imul, 1) := by decide +kernel
theorem dX4_readLent_28 : decode cX4_readLent 28 = .ok (.aload_n 0, 1) := by decide +kernel
theorem dX4_readLent_29 : decode cX4_readLent 29 = .ok (.getfield 91, 3) := by decide +kernel
theorem dX4_readLent_32 : decode cX4_readLent 32 = .ok (.iadd, 1) := by decide +kernel
theorem dX4_readLent_33 : decode cX4_readLent 33 = .ok (.istore_n 2, 1) := by decide +kernel
theorem dX4_readLent_34 : decode cX4_readLent 34 = .ok (.aload_n 0, 1) := by decide +kernel
theorem dX4_readLent_35 : decode cX4_readLent 35 = .ok (.getfield 33, 3) := by decide +kernel
theorem dX4_readLent_38 : decode cX4_readLent 38 = .ok (.iload_n 2, 1) := by decide +kernel
theorem dX4_readLent_39 : decode cX4_readLent 39 = .ok (.invokestatic 109, 3) := by decide +kernel
theorem dX4_readLent_42 : decode cX4_readLent 42 = .ok (.ifCond .eq 13, 3) := by decide +kernel
theorem dX4_readLent_45 : decode cX4_readLent 45 = .ok (.aload_n 0, 1) := by decide +kernel
theorem dX4_readLent_46 : decode cX4_readLent 46 = .ok (.iconst 4, 1) := by decide +kernel
theorem dX4_readLent_47 : decode cX4_readLent 47 = .ok (.aload_n 0, 1) := by decide +kernel
theorem dX4_readLent_48 : decode cX4_readLent 48 = .ok (.getfield 66, 3) := by decide +kernel
theorem dX4_readLent_51 : decode cX4_readLent 51 = .ok (.invokevirtual 55, 3) := by decide +kernel
theorem dX4_readLent_54 : decode cX4_readLent 54 = .ok (.ireturn, 1) := by decide +kernel
theorem dX4_readLent_55 : decode cX4_readLent 55 = .ok (.aload_n 0, 1) := by decide +kernel
theorem dX4_readLent_56 : decode cX4_readLent 56 = .ok (.dup, 1) := by decide +kernel
theorem dX4_readLent_57 : decode cX4_readLent 57 = .ok (.getfield 33, 3) := by decide +kernel
theorem dX4_readLent_60 : decode cX4_readLent 60 = .ok (.iconst 1, 1) := by decide +kernel
theorem dX4_readLent_61 : decode cX4_readLent 61 = .ok (.iload_n 2, 1) := by decide +kernel
theorem dX4_readLent_62 : decode cX4_readLent 62 = .ok (.ishl, 1) := by decide +kernel
theorem dX4_readLent_63 : decode cX4_readLent 63 = .ok (.ior, 1) := by decide +kernel
theorem dX4_readLent_64 : decode cX4_readLent 64 = .ok (.putfield 33, 3) := by decide +kernel
theorem dX4_readLent_67 : decode cX4_readLent 67 = .ok (.aload_n 0, 1) := by decide +kernel
theorem dX4_readLent_68 : decode cX4_readLent 68 = .ok (.bipush 99, 2) := by decide +kernel
theorem dX4_readLent_70 : decode cX4_readLent 70 = .ok (.invokevirtual 85, 3) := by decide +kernel
theorem dX4_readLent_73 : decode cX4_readLent 73 = .ok (.ifCond .ne 5, 3) := by decide +kernel
theorem dX4_readLent_76 : decode cX4_readLent 76 = .ok (.iconst 0, 1) := by decide +kernel
theorem dX4_readLent_77 : decode cX4_readLent 77 = .ok (.ireturn, 1) := by decide +kernel
theorem dX4_readLent_78 : decode cX4_readLent 78 = .ok (.aload_n 0, 1) := by decide +kernel
theorem dX4_readLent_79 : decode cX4_readLent 79 = .ok (.getfield 18, 3) := by decide +kernel
theorem dX4_readLent_82 : decode cX4_readLent 82 = .ok (.getfield 112, 3) := by decide +kernel
theorem dX4_readLent_85 : decode cX4_readLent 85 = .ok (.iload_n 2, 1) := by decide +kernel
theorem dX4_readLent_86 : decode cX4_readLent 86 = .ok (.aload_n 0, 1) := by decide +kernel
theorem dX4_readLent_87 : decode cX4_readLent 87 = .ok (.getfield 91, 3) := by decide +kernel
theorem dX4_readLent_90 : decode cX4_readLent 90 = .ok (.iastore, 1) := by decide +kernel
theorem dX4_readLent_91 : decode cX4_readLent 91 = .ok (.aload_n 0, 1) := by decide +kernel
theorem dX4_readLent_92 : decode cX4_readLent 92 = .ok (.invokevirtual 97, 3) := by decide +kernel
theorem dX4_readLent_95 : decode cX4_readLent 95 = .ok (.ireturn, 1) := by decide +kernel
theorem dX4_readNumber_0 : decode cX4_readNumber 0 = .ok (.aload_n 0, 1) := by decide +kernel
theorem dX4_readNumber_1 : decode cX4_readNumber 1 = .ok (.invokevirtual 39, 3) := by decide +kernel
theorem dX4_readNumber_4 : decode cX4_readNumber 4 = .ok (.ifCond .ne 5, 3) := by decide +kernel
theorem dX4_readNumber_7 : decode cX4_readNumber 7 = .ok (.iconst 0, 1) := by decide +kernel
theorem dX4_readNumber_8 : decode cX4_readNumber 8 = .ok (.ireturn, 1) := by decide +kernel
theorem dX4_readNumber_9 : decode cX4_readNumber 9 = .ok (.aload_n 0, 1) := by decide +kernel
theorem dX4_readNumber_10 : decode cX4_readNumber 10 = .ok (.getfield 43, 3) := by decide +kernel
theorem dX4_readNumber_13 : decode cX4_readNumber 13 = .ok (.iconst 2, 1) := by decide +kernel
theorem dX4_readNumber_14 : decode cX4_readNumber 14 = .ok (.if_icmp .eq 13, 3) := by decide +kernel
theorem dX4_readNumber_17 : decode cX4_readNumber 17 = .ok (.aload_n 0, 1) := by decide +kernel
theorem dX4_readNumber_18 : decode cX4_readNumber 18 = .ok (.iconst 2, 1) := by decide +kernel
theorem dX4_readNumber_19 : decode cX4_readNumber 19 = .ok (.aload_n 0, 1) := by decide +kernel
theorem dX4_readNumber_20 : decode cX4_readNumber 20 = .ok (.getfield 66, 3) := by decide +kernel
theorem dX4_readNumber_23 : decode cX4_readNumber 23 = .ok (.invokevirtual 55, 3) := by decide +kernel
theorem dX4_readNumber_26 : decode cX4_readNumber 26 = .ok (.ireturn, 1) := by decide +kernel
theorem dX4_readNumber_27 : decode cX4_readNumber 27 = .ok (.aload_n 0, 1) := by decide +kernel
theorem dX4_readNumber_28 : decode cX4_readNumber 28 = .ok (.iconst 0, 1) := by decide +kernel
theorem dX4_readNumber_29 : decode cX4_readNumber 29 = .ok (.putfield 91, 3) := by decide +kernel
theorem dX4_readNumber_32 : decode cX4_readNumber 32 = .ok (.aload_n 0, 1) := by decide +kernel
theorem dX4_readNumber_33 : decode cX4_readNumber 33 = .ok (.getfield 66, 3) := by decide +kernel
theorem dX4_readNumber_36 : decode cX4_readNumber 36 = .ok (.istore_n 2, 1) := by decide +kernel
theorem dX4_readNumber_37 : decode cX4_readNumber 37 = .ok (.iload_n 2, 1) := by decide +kernel
theorem dX4_readNumber_38 : decode cX4_readNumber 38 = .ok (.aload_n 0, 1) := by decide +kernel
theorem dX4_readNumber_39 : decode cX4_readNumber 39 = .ok (.getfield 36, 3) := by decide +kernel
theorem dX4_readNumber_42 : decode cX4_readNumber 42 = .ok (.if_icmp .ge 30, 3) := by decide +kernel
theorem dX4_readNumber_45 : decode cX4_readNumber 45 = .ok (.aload_n 0, 1) := by decide +kernel
theorem dX4_readNumber_46 : decode cX4_readNumber 46 = .ok (.bipush 10, 2) := by decide +kernel
theorem dX4_readNumber_48 : decode cX4_readNumber 48 = .ok (.aload_n 0, 1) := by decide +kernel
theorem dX4_readNumber_49 : decode cX4_readNumber 49 = .ok (.getfield 91, 3) := by decide +kernel
theorem dX4_readNumber_52 : decode cX4_readNumber 52 = .ok (.imul, 1) := by decide +kernel
theorem dX4_readNumber_53 : decode cX4_readNumber 53 = .ok (.aload_n 0, 1) := by decide +kernel
theorem dX4_readNumber_54 : decode cX4_readNumber 54 = .ok (.getfield 9, 3) := by decide +kernel
theorem dX4_readNumber_57 : decode cX4_readNumber 57 = .ok (.iload_n 2, 1) := by decide +kernel
theorem dX4_readNumber_58 : decode cX4_readNumber 58 = .ok (.iaload, 1) := by decide +kernel
theorem dX4_readNumber_59 : decode cX4_readNumber 59 = .ok (.iadd, 1) := by decide +kernel
theorem dX4_readNumber_60 : decode cX4_readNumber 60 = .ok (.bipush 48, 2) := by decide +kernel
theorem dX4_readNumber_62 : decode cX4_readNumber 62 = .ok (.isub, 1) := by decide +kernel
theorem dX4_readNumber_63 : decode cX4_readNumber 63 = .ok (.putfield 91, 3) := by decide +kernel
theorem dX4_readNumber_66 : decode cX4_readNumber 66 = .ok (.iinc 2 1, 3) := by decide +kernel
theorem dX4_readNumber_69 : decode cX4_readNumber 69 = .ok (.goto (-32), 3) := by decide +kernel
theorem dX4_readNumber_72 : decode cX4_readNumber 72 = .ok (.aload_n 0, 1) := by decide +kernel
theorem dX4_readNumber_73 : decode cX4_readNumber 73 = .ok (.getfield 91, 3) := by decide +kernel
theorem dX4_readNumber_76 : decode cX4_readNumber 76 = .ok (.iload_n 1, 1) := by decide +kernel
theorem dX4_readNumber_77 : decode cX4_readNumber 77 = .ok (.if_icmp .le 15, 3) := by decide +kernel
theorem dX4_readNumber_80 : decode cX4_readNumber 80 = .ok (.aload_n 0, 1) := by decide +kernel
theorem dX4_readNumber_81 : decode cX4_readNumber 81 = .ok (.iconst 3, 1) := by decide +kernel
theorem dX4_readNumber_82 : decode cX4_readNumber 82 = .ok (.aload_n 0, 1) := by decide +kernel
theorem dX4_readNumber_83 : decode cX4_readNumber 83 = .ok (.getfield 66, 3) := by decide +kernel
theorem dX4_readNumber_86 : decode cX4_readNumber 86 = .ok (.invokevirtual 55, 3) := by decide +kernel
theorem dX4_readNumber_89 : decode cX4_readNumber 89 = .ok (.ifCond .eq 7, 3) := by decide +kernel
theorem dX4_readNumber_92 : decode cX4_readNumber 92 = .ok (.iconst 1, 1) := by decide +kernel
theorem dX4_readNumber_93 : decode cX4_readNumber 93 = .ok (.goto 4, 3) := by decide +kernel
theorem dX4_readNumber_96 : decode cX4_readNumber 96 = .ok (.iconst 0, 1) := by decide +kernel
theorem dX4_readNumber_97 : decode cX4_readNumber 97 = .ok (.ireturn, 1) := by decide +kernel
theorem dX4_readStop_0 : decode cX4_readStop 0 = .ok (.aload_n 0, 1) := by decide +kernel
theorem dX4_readStop_1 : decode cX4_readStop 1 = .ok (.invokevirtual 39, 3) := by decide +kernel
theorem dX4_readStop_4 : decode cX4_readStop 4 = .ok (.ifCond .eq 27, 3) := by decide +kernel
theorem dX4_readStop_7 : decode cX4_readStop 7 = .ok (.aload_n 0, 1) := by decide +kernel
theorem dX4_readStop_8 : decode cX4_readStop 8 = .ok (.getfield 43, 3) := by decide +kernel
theorem dX4_readStop_11 : decode cX4_readStop 11 = .ok (.iconst 3, 1) := by decide +kernel
theorem dX4_readStop_12 : decode cX4_readStop 12 = .ok (.if_icmp .eq 15, 3) := by decide +kernel
theorem dX4_readStop_15 : decode cX4_readStop 15 = .ok (.aload_n 0, 1) := by decide +kernel
theorem dX4_readStop_16 : decode cX4_readStop 16 = .ok (.iconst 2, 1) := by decide +kernel
theorem dX4_readStop_17 : decode cX4_readStop 17 = .ok (.aload_n 0, 1) := by decide +kernel
theorem dX4_readStop_18 : decode cX4_readStop 18 = .ok (.getfield 66, 3) := by decide +kernel
theorem dX4_readStop_21 : decode cX4_readStop 21 = .ok (.invokevirtual 55, 3) := by decide +kernel
theorem dX4_readStop_24 : decode cX4_readStop 24 = .ok (.ifCond .eq 7, 3) := by decide +kernel
theorem dX4_readStop_27 : decode cX4_readStop 27 = .ok (.iconst 1, 1) := by decide +kernel
theorem dX4_readStop_28 : decode cX4_readStop 28 = .ok (.goto 4, 3) := by decide +kernel
theorem dX4_readStop_31 : decode cX4_readStop 31 = .ok (.iconst 0, 1) := by decide +kernel
theorem dX4_readStop_32 : decode cX4_readStop 32 = .ok (.ireturn, 1) := by decide +kernel
theorem dX4_tellsOfNobody_0 : decode cX4_tellsOfNobody 0 = .ok (.iconst 0, 1) := by decide +kernel
theorem dX4_tellsOfNobody_1 : decode cX4_tellsOfNobody 1 = .ok (.istore_n 1, 1) := by decide +kernel
theorem dX4_tellsOfNobody_2 : decode cX4_tellsOfNobody 2 = .ok (.iload_n 1, 1) := by decide +kernel
theorem dX4_tellsOfNobody_3 : decode cX4_tellsOfNobody 3 = .ok (.iconst 4, 1) := by decide +kernel
theorem dX4_tellsOfNobody_4 : decode cX4_tellsOfNobody 4 = .ok (.if_icmp .ge 71, 3) := by decide +kernel
theorem dX4_tellsOfNobody_7 : decode cX4_tellsOfNobody 7 = .ok (.iconst 0, 1) := by decide +kernel
theorem dX4_tellsOfNobody_8 : decode cX4_tellsOfNobody 8 = .ok (.istore_n 2, 1) := by decide +kernel
theorem dX4_tellsOfNobody_9 : decode cX4_tellsOfNobody 9 = .ok (.iload_n 2, 1) := by decide +kernel
theorem dX4_tellsOfNobody_10 : decode cX4_tellsOfNobody 10 = .ok (.iconst 5, 1) := by decide +kernel
theorem dX4_tellsOfNobody_11 : decode cX4_tellsOfNobody 11 = .ok (.if_icmp .ge 58, 3) := by decide +kernel
theorem dX4_tellsOfNobody_14 : decode cX4_tellsOfNobody 14 = .ok (.aload_n 0, 1) := by decide +kernel
theorem dX4_tellsOfNobody_15 : decode cX4_tellsOfNobody 15 = .ok (.getfield 18, 3) := by decide +kernel
theorem dX4_tellsOfNobody_18 : decode cX4_tellsOfNobody 18 = .ok (.iload_n 1, 1) := by decide +kernel
theorem dX4_tellsOfNobody_19 : decode cX4_tellsOfNobody 19 = .ok (.invokevirtual 115, 3) := by decide +kernel
theorem dX4_tellsOfNobody_22 : decode cX4_tellsOfNobody 22 = .ok (.ifCond .eq 18, 3) := by decide +kernel
theorem dX4_tellsOfNobody_25 : decode cX4_tellsOfNobody 25 = .ok (.aload_n 0, 1) := by decide +kernel
theorem dX4_tellsOfNobody_26 : decode cX4_tellsOfNobody 26 = .ok (.getfield 18, 3) := by decide +kernel
theorem dX4_tellsOfNobody_29 : decode cX4_tellsOfNobody 29 = .ok (.iload_n 2, 1) := by decide +kernel
theorem dX4_tellsOfNobody_30 : decode cX4_tellsOfNobody 30 = .ok (.invokevirtual 118, 3) := by decide +kernel
theorem dX4_tellsOfNobody_33 : decode cX4_tellsOfNobody 33 = .ok (.ifCond .eq 7, 3) := by decide +kernel
theorem dX4_tellsOfNobody_36 : decode cX4_tellsOfNobody 36 = .ok (.iconst 1, 1) := by decide +kernel
theorem dX4_tellsOfNobody_37 : decode cX4_tellsOfNobody 37 = .ok (.goto 4, 3) := by decide +kernel
theorem dX4_tellsOfNobody_40 : decode cX4_tellsOfNobody 40 = .ok (.iconst 0, 1) := by decide +kernel
theorem dX4_tellsOfNobody_41 : decode cX4_tellsOfNobody 41 = .ok (.istore_n 3, 1) := by decide +kernel
theorem dX4_tellsOfNobody_42 : decode cX4_tellsOfNobody 42 = .ok (.aload_n 0, 1) := by decide +kernel
theorem dX4_tellsOfNobody_43 : decode cX4_tellsOfNobody 43 = .ok (.getfield 33, 3) := by decide +kernel
theorem dX4_tellsOfNobody_46 : decode cX4_tellsOfNobody 46 = .ok (.iload_n 1, 1) := by decide +kernel
theorem dX4_tellsOfNobody_47 : decode cX4_tellsOfNobody 47 = .ok (.iconst 5, 1) := by decide +kernel
theorem dX4_tellsOfNobody_48 : decode cX4_tellsOfNobody 48 = .ok (.imul, 1) := by decide +kernel
theorem dX4_tellsOfNobody_49 : decode cX4_tellsOfNobody 49 = .ok (.iload_n 2, 1) := by decide +kernel
theorem dX4_tellsOfNobody_50 : decode cX4_tellsOfNobody 50 = .ok (.iadd, 1) := by decide +kernel
theorem dX4_tellsOfNobody_51 : decode cX4_tellsOfNobody 51 = .ok (.invokestatic 109, 3) := by decide +kernel
theorem dX4_tellsOfNobody_54 : decode cX4_tellsOfNobody 54 = .ok (.ifCond .eq 9, 3) := by decide +kernel
theorem dX4_tellsOfNobody_57 : decode cX4_tellsOfNobody 57 = .ok (.iload_n 3, 1) := by decide +kernel
theorem dX4_tellsOfNobody_58 : decode cX4_tellsOfNobody 58 = .ok (.ifCond .ne 5, 3) := by decide +kernel
theorem dX4_tellsOfNobody_61 : decode cX4_tellsOfNobody 61 = .ok (.iconst 1, 1) := by decide +kernel
theorem dX4_tellsOfNobody_62 : decode cX4_tellsOfNobody 62 = .ok (.ireturn, 1) := by decide +kernel
theorem dX4_tellsOfNobody_63 : decode cX4_tellsOfNobody 63 = .ok (.iinc 2 1, 3) := by decide +kernel
theorem dX4_tellsOfNobody_66 : decode cX4_tellsOfNobody 66 = .ok (.goto (-57), 3) := by decide +kernel
theorem dX4_tellsOfNobody_69 : decode cX4_tellsOfNobody 69 = .ok (.iinc 1 1, 3) := by decide +kernel
theorem dX4_tellsOfNobody_72 : decode cX4_tellsOfNobody 72 = .ok (.goto (-70), 3) := by decide +kernel
theorem dX4_tellsOfNobody_75 : decode cX4_tellsOfNobody 75 = .ok (.iconst 0, 1) := by decide +kernel
theorem dX4_tellsOfNobody_76 : decode cX4_tellsOfNobody 76 = .ok (.ireturn, 1) := by decide +kernel
theorem dX4_readToken_0 : decode cX4_readToken 0 = .ok (.aload_n 0, 1) := by decide +kernel
theorem dX4_readToken_1 : decode cX4_readToken 1 = .ok (.getfield 36, 3) := by decide +kernel
theorem dX4_readToken_4 : decode cX4_readToken 4 = .ok (.aload_n 0, 1) := by decide +kernel
theorem dX4_readToken_5 : decode cX4_readToken 5 = .ok (.getfield 52, 3) := by decide +kernel
theorem dX4_readToken_8 : decode cX4_readToken 8 = .ok (.if_icmp .ge 30, 3) := by decide +kernel
theorem dX4_readToken_11 : decode cX4_readToken 11 = .ok (.aload_n 0, 1) := by decide +kernel
theorem dX4_readToken_12 : decode cX4_readToken 12 = .ok (.getfield 9, 3) := by decide +kernel
theorem dX4_readToken_15 : decode cX4_readToken 15 = .ok (.aload_n 0, 1) := by decide +kernel
theorem dX4_readToken_16 : decode cX4_readToken 16 = .ok (.getfield 36, 3) := by decide +kernel
theorem dX4_readToken_19 : decode cX4_readToken 19 = .ok (.iaload, 1) := by decide +kernel
theorem dX4_readToken_20 : decode cX4_readToken 20 = .ok (.bipush 32, 2) := by decide +kernel
theorem dX4_readToken_22 : decode cX4_readToken 22 = .ok (.if_icmp .ne 16, 3) := by decide +kernel
theorem dX4_readToken_25 : decode cX4_readToken 25 = .ok (.aload_n 0, 1) := by decide +kernel
theorem dX4_readToken_26 : decode cX4_readToken 26 = .ok (.dup, 1) := by decide +kernel
theorem dX4_readToken_27 : decode cX4_readToken 27 = .ok (.getfield 36, 3) := by decide +kernel
theorem dX4_readToken_30 : decode cX4_readToken 30 = .ok (.iconst 1, 1) := by decide +kernel
theorem dX4_readToken_31 : decode cX4_readToken 31 = .ok (.iadd, 1) := by decide +kernel
theorem dX4_readToken_32 : decode cX4_readToken 32 = .ok (.putfield 36, 3) := by decide +kernel
theorem dX4_readToken_35 : decode cX4_readToken 35 = .ok (.goto (-35), 3) := by decide +kernel
theorem dX4_readToken_38 : decode cX4_readToken 38 = .ok (.aload_n 0, 1) := by decide +kernel
theorem dX4_readToken_39 : decode cX4_readToken 39 = .ok (.aload_n 0, 1) := by decide +kernel
theorem dX4_readToken_40 : decode cX4_readToken 40 = .ok (.getfield 36, 3) := by decide +kernel
theorem dX4_readToken_43 : decode cX4_readToken 43 = .ok (.putfield 66, 3) := by decide +kernel
theorem dX4_readToken_46 : decode cX4_readToken 46 = .ok (.aload_n 0, 1) := by decide +kernel
theorem dX4_readToken_47 : decode cX4_readToken 47 = .ok (.getfield 36, 3) := by decide +kernel
theorem dX4_readToken_50 : decode cX4_readToken 50 = .ok (.aload_n 0, 1) := by decide +kernel
theorem dX4_readToken_51 : decode cX4_readToken 51 = .ok (.getfield 52, 3) := by decide +kernel
theorem dX4_readToken_54 : decode cX4_readToken 54 = .ok (.if_icmp .lt 10, 3) := by decide +kernel
theorem dX4_readToken_57 : decode cX4_readToken 57 = .ok (.aload_n 0, 1) := by decide +kernel
theorem dX4_readToken_58 : decode cX4_readToken 58 = .ok (.iconst 0, 1) := by decide +kernel
theorem dX4_readToken_59 : decode cX4_readToken 59 = .ok (.putfield 43, 3) := by decide +kernel
theorem dX4_readToken_62 : decode cX4_readToken 62 = .ok (.iconst 1, 1) := by decide +kernel
theorem dX4_readToken_63 : decode cX4_readToken 63 = .ok (.ireturn, 1) := by decide +kernel
theorem dX4_readToken_64 : decode cX4_readToken 64 = .ok (.aload_n 0, 1) := by decide +kernel
theorem dX4_readToken_65 : decode cX4_readToken 65 = .ok (.getfield 9, 3) := by decide +kernel
theorem dX4_readToken_68 : decode cX4_readToken 68 = .ok (.aload_n 0, 1) := by decide +kernel
theorem dX4_readToken_69 : decode cX4_readToken 69 = .ok (.getfield 36, 3) := by decide +kernel
theorem dX4_readToken_72 : decode cX4_readToken 72 = .ok (.iaload, 1) := by decide +kernel
theorem dX4_readToken_73 : decode cX4_readToken 73 = .ok (.bipush 59, 2) := by decide +kernel
theorem dX4_readToken_75 : decode cX4_readToken 75 = .ok (.if_icmp .ne 20, 3) := by decide +kernel
theorem dX4_readToken_78 : decode cX4_readToken 78 = .ok (.aload_n 0, 1) := by decide +kernel
theorem dX4_readToken_79 : decode cX4_readToken 79 = .ok (.iconst 3, 1) := by decide +kernel
theorem dX4_readToken_80 : decode cX4_readToken 80 = .ok (.putfield 43, 3) := by decide +kernel
theorem dX4_readToken_83 : decode cX4_readToken 83 = .ok (.aload_n 0, 1) := by decide +kernel
theorem dX4_readToken_84 : decode cX4_readToken 84 = .ok (.dup, 1) := by decide +kernel
theorem dX4_readToken_85 : decode cX4_readToken 85 = .ok (.getfield 36, 3) := by decide +kernel
theorem dX4_readToken_88 : decode cX4_readToken 88 = .ok (.iconst 1, 1) := by decide +kernel
theorem dX4_readToken_89 : decode cX4_readToken 89 = .ok (.iadd, 1) := by decide +kernel
theorem dX4_readToken_90 : decode cX4_readToken 90 = .ok (.putfield 36, 3) := by decide +kernel
theorem dX4_readToken_93 : decode cX4_readToken 93 = .ok (.iconst 1, 1) := by decide +kernel
theorem dX4_readToken_94 : decode cX4_readToken 94 = .ok (.ireturn, 1) := by decide +kernel
theorem dX4_readToken_95 : decode cX4_readToken 95 = .ok (.aload_n 0, 1) := by decide +kernel
theorem dX4_readToken_96 : decode cX4_readToken 96 = .ok (.getfield 9, 3) := by decide +kernel
theorem dX4_readToken_99 : decode cX4_readToken 99 = .ok (.aload_n 0, 1) := by decide +kernel
theorem dX4_readToken_100 : decode cX4_readToken 100 = .ok (.getfield 36, 3) := by decide +kernel
theorem dX4_readToken_103 : decode cX4_readToken 103 = .ok (.iaload, 1) := by decide +kernel
theorem dX4_readToken_104 : decode cX4_readToken 104 = .ok (.bipush 97, 2) := by decide +kernel
theorem dX4_readToken_106 : decode cX4_readToken 106 = .ok (.bipush 122, 2) := by decide +kernel
theorem dX4_readToken_108 : decode cX4_readToken 108 = .ok (.invokestatic 121, 3) := by decide +kernel
theorem dX4_readToken_111 : decode cX4_readToken 111 = .ok (.ifCond .eq 22, 3) := by decide +kernel
theorem dX4_readToken_114 : decode cX4_readToken 114 = .ok (.aload_n 0, 1) := by decide +kernel
theorem dX4_readToken_115 : decode cX4_readToken 115 = .ok (.iconst 1, 1) := by decide +kernel
theorem dX4_readToken_116 : decode cX4_readToken 116 = .ok (.putfield 43, 3) := by decide +kernel
theorem dX4_readToken_119 : decode cX4_readToken 119 = .ok (.aload_n 0, 1) := by decide +kernel
theorem dX4_readToken_120 : decode cX4_readToken 120 = .ok (.aload_n 0, 1) := by decide +kernel
theorem dX4_readToken_121 : decode cX4_readToken 121 = .ok (.bipush 97, 2) := by decide +kernel
theorem dX4_readToken_123 : decode cX4_readToken 123 = .ok (.bipush 122, 2) := by decide +kernel
theorem dX4_readToken_125 : decode cX4_readToken 125 = .ok (.invokevirtual 125, 3) := by decide +kernel
theorem dX4_readToken_128 : decode cX4_readToken 128 = .ok (.putfield 36, 3) := by decide +kernel
theorem dX4_readToken_131 : decode cX4_readToken 131 = .ok (.iconst 1, 1) := by decide +kernel
theorem dX4_readToken_132 : decode cX4_readToken 132 = .ok (.ireturn, 1) := by decide +kernel
theorem dX4_readToken_133 : decode cX4_readToken 133 = .ok (.aload_n 0, 1) := by decide +kernel
theorem dX4_readToken_134 : decode cX4_readToken 134 = .ok (.iconst 2, 1) := by decide +kernel
theorem dX4_readToken_135 : decode cX4_readToken 135 = .ok (.putfield 43, 3) := by decide +kernel
theorem dX4_readToken_138 : decode cX4_readToken 138 = .ok (.aload_n 0, 1) := by decide +kernel
theorem dX4_readToken_139 : decode cX4_readToken 139 = .ok (.aload_n 0, 1) := by decide +kernel
theorem dX4_readToken_140 : decode cX4_readToken 140 = .ok (.bipush 48, 2) := by decide +kernel
theorem dX4_readToken_142 : decode cX4_readToken 142 = .ok (.bipush 57, 2) := by decide +kernel
theorem dX4_readToken_144 : decode cX4_readToken 144 = .ok (.invokevirtual 125, 3) := by decide +kernel
theorem dX4_readToken_147 : decode cX4_readToken 147 = .ok (.putfield 36, 3) := by decide +kernel
theorem dX4_readToken_150 : decode cX4_readToken 150 = .ok (.aload_n 0, 1) := by decide +kernel
theorem dX4_readToken_151 : decode cX4_readToken 151 = .ok (.getfield 36, 3) := by decide +kernel
theorem dX4_readToken_154 : decode cX4_readToken 154 = .ok (.aload_n 0, 1) := by decide +kernel
theorem dX4_readToken_155 : decode cX4_readToken 155 = .ok (.getfield 66, 3) := by decide +kernel
theorem dX4_readToken_158 : decode cX4_readToken 158 = .ok (.isub, 1) := by decide +kernel
theorem dX4_readToken_159 : decode cX4_readToken 159 = .ok (.iconst 1, 1) := by decide +kernel
theorem dX4_readToken_160 : decode cX4_readToken 160 = .ok (.iconst 2, 1) := by decide +kernel
theorem dX4_readToken_161 : decode cX4_readToken 161 = .ok (.invokestatic 121, 3) := by decide +kernel
theorem dX4_readToken_164 : decode cX4_readToken 164 = .ok (.ifCond .ne 15, 3) := by decide +kernel
theorem dX4_readToken_167 : decode cX4_readToken 167 = .ok (.aload_n 0, 1) := by decide +kernel
theorem dX4_readToken_168 : decode cX4_readToken 168 = .ok (.iconst 1, 1) := by decide +kernel
theorem dX4_readToken_169 : decode cX4_readToken 169 = .ok (.aload_n 0, 1) := by decide +kernel
theorem dX4_readToken_170 : decode cX4_readToken 170 = .ok (.getfield 66, 3) := by decide +kernel
theorem dX4_readToken_173 : decode cX4_readToken 173 = .ok (.invokevirtual 55, 3) := by decide +kernel
theorem dX4_readToken_176 : decode cX4_readToken 176 = .ok (.ifCond .eq 7, 3) := by decide +kernel
theorem dX4_readToken_179 : decode cX4_readToken 179 = .ok (.iconst 1, 1) := by decide +kernel
theorem dX4_readToken_180 : decode cX4_readToken 180 = .ok (.goto 4, 3) := by decide +kernel
theorem dX4_readToken_183 : decode cX4_readToken 183 = .ok (.iconst 0, 1) := by decide +kernel
theorem dX4_readToken_184 : decode cX4_readToken 184 = .ok (.ireturn, 1) := by decide +kernel
theorem dX4_behind_0 : decode cX4_behind 0 = .ok (.aload_n 0, 1) := by decide +kernel
theorem dX4_behind_1 : decode cX4_behind 1 = .ok (.getfield 66, 3) := by decide +kernel
theorem dX4_behind_4 : decode cX4_behind 4 = .ok (.istore_n 3, 1) := by decide +kernel
theorem dX4_behind_5 : decode cX4_behind 5 = .ok (.iload_n 3, 1) := by decide +kernel
theorem dX4_behind_6 : decode cX4_behind 6 = .ok (.aload_n 0, 1) := by decide +kernel
theorem dX4_behind_7 : decode cX4_behind 7 = .ok (.getfield 52, 3) := by decide +kernel
theorem dX4_behind_10 : decode cX4_behind 10 = .ok (.if_icmp .ge 29, 3) := by decide +kernel
theorem dX4_behind_13 : decode cX4_behind 13 = .ok (.aload_n 0, 1) := by decide +kernel
theorem dX4_behind_14 : decode cX4_behind 14 = .ok (.getfield 9, 3) := by decide +kernel
theorem dX4_behind_17 : decode cX4_behind 17 = .ok (.iload_n 3, 1) := by decide +kernel
theorem dX4_behind_18 : decode cX4_behind 18 = .ok (.iaload, 1) := by decide +kernel
theorem dX4_behind_19 : decode cX4_behind 19 = .ok (.iload_n 1, 1) := by decide +kernel
theorem dX4_behind_20 : decode cX4_behind 20 = .ok (.if_icmp .lt 19, 3) := by decide +kernel
theorem dX4_behind_23 : decode cX4_behind 23 = .ok (.aload_n 0, 1) := by decide +kernel
theorem dX4_behind_24 : decode cX4_behind 24 = .ok (.getfield 9, 3) := by decide +kernel
theorem dX4_behind_27 : decode cX4_behind 27 = .ok (.iload_n 3, 1) := by decide +kernel
theorem dX4_behind_28 : decode cX4_behind 28 = .ok (.iaload, 1) := by decide +kernel
theorem dX4_behind_29 : decode cX4_behind 29 = .ok (.iload_n 2, 1) := by decide +kernel
theorem dX4_behind_30 : decode cX4_behind 30 = .ok (.if_icmp .gt 9, 3) := by decide +kernel
theorem dX4_behind_33 : decode cX4_behind 33 = .ok (.iinc 3 1, 3) := by decide +kernel
theorem dX4_behind_36 : decode cX4_behind 36 = .ok (.goto (-31), 3) := by decide +kernel
theorem dX4_behind_39 : decode cX4_behind 39 = .ok (.iload_n 3, 1) := by decide +kernel
theorem dX4_behind_40 : decode cX4_behind 40 = .ok (.ireturn, 1) := by decide +kernel
theorem dX4_lineOfName_0 : decode cX4_lineOfName 0 = .ok (.aload_n 0, 1) := by decide +kernel
theorem dX4_lineOfName_1 : decode cX4_lineOfName 1 = .ok (.ldc 129, 2) := by decide +kernel
theorem dX4_lineOfName_3 : decode cX4_lineOfName 3 = .ok (.invokevirtual 131, 3) := by decide +kernel
theorem dX4_lineOfName_6 : decode cX4_lineOfName 6 = .ok (.ifCond .eq 5, 3) := by decide +kernel
theorem dX4_lineOfName_9 : decode cX4_lineOfName 9 = .ok (.iconst 0, 1) := by decide +kernel
theorem dX4_lineOfName_10 : decode cX4_lineOfName 10 = .ok (.ireturn, 1) := by decide +kernel
theorem dX4_lineOfName_11 : decode cX4_lineOfName 11 = .ok (.aload_n 0, 1) := by decide +kernel
theorem dX4_lineOfName_12 : decode cX4_lineOfName 12 = .ok (.ldc 135, 2) := by decide +kernel
theorem dX4_lineOfName_14 : decode cX4_lineOfName 14 = .ok (.invokevirtual 131, 3) := by decide +kernel
theorem dX4_lineOfName_17 : decode cX4_lineOfName 17 = .ok (.ifCond .eq 5, 3) := by decide +kernel
theorem dX4_lineOfName_20 : decode cX4_lineOfName 20 = .ok (.iconst 1, 1) := by decide +kernel
theorem dX4_lineOfName_21 : decode cX4_lineOfName 21 = .ok (.ireturn, 1) := by decide +kernel
theorem dX4_lineOfName_22 : decode cX4_lineOfName 22 = .ok (.aload_n 0, 1) := by decide +kernel
theorem dX4_lineOfName_23 : decode cX4_lineOfName 23 = .ok (.ldc 137, 2) := by decide +kernel
theorem dX4_lineOfName_25 : decode cX4_lineOfName 25 = .ok (.invokevirtual 131, 3) := by decide +kernel
theorem dX4_lineOfName_28 : decode cX4_lineOfName 28 = .ok (.ifCond .eq 5, 3) := by decide +kernel
theorem dX4_lineOfName_31 : decode cX4_lineOfName 31 = .ok (.iconst 2, 1) := by decide +kernel
theorem dX4_lineOfName_32 : decode cX4_lineOfName 32 = .ok (.ireturn, 1) := by decide +kernel
theorem dX4_lineOfName_33 : decode cX4_lineOfName 33 = .ok (.aload_n 0, 1) := by decide +kernel
theorem dX4_lineOfName_34 : decode cX4_lineOfName 34 = .ok (.ldc 139, 2) := by decide +kernel
theorem dX4_lineOfName_36 : decode cX4_lineOfName 36 = .ok (.invokevirtual 131, 3) := by decide +kernel
theorem dX4_lineOfName_39 : decode cX4_lineOfName 39 = .ok (.ifCond .eq 5, 3) := by decide +kernel
theorem dX4_lineOfName_42 : decode cX4_lineOfName 42 = .ok (.iconst 3, 1) := by decide +kernel
theorem dX4_lineOfName_43 : decode cX4_lineOfName 43 = .ok (.ireturn, 1) := by decide +kernel
theorem dX4_lineOfName_44 : decode cX4_lineOfName 44 = .ok (.aload_n 0, 1) := by decide +kernel
theorem dX4_lineOfName_45 : decode cX4_lineOfName 45 = .ok (.ldc 141, 2) := by decide +kernel
theorem dX4_lineOfName_47 : decode cX4_lineOfName 47 = .ok (.invokevirtual 131, 3) := by decide +kernel
theorem dX4_lineOfName_50 : decode cX4_lineOfName 50 = .ok (.ifCond .eq 5, 3) := by decide +kernel
theorem dX4_lineOfName_53 : decode cX4_lineOfName 53 = .ok (.iconst 4, 1) := by decide +kernel
theorem dX4_lineOfName_54 : decode cX4_lineOfName 54 = .ok (.ireturn, 1) := by decide +kernel
theorem dX4_lineOfName_55 : decode cX4_lineOfName 55 = .ok (.aload_n 0, 1) := by decide +kernel
theorem dX4_lineOfName_56 : decode cX4_lineOfName 56 = .ok (.ldc 143, 2) := by decide +kernel
theorem dX4_lineOfName_58 : decode cX4_lineOfName 58 = .ok (.invokevirtual 131, 3) := by decide +kernel
theorem dX4_lineOfName_61 : decode cX4_lineOfName 61 = .ok (.ifCond .eq 7, 3) := by decide +kernel
theorem dX4_lineOfName_64 : decode cX4_lineOfName 64 = .ok (.iconst 5, 1) := by decide +kernel
theorem dX4_lineOfName_65 : decode cX4_lineOfName 65 = .ok (.goto 4, 3) := by decide +kernel
theorem dX4_lineOfName_68 : decode cX4_lineOfName 68 = .ok (.iconst (-1), 1) := by decide +kernel
theorem dX4_lineOfName_69 : decode cX4_lineOfName 69 = .ok (.ireturn, 1) := by decide +kernel
theorem dX4_isName_0 : decode cX4_isName 0 = .ok (.aload_n 1, 1) := by decide +kernel
theorem dX4_isName_1 : decode cX4_isName 1 = .ok (.invokevirtual 145, 3) := by decide +kernel
theorem dX4_isName_4 : decode cX4_isName 4 = .ok (.aload_n 0, 1) := by decide +kernel
theorem dX4_isName_5 : decode cX4_isName 5 = .ok (.getfield 36, 3) := by decide +kernel
theorem dX4_isName_8 : decode cX4_isName 8 = .ok (.aload_n 0, 1) := by decide +kernel
theorem dX4_isName_9 : decode cX4_isName 9 = .ok (.getfield 66, 3) := by decide +kernel
theorem dX4_isName_12 : decode cX4_isName 12 = .ok (.isub, 1) := by decide +kernel
theorem dX4_isName_13 : decode cX4_isName 13 = .ok (.if_icmp .eq 5, 3) := by decide +kernel
theorem dX4_isName_16 : decode cX4_isName 16 = .ok (.iconst 0, 1) := by decide +kernel
theorem dX4_isName_17 : decode cX4_isName 17 = .ok (.ireturn, 1) := by decide +kernel
theorem dX4_isName_18 : decode cX4_isName 18 = .ok (.iconst 0, 1) := by decide +kernel
theorem dX4_isName_19 : decode cX4_isName 19 = .ok (.istore_n 2, 1) := by decide +kernel
theorem dX4_isName_20 : decode cX4_isName 20 = .ok (.iload_n 2, 1) := by decide +kernel
theorem dX4_isName_21 : decode cX4_isName 21 = .ok (.aload_n 1, 1) := by decide +kernel
theorem dX4_isName_22 : decode cX4_isName 22 = .ok (.invokevirtual 145, 3) := by decide +kernel
theorem dX4_isName_25 : decode cX4_isName 25 = .ok (.if_icmp .ge 30, 3) := by decide +kernel
theorem dX4_isName_28 : decode cX4_isName 28 = .ok (.aload_n 0, 1) := by decide +kernel
theorem dX4_isName_29 : decode cX4_isName 29 = .ok (.getfield 9, 3) := by decide +kernel
theorem dX4_isName_32 : decode cX4_isName 32 = .ok (.aload_n 0, 1) := by decide +kernel
theorem dX4_isName_33 : decode cX4_isName 33 = .ok (.getfield 66, 3) := by decide +kernel
theorem dX4_isName_36 : decode cX4_isName 36 = .ok (.iload_n 2, 1) := by decide +kernel
theorem dX4_isName_37 : decode cX4_isName 37 = .ok (.iadd, 1) := by decide +kernel
theorem dX4_isName_38 : decode cX4_isName 38 = .ok (.iaload, 1) := by decide +kernel
theorem dX4_isName_39 : decode cX4_isName 39 = .ok (.aload_n 1, 1) := by decide +kernel
theorem dX4_isName_40 : decode cX4_isName 40 = .ok (.iload_n 2, 1) := by decide +kernel
theorem dX4_isName_41 : decode cX4_isName 41 = .ok (.invokevirtual 149, 3) := by decide +kernel
theorem dX4_isName_44 : decode cX4_isName 44 = .ok (.if_icmp .eq 5, 3) := by decide +kernel
theorem dX4_isName_47 : decode cX4_isName 47 = .ok (.iconst 0, 1) := by decide +kernel
theorem dX4_isName_48 : decode cX4_isName 48 = .ok (.ireturn, 1) := by decide +kernel
theorem dX4_isName_49 : decode cX4_isName 49 = .ok (.iinc 2 1, 3) := by decide +kernel
theorem dX4_isName_52 : decode cX4_isName 52 = .ok (.goto (-32), 3) := by decide +kernel
theorem dX4_isName_55 : decode cX4_isName 55 = .ok (.iconst 1, 1) := by decide +kernel
theorem dX4_isName_56 : decode cX4_isName 56 = .ok (.ireturn, 1) := by decide +kernel
theorem dX5_init_0 : decode cX5_init 0 = .ok (.aload_n 0, 1) := by decide +kernel
theorem dX5_init_1 : decode cX5_init 1 = .ok (.invokespecial 3, 3) := by decide +kernel
theorem dX5_init_4 : decode cX5_init 4 = .ok (.aload_n 0, 1) := by decide +kernel
theorem dX5_init_5 : decode cX5_init 5 = .ok (.bipush 9, 2) := by decide +kernel
theorem dX5_init_7 : decode cX5_init 7 = .ok (.anewarray 9, 3) := by decide +kernel
theorem dX5_init_10 : decode cX5_init 10 = .ok (.putfield 11, 3) := by decide +kernel
theorem dX5_init_13 : decode cX5_init 13 = .ok (.iconst 0, 1) := by decide +kernel
theorem dX5_init_14 : decode cX5_init 14 = .ok (.istore_n 1, 1) := by decide +kernel
theorem dX5_init_15 : decode cX5_init 15 = .ok (.iload_n 1, 1) := by decide +kernel
theorem dX5_init_16 : decode cX5_init 16 = .ok (.bipush 8, 2) := by decide +kernel
theorem dX5_init_18 : decode cX5_init 18 = .ok (.if_icmp .gt 22, 3) := by decide +kernel
theorem dX5_init_21 : decode cX5_init 21 = .ok (.aload_n 0, 1) := by decide +kernel
theorem dX5_init_22 : decode cX5_init 22 = .ok (.getfield 11, 3) := by decide +kernel
theorem dX5_init_25 : decode cX5_init 25 = .ok (.iload_n 1, 1) := by decide +kernel
theorem dX5_init_26 : decode cX5_init 26 = .ok (.new 9, 3) := by decide +kernel
theorem dX5_init_29 : decode cX5_init 29 = .ok (.dup, 1) := by decide +kernel
theorem dX5_init_30 : decode cX5_init 30 = .ok (.invokespecial 17, 3) := by decide +kernel
theorem dX5_init_33 : decode cX5_init 33 = .ok (.aastore, 1) := by decide +kernel
theorem dX5_init_34 : decode cX5_init 34 = .ok (.iinc 1 1, 3) := by decide +kernel
theorem dX5_init_37 : decode cX5_init 37 = .ok (.goto (-22), 3) := by decide +kernel
theorem dX5_init_40 : decode cX5_init 40 = .ok (.return_, 1) := by decide +kernel
theorem dX5_meanOver_0 : decode cX5_meanOver 0 = .ok (.aload_n 0, 1) := by decide +kernel
theorem dX5_meanOver_1 : decode cX5_meanOver 1 = .ok (.iload_n 2, 1) := by decide +kernel
theorem dX5_meanOver_2 : decode cX5_meanOver 2 = .ok (.putfield 18, 3) := by decide +kernel
theorem dX5_meanOver_5 : decode cX5_meanOver 5 = .ok (.aload_n 0, 1) := by decide +kernel
theorem dX5_meanOver_6 : decode cX5_meanOver 6 = .ok (.iload_n 3, 1) := by decide +kernel
theorem dX5_meanOver_7 : decode cX5_meanOver 7 = .ok (.putfield 22, 3) := by decide +kernel
theorem dX5_meanOver_10 : decode cX5_meanOver 10 = .ok (.aload_n 0, 1) := by decide +kernel
theorem dX5_meanOver_11 : decode cX5_meanOver 11 = .ok (.getfield 11, 3) := by decide +kernel
theorem dX5_meanOver_14 : decode cX5_meanOver 14 = .ok (.iconst 0, 1) := by decide +kernel
theorem dX5_meanOver_15 : decode cX5_meanOver 15 = .ok (.aaload, 1) := by decide +kernel
theorem dX5_meanOver_16 : decode cX5_meanOver 16 = .ok (.aload_n 1, 1) := by decide +kernel
theorem dX5_meanOver_17 : decode cX5_meanOver 17 = .ok (.invokevirtual 25, 3) := by decide +kernel
theorem dX5_meanOver_20 : decode cX5_meanOver 20 = .ok (.aload_n 0, 1) := by decide +kernel
theorem dX5_meanOver_21 : decode cX5_meanOver 21 = .ok (.iconst 0, 1) := by decide +kernel
theorem dX5_meanOver_22 : decode cX5_meanOver 22 = .ok (.invokevirtual 29, 3) := by decide +kernel
theorem dX5_meanOver_25 : decode cX5_meanOver 25 = .ok (.lstore 5, 2) := by decide +kernel
theorem dX5_meanOver_27 : decode cX5_meanOver 27 = .ok (.lconst 1, 1) := by decide +kernel
theorem dX5_meanOver_28 : decode cX5_meanOver 28 = .ok (.lstore 7, 2) := by decide +kernel
theorem dX5_meanOver_30 : decode cX5_meanOver 30 = .ok (.iconst 0, 1) := by decide +kernel
theorem dX5_meanOver_31 : decode cX5_meanOver 31 = .ok (.istore 9, 2) := by decide +kernel
theorem dX5_meanOver_33 : decode cX5_meanOver 33 = .ok (.iload 9, 2) := by decide +kernel
theorem dX5_meanOver_35 : decode cX5_meanOver 35 = .ok (.iload_n 3, 1) := by decide +kernel
theorem dX5_meanOver_36 : decode cX5_meanOver 36 = .ok (.if_icmp .ge 17, 3) := by decide +kernel
theorem dX5_meanOver_39 : decode cX5_meanOver 39 = .ok (.lload 7, 2) := by decide +kernel
theorem dX5_meanOver_41 : decode cX5_meanOver 41 = .ok (.ldc2_w 33, 3) := by decide +kernel
theorem dX5_meanOver_44 : decode cX5_meanOver 44 = .ok (.lmul, 1) := by decide +kernel
theorem dX5_meanOver_45 : decode cX5_meanOver 45 = .ok (.lstore 7, 2) := by decide +kernel
theorem dX5_meanOver_47 : decode cX5_meanOver 47 = .ok (.iinc 9 1, 3) := by decide +kernel
theorem dX5_meanOver_50 : decode cX5_meanOver 50 = .ok (.goto (-17), 3) := by decide +kernel
theorem dX5_meanOver_53 : decode cX5_meanOver 53 = .ok (.lload 5, 2) := by decide +kernel
theorem dX5_meanOver_55 : decode cX5_meanOver 55 = .ok (.lload 7, 2) := by decide +kernel
theorem dX5_meanOver_57 : decode cX5_meanOver 57 = .ok (.invokestatic 35, 3) := by decide +kernel
theorem dX5_meanOver_60 : decode cX5_meanOver 60 = .ok (.lstore 9, 2) := by decide +kernel
theorem dX5_meanOver_62 : decode cX5_meanOver 62 = .ok (.lload 9, 2) := by decide +kernel
theorem dX5_meanOver_64 : decode cX5_meanOver 64 = .ok (.lconst 0, 1) := by decide +kernel
theorem dX5_meanOver_65 : decode cX5_meanOver 65 = .ok (.lcmp, 1) := by decide +kernel
theorem dX5_meanOver_66 : decode cX5_meanOver 66 = .ok (.ifCond .gt 7, 3) := by decide +kernel
theorem dX5_meanOver_69 : decode cX5_meanOver 69 = .ok (.ldc2_w 39, 3) := by decide +kernel
theorem dX5_meanOver_72 : decode cX5_meanOver 72 = .ok (.lreturn, 1) := by decide +kernel
theorem dX5_meanOver_73 : decode cX5_meanOver 73 = .ok (.iload 4, 2) := by decide +kernel
theorem dX5_meanOver_75 : decode cX5_meanOver 75 = .ok (.ifCond .ne 8, 3) := by decide +kernel
theorem dX5_meanOver_78 : decode cX5_meanOver 78 = .ok (.lload 5, 2) := by decide +kernel
theorem dX5_meanOver_80 : decode cX5_meanOver 80 = .ok (.goto 5, 3) := by decide +kernel
theorem dX5_meanOver_83 : decode cX5_meanOver 83 = .ok (.lload 7, 2) := by decide +kernel
theorem dX5_meanOver_85 : decode cX5_meanOver 85 = .ok (.lload 9, 2) := by decide +kernel
theorem dX5_meanOver_87 : decode cX5_meanOver 87 = .ok (.ldiv, 1) := by decide +kernel
theorem dX5_meanOver_88 : decode cX5_meanOver 88 = .ok (.lreturn, 1) := by decide +kernel
theorem dX5_summed_0 : decode cX5_summed 0 = .ok (.iload_n 1, 1) := by decide +kernel
theorem dX5_summed_1 : decode cX5_summed 1 = .ok (.aload_n 0, 1) := by decide +kernel
theorem dX5_summed_2 : decode cX5_summed 2 = .ok (.getfield 22, 3) := by decide +kernel
theorem dX5_summed_5 : decode cX5_summed 5 = .ok (.if_icmp .ge 9, 3) := by decide +kernel
theorem dX5_summed_8 : decode cX5_summed 8 = .ok (.iload_n 1, 1) := by decide +kernel
theorem dX5_summed_9 : decode cX5_summed 9 = .ok (.bipush 8, 2) := by decide +kernel
theorem dX5_summed_11 : decode cX5_summed 11 = .ok (.if_icmp .lt 14, 3) := by decide +kernel
theorem dX5_summed_14 : decode cX5_summed 14 = .ok (.aload_n 0, 1) := by decide +kernel
theorem dX5_summed_15 : decode cX5_summed 15 = .ok (.aload_n 0, 1) := by decide +kernel
theorem dX5_summed_16 : decode cX5_summed 16 = .ok (.getfield 11, 3) := by decide +kernel
theorem dX5_summed_19 : decode cX5_summed 19 = .ok (.iload_n 1, 1) := by decide +kernel
theorem dX5_summed_20 : decode cX5_summed 20 = .ok (.aaload, 1) := by decide +kernel
theorem dX5_summed_21 : decode cX5_summed 21 = .ok (.invokevirtual 41, 3) := by decide +kernel
theorem dX5_summed_24 : decode cX5_summed 24 = .ok (.lreturn, 1) := by decide +kernel
theorem dX5_summed_25 : decode cX5_summed 25 = .ok (.lconst 0, 1) := by decide +kernel
theorem dX5_summed_26 : decode cX5_summed 26 = .ok (.lstore_n 2, 1) := by decide +kernel
theorem dX5_summed_27 : decode cX5_summed 27 = .ok (.aload_n 0, 1) := by decide +kernel
theorem dX5_summed_28 : decode cX5_summed 28 = .ok (.getfield 18, 3) := by decide +kernel
theorem dX5_summed_31 : decode cX5_summed 31 = .ok (.ifCond .le 25, 3) := by decide +kernel
theorem dX5_summed_34 : decode cX5_summed 34 = .ok (.aload_n 0, 1) := by decide +kernel
theorem dX5_summed_35 : decode cX5_summed 35 = .ok (.iload_n 1, 1) := by decide +kernel
theorem dX5_summed_36 : decode cX5_summed 36 = .ok (.iconst 2, 1) := by decide +kernel
theorem dX5_summed_37 : decode cX5_summed 37 = .ok (.invokevirtual 45, 3) := by decide +kernel
theorem dX5_summed_40 : decode cX5_summed 40 = .ok (.lload_n 2, 1) := by decide +kernel
theorem dX5_summed_41 : decode cX5_summed 41 = .ok (.aload_n 0, 1) := by decide +kernel
theorem dX5_summed_42 : decode cX5_summed 42 = .ok (.getfield 18, 3) := by decide +kernel
theorem dX5_summed_45 : decode cX5_summed 45 = .ok (.i2l, 1) := by decide +kernel
theorem dX5_summed_46 : decode cX5_summed 46 = .ok (.aload_n 0, 1) := by decide +kernel
theorem dX5_summed_47 : decode cX5_summed 47 = .ok (.iload_n 1, 1) := by decide +kernel
theorem dX5_summed_48 : decode cX5_summed 48 = .ok (.iconst 1, 1) := by decide +kernel
theorem dX5_summed_49 : decode cX5_summed 49 = .ok (.iadd, 1) := by decide +kernel
theorem dX5_summed_50 : decode cX5_summed 50 = .ok (.invokevirtual 29, 3) := by decide +kernel
theorem dX5_summed_53 : decode cX5_summed 53 = .ok (.lmul, 1) := by decide +kernel
theorem dX5_summed_54 : decode cX5_summed 54 = .ok (.ladd, 1) := by decide +kernel
theorem dX5_summed_55 : decode cX5_summed 55 = .ok (.lstore_n 2, 1) := by decide +kernel
theorem dX5_summed_56 : decode cX5_summed 56 = .ok (.aload_n 0, 1) := by decide +kernel
theorem dX5_summed_57 : decode cX5_summed 57 = .ok (.getfield 18, 3) := by decide +kernel
theorem dX5_summed_60 : decode cX5_summed 60 = .ok (.bipush 10, 2) := by decide +kernel
theorem dX5_summed_62 : decode cX5_summed 62 = .ok (.if_icmp .ge 28, 3) := by decide +kernel
theorem dX5_summed_65 : decode cX5_summed 65 = .ok (.aload_n 0, 1) := by decide +kernel
theorem dX5_summed_66 : decode cX5_summed 66 = .ok (.iload_n 1, 1) := by decide +kernel
theorem dX5_summed_67 : decode cX5_summed 67 = .ok (.iconst 1, 1) := by decide +kernel
theorem dX5_summed_68 : decode cX5_summed 68 = .ok (.invokevirtual 45, 3) := by decide +kernel
theorem dX5_summed_71 : decode cX5_summed 71 = .ok (.lload_n 2, 1) := by decide +kernel
theorem dX5_summed_72 : decode cX5_summed 72 = .ok (.bipush 10, 2) := by decide +kernel
theorem dX5_summed_74 : decode cX5_summed 74 = .ok (.aload_n 0, 1) := by decide +kernel
theorem dX5_summed_75 : decode cX5_summed 75 = .ok (.getfield 18, 3) := by decide +kernel
theorem dX5_summed_78 : decode cX5_summed 78 = .ok (.isub, 1) := by decide +kernel
theorem dX5_summed_79 : decode cX5_summed 79 = .ok (.i2l, 1) := by decide +kernel
theorem dX5_summed_80 : decode cX5_summed 80 = .ok (.aload_n 0, 1) := by decide +kernel
theorem dX5_summed_81 : decode cX5_summed 81 = .ok (.iload_n 1, 1) := by decide +kernel
theorem dX5_summed_82 : decode cX5_summed 82 = .ok (.iconst 1, 1) := by decide +kernel
theorem dX5_summed_83 : decode cX5_summed 83 = .ok (.iadd, 1) := by decide +kernel
theorem dX5_summed_84 : decode cX5_summed 84 = .ok (.invokevirtual 29, 3) := by decide +kernel
theorem dX5_summed_87 : decode cX5_summed 87 = .ok (.lmul, 1) := by decide +kernel
theorem dX5_summed_88 : decode cX5_summed 88 = .ok (.ladd, 1) := by decide +kernel
theorem dX5_summed_89 : decode cX5_summed 89 = .ok (.lstore_n 2, 1) := by decide +kernel
theorem dX5_summed_90 : decode cX5_summed 90 = .ok (.lload_n 2, 1) := by decide +kernel
theorem dX5_summed_91 : decode cX5_summed 91 = .ok (.lreturn, 1) := by decide +kernel
theorem dX5_passOn_0 : decode cX5_passOn 0 = .ok (.aload_n 0, 1) := by decide +kernel
theorem dX5_passOn_1 : decode cX5_passOn 1 = .ok (.getfield 11, 3) := by decide +kernel
theorem dX5_passOn_4 : decode cX5_passOn 4 = .ok (.iload_n 1, 1) := by decide +kernel
theorem dX5_passOn_5 : decode cX5_passOn 5 = .ok (.iconst 1, 1) := by decide +kernel
theorem dX5_passOn_6 : decode cX5_passOn 6 = .ok (.iadd, 1) := by decide +kernel
theorem dX5_passOn_7 : decode cX5_passOn 7 = .ok (.aaload, 1) := by decide +kernel
theorem dX5_passOn_8 : decode cX5_passOn 8 = .ok (.astore_n 3, 1) := by decide +kernel
theorem dX5_passOn_9 : decode cX5_passOn 9 = .ok (.aload_n 3, 1) := by decide +kernel
theorem dX5_passOn_10 : decode cX5_passOn 10 = .ok (.aload_n 0, 1) := by decide +kernel
theorem dX5_passOn_11 : decode cX5_passOn 11 = .ok (.getfield 11, 3) := by decide +kernel
theorem dX5_passOn_14 : decode cX5_passOn 14 = .ok (.iload_n 1, 1) := by decide +kernel
theorem dX5_passOn_15 : decode cX5_passOn 15 = .ok (.aaload, 1) := by decide +kernel
theorem dX5_passOn_16 : decode cX5_passOn 16 = .ok (.invokevirtual 25, 3) := by decide +kernel
theorem dX5_passOn_19 : decode cX5_passOn 19 = .ok (.aload_n 0, 1) := by decide +kernel
theorem dX5_passOn_20 : decode cX5_passOn 20 = .ok (.getfield 49, 3) := by decide +kernel
theorem dX5_passOn_23 : decode cX5_passOn 23 = .ok (.iconst (-1), 1) := by decide +kernel
theorem dX5_passOn_24 : decode cX5_passOn 24 = .ok (.if_icmp .ne 11, 3) := by decide +kernel
theorem dX5_passOn_27 : decode cX5_passOn 27 = .ok (.aload_n 3, 1) := by decide +kernel
theorem dX5_passOn_28 : decode cX5_passOn 28 = .ok (.iload_n 2, 1) := by decide +kernel
theorem dX5_passOn_29 : decode cX5_passOn 29 = .ok (.invokevirtual 52, 3) := by decide +kernel
theorem dX5_passOn_32 : decode cX5_passOn 32 = .ok (.goto 12, 3) := by decide +kernel
theorem dX5_passOn_35 : decode cX5_passOn 35 = .ok (.aload_n 3, 1) := by decide +kernel
theorem dX5_passOn_36 : decode cX5_passOn 36 = .ok (.aload_n 0, 1) := by decide +kernel
theorem dX5_passOn_37 : decode cX5_passOn 37 = .ok (.getfield 49, 3) := by decide +kernel
theorem dX5_passOn_40 : decode cX5_passOn 40 = .ok (.iload_n 2, 1) := by decide +kernel
theorem dX5_passOn_41 : decode cX5_passOn 41 = .ok (.invokevirtual 56, 3) := by decide +kernel
theorem dX5_passOn_44 : decode cX5_passOn 44 = .ok (.return_, 1) := by decide +kernel
theorem dX5_lookedAt_0 : decode cX5_lookedAt 0 = .ok (.aload_n 0, 1) := by decide +kernel
theorem dX5_lookedAt_1 : decode cX5_lookedAt 1 = .ok (.getfield 49, 3) := by decide +kernel
theorem dX5_lookedAt_4 : decode cX5_lookedAt 4 = .ok (.iconst (-1), 1) := by decide +kernel
theorem dX5_lookedAt_5 : decode cX5_lookedAt 5 = .ok (.if_icmp .ne 9, 3) := by decide +kernel
theorem dX5_lookedAt_8 : decode cX5_lookedAt 8 = .ok (.aload_n 1, 1) := by decide +kernel
theorem dX5_lookedAt_9 : decode cX5_lookedAt 9 = .ok (.invokevirtual 59, 3) := by decide +kernel
theorem dX5_lookedAt_12 : decode cX5_lookedAt 12 = .ok (.i2l, 1) := by decide +kernel
theorem dX5_lookedAt_13 : decode cX5_lookedAt 13 = .ok (.lreturn, 1) := by decide +kernel
theorem dX5_lookedAt_14 : decode cX5_lookedAt 14 = .ok (.aload_n 1, 1) := by decide +kernel
theorem dX5_lookedAt_15 : decode cX5_lookedAt 15 = .ok (.aload_n 0, 1) := by decide +kernel
theorem dX5_lookedAt_16 : decode cX5_lookedAt 16 = .ok (.getfield 49, 3) := by decide +kernel
theorem dX5_lookedAt_19 : decode cX5_lookedAt 19 = .ok (.invokevirtual 63, 3) := by decide +kernel
theorem dX5_lookedAt_22 : decode cX5_lookedAt 22 = .ok (.aload_n 0, 1) := by decide +kernel
theorem dX5_lookedAt_23 : decode cX5_lookedAt 23 = .ok (.getfield 67, 3) := by decide +kernel
theorem dX5_lookedAt_26 : decode cX5_lookedAt 26 = .ok (.if_icmp .ne 7, 3) := by decide +kernel
theorem dX5_lookedAt_29 : decode cX5_lookedAt 29 = .ok (.lconst 1, 1) := by decide +kernel
theorem dX5_lookedAt_30 : decode cX5_lookedAt 30 = .ok (.goto 4, 3) := by decide +kernel
theorem dX5_lookedAt_33 : decode cX5_lookedAt 33 = .ok (.lconst 0, 1) := by decide +kernel
theorem dX5_lookedAt_34 : decode cX5_lookedAt 34 = .ok (.lreturn, 1) := by decide +kernel
theorem dX5_commonDivisor_0 : decode cX5_commonDivisor 0 = .ok (.lload_n 0, 1) := by decide +kernel
theorem dX5_commonDivisor_1 : decode cX5_commonDivisor 1 = .ok (.lstore 4, 2) := by decide +kernel
theorem dX5_commonDivisor_3 : decode cX5_commonDivisor 3 = .ok (.lload_n 2, 1) := by decide +kernel
theorem dX5_commonDivisor_4 : decode cX5_commonDivisor 4 = .ok (.lstore 6, 2) := by decide +kernel
theorem dX5_commonDivisor_6 : decode cX5_commonDivisor 6 = .ok (.iconst 0, 1) := by decide +kernel
theorem dX5_commonDivisor_7 : decode cX5_commonDivisor 7 = .ok (.istore 8, 2) := by decide +kernel
theorem dX5_commonDivisor_9 : decode cX5_commonDivisor 9 = .ok (.iload 8, 2) := by decide +kernel
theorem dX5_commonDivisor_11 : decode cX5_commonDivisor 11 = .ok (.sipush 200, 3) := by decide +kernel
theorem dX5_commonDivisor_14 : decode cX5_commonDivisor 14 = .ok (.if_icmp .ge 31, 3) := by decide +kernel
theorem dX5_commonDivisor_17 : decode cX5_commonDivisor 17 = .ok (.lload 6, 2) := by decide +kernel
theorem dX5_commonDivisor_19 : decode cX5_commonDivisor 19 = .ok (.lconst 0, 1) := by decide +kernel
theorem dX5_commonDivisor_20 : decode cX5_commonDivisor 20 = .ok (.lcmp, 1) := by decide +kernel
theorem dX5_commonDivisor_21 : decode cX5_commonDivisor 21 = .ok (.ifCond .eq 24, 3) := by decide +kernel
theorem dX5_commonDivisor_24 : decode cX5_commonDivisor 24 = .ok (.lload 4, 2) := by decide +kernel
theorem dX5_commonDivisor_26 : decode cX5_commonDivisor 26 = .ok (.lload 6, 2) := by decide +kernel
theorem dX5_commonDivisor_28 : decode cX5_commonDivisor 28 = .ok (.lrem, 1) := by decide +kernel
theorem dX5_commonDivisor_29 : decode cX5_commonDivisor 29 = .ok (.lstore 9, 2) := by decide +kernel
theorem dX5_commonDivisor_31 : decode cX5_commonDivisor 31 = .ok (.lload 6, 2) := by decide +kernel
theorem dX5_commonDivisor_33 : decode cX5_commonDivisor 33 = .ok (.lstore 4, 2) := by decide +kernel
theorem dX5_commonDivisor_35 : decode cX5_commonDivisor 35 = .ok (.lload 9, 2) := by decide +kernel
theorem dX5_commonDivisor_37 : decode cX5_commonDivisor 37 = .ok (.lstore 6, 2) := by decide +kernel
theorem dX5_commonDivisor_39 : decode cX5_commonDivisor 39 = .ok (.iinc 8 1, 3) := by decide +kernel
theorem dX5_commonDivisor_42 : decode cX5_commonDivisor 42 = .ok (.goto (-33), 3) := by decide +kernel
theorem dX5_commonDivisor_45 : decode cX5_commonDivisor 45 = .ok (.lload 4, 2) := by decide +kernel
theorem dX5_commonDivisor_47 : decode cX5_commonDivisor 47 = .ok (.lreturn, 1) := by decide +kernel
theorem dJ6_bitCount_0f7a4_0 : decode cJ6_bitCount_0f7a4 0 = .ok (.iload_n 0, 1) := by decide +kernel
theorem dJ6_bitCount_0f7a4_1 : decode cJ6_bitCount_0f7a4 1 = .ok (.iload_n 0, 1) := by decide +kernel
theorem dJ6_bitCount_0f7a4_2 : decode cJ6_bitCount_0f7a4 2 = .ok (.iconst 1, 1) := by decide +kernel
theorem dJ6_bitCount_0f7a4_3 : decode cJ6_bitCount_0f7a4 3 = .ok (.iushr, 1) := by decide +kernel
theorem dJ6_bitCount_0f7a4_4 : decode cJ6_bitCount_0f7a4 4 = .ok (.ldc_w 265, 3) := by decide +kernel
theorem dJ6_bitCount_0f7a4_7 : decode cJ6_bitCount_0f7a4 7 = .ok (.iand, 1) := by decide +kernel
theorem dJ6_bitCount_0f7a4_8 : decode cJ6_bitCount_0f7a4 8 = .ok (.isub, 1) := by decide +kernel
theorem dJ6_bitCount_0f7a4_9 : decode cJ6_bitCount_0f7a4 9 = .ok (.istore_n 0, 1) := by decide +kernel
theorem dJ6_bitCount_0f7a4_10 : decode cJ6_bitCount_0f7a4 10 = .ok (.iload_n 0, 1) := by decide +kernel
theorem dJ6_bitCount_0f7a4_11 : decode cJ6_bitCount_0f7a4 11 = .ok (.ldc_w 266, 3) := by decide +kernel
theorem dJ6_bitCount_0f7a4_14 : decode cJ6_bitCount_0f7a4 14 = .ok (.iand, 1) := by decide +kernel
theorem dJ6_bitCount_0f7a4_15 : decode cJ6_bitCount_0f7a4 15 = .ok (.iload_n 0, 1) := by decide +kernel
theorem dJ6_bitCount_0f7a4_16 : decode cJ6_bitCount_0f7a4 16 = .ok (.iconst 2, 1) := by decide +kernel
theorem dJ6_bitCount_0f7a4_17 : decode cJ6_bitCount_0f7a4 17 = .ok (.iushr, 1) := by decide +kernel
theorem dJ6_bitCount_0f7a4_18 : decode cJ6_bitCount_0f7a4 18 = .ok (.ldc_w 266, 3) := by decide +kernel
theorem dJ6_bitCount_0f7a4_21 : decode cJ6_bitCount_0f7a4 21 = .ok (.iand, 1) := by decide +kernel
theorem dJ6_bitCount_0f7a4_22 : decode cJ6_bitCount_0f7a4 22 = .ok (.iadd, 1) := by decide +kernel
theorem dJ6_bitCount_0f7a4_23 : decode cJ6_bitCount_0f7a4 23 = .ok (.istore_n 0, 1) := by decide +kernel
theorem dJ6_bitCount_0f7a4_24 : decode cJ6_bitCount_0f7a4 24 = .ok (.iload_n 0, 1) := by decide +kernel
theorem dJ6_bitCount_0f7a4_25 : decode cJ6_bitCount_0f7a4 25 = .ok (.iload_n 0, 1) := by decide +kernel
theorem dJ6_bitCount_0f7a4_26 : decode cJ6_bitCount_0f7a4 26 = .ok (.iconst 4, 1) := by decide +kernel
theorem dJ6_bitCount_0f7a4_27 : decode cJ6_bitCount_0f7a4 27 = .ok (.iushr, 1) := by decide +kernel
theorem dJ6_bitCount_0f7a4_28 : decode cJ6_bitCount_0f7a4 28 = .ok (.iadd, 1) := by decide +kernel
theorem dJ6_bitCount_0f7a4_29 : decode cJ6_bitCount_0f7a4 29 = .ok (.ldc_w 267, 3) := by decide +kernel
theorem dJ6_bitCount_0f7a4_32 : decode cJ6_bitCount_0f7a4 32 = .ok (.iand, 1) := by decide +kernel
theorem dJ6_bitCount_0f7a4_33 : decode cJ6_bitCount_0f7a4 33 = .ok (.istore_n 0, 1) := by decide +kernel
theorem dJ6_bitCount_0f7a4_34 : decode cJ6_bitCount_0f7a4 34 = .ok (.iload_n 0, 1) := by decide +kernel
theorem dJ6_bitCount_0f7a4_35 : decode cJ6_bitCount_0f7a4 35 = .ok (.iload_n 0, 1) := by decide +kernel
theorem dJ6_bitCount_0f7a4_36 : decode cJ6_bitCount_0f7a4 36 = .ok (.bipush 8, 2) := by decide +kernel
theorem dJ6_bitCount_0f7a4_38 : decode cJ6_bitCount_0f7a4 38 = .ok (.iushr, 1) := by decide +kernel
theorem dJ6_bitCount_0f7a4_39 : decode cJ6_bitCount_0f7a4 39 = .ok (.iadd, 1) := by decide +kernel
theorem dJ6_bitCount_0f7a4_40 : decode cJ6_bitCount_0f7a4 40 = .ok (.istore_n 0, 1) := by decide +kernel
theorem dJ6_bitCount_0f7a4_41 : decode cJ6_bitCount_0f7a4 41 = .ok (.iload_n 0, 1) := by decide +kernel
theorem dJ6_bitCount_0f7a4_42 : decode cJ6_bitCount_0f7a4 42 = .ok (.iload_n 0, 1) := by decide +kernel
theorem dJ6_bitCount_0f7a4_43 : decode cJ6_bitCount_0f7a4 43 = .ok (.bipush 16, 2) := by decide +kernel
theorem dJ6_bitCount_0f7a4_45 : decode cJ6_bitCount_0f7a4 45 = .ok (.iushr, 1) := by decide +kernel
theorem dJ6_bitCount_0f7a4_46 : decode cJ6_bitCount_0f7a4 46 = .ok (.iadd, 1) := by decide +kernel
theorem dJ6_bitCount_0f7a4_47 : decode cJ6_bitCount_0f7a4 47 = .ok (.istore_n 0, 1) := by decide +kernel
theorem dJ6_bitCount_0f7a4_48 : decode cJ6_bitCount_0f7a4 48 = .ok (.iload_n 0, 1) := by decide +kernel
theorem dJ6_bitCount_0f7a4_49 : decode cJ6_bitCount_0f7a4 49 = .ok (.bipush 63, 2) := by decide +kernel
theorem dJ6_bitCount_0f7a4_51 : decode cJ6_bitCount_0f7a4 51 = .ok (.iand, 1) := by decide +kernel
theorem dJ6_bitCount_0f7a4_52 : decode cJ6_bitCount_0f7a4 52 = .ok (.ireturn, 1) := by decide +kernel
theorem dJ9_abs_0f7a4_0 : decode cJ9_abs_0f7a4 0 = .ok (.iload_n 0, 1) := by decide +kernel
theorem dJ9_abs_0f7a4_1 : decode cJ9_abs_0f7a4 1 = .ok (.ifCond .ge 8, 3) := by decide +kernel
theorem dJ9_abs_0f7a4_4 : decode cJ9_abs_0f7a4 4 = .ok (.iload_n 0, 1) := by decide +kernel
theorem dJ9_abs_0f7a4_5 : decode cJ9_abs_0f7a4 5 = .ok (.ineg, 1) := by decide +kernel
theorem dJ9_abs_0f7a4_6 : decode cJ9_abs_0f7a4 6 = .ok (.goto 4, 3) := by decide +kernel
theorem dJ9_abs_0f7a4_9 : decode cJ9_abs_0f7a4 9 = .ok (.iload_n 0, 1) := by decide +kernel
theorem dJ9_abs_0f7a4_10 : decode cJ9_abs_0f7a4 10 = .ok (.ireturn, 1) := by decide +kernel
theorem dJ9_max_7cf53_0 : decode cJ9_max_7cf53 0 = .ok (.iload_n 0, 1) := by decide +kernel
theorem dJ9_max_7cf53_1 : decode cJ9_max_7cf53 1 = .ok (.iload_n 1, 1) := by decide +kernel
theorem dJ9_max_7cf53_2 : decode cJ9_max_7cf53 2 = .ok (.if_icmp .lt 7, 3) := by decide +kernel
theorem dJ9_max_7cf53_5 : decode cJ9_max_7cf53 5 = .ok (.iload_n 0, 1) := by decide +kernel
theorem dJ9_max_7cf53_6 : decode cJ9_max_7cf53 6 = .ok (.goto 4, 3) := by decide +kernel
theorem dJ9_max_7cf53_9 : decode cJ9_max_7cf53 9 = .ok (.iload_n 1, 1) := by decide +kernel
theorem dJ9_max_7cf53_10 : decode cJ9_max_7cf53 10 = .ok (.ireturn, 1) := by decide +kernel
theorem dJ9_min_7cf53_0 : decode cJ9_min_7cf53 0 = .ok (.iload_n 0, 1) := by decide +kernel
theorem dJ9_min_7cf53_1 : decode cJ9_min_7cf53 1 = .ok (.iload_n 1, 1) := by decide +kernel
theorem dJ9_min_7cf53_2 : decode cJ9_min_7cf53 2 = .ok (.if_icmp .gt 7, 3) := by decide +kernel
theorem dJ9_min_7cf53_5 : decode cJ9_min_7cf53 5 = .ok (.iload_n 0, 1) := by decide +kernel
theorem dJ9_min_7cf53_6 : decode cJ9_min_7cf53 6 = .ok (.goto 4, 3) := by decide +kernel
theorem dJ9_min_7cf53_9 : decode cJ9_min_7cf53 9 = .ok (.iload_n 1, 1) := by decide +kernel
theorem dJ9_min_7cf53_10 : decode cJ9_min_7cf53 10 = .ok (.ireturn, 1) := by decide +kernel
theorem dJ0_length_8abf5_0 : decode cJ0_length_8abf5 0 = .ok (.aload_n 0, 1) := by decide +kernel
theorem dJ0_length_8abf5_1 : decode cJ0_length_8abf5 1 = .ok (.getfield 9, 3) := by decide +kernel
theorem dJ0_length_8abf5_4 : decode cJ0_length_8abf5 4 = .ok (.arraylength, 1) := by decide +kernel
theorem dJ0_length_8abf5_5 : decode cJ0_length_8abf5 5 = .ok (.aload_n 0, 1) := by decide +kernel
theorem dJ0_length_8abf5_6 : decode cJ0_length_8abf5 6 = .ok (.invokevirtual 335, 3) := by decide +kernel
theorem dJ0_length_8abf5_9 : decode cJ0_length_8abf5 9 = .ok (.ishr, 1) := by decide +kernel
theorem dJ0_length_8abf5_10 : decode cJ0_length_8abf5 10 = .ok (.ireturn, 1) := by decide +kernel
theorem dJ0_charAt_5068e_0 : decode cJ0_charAt_5068e 0 = .ok (.aload_n 0, 1) := by decide +kernel
theorem dJ0_charAt_5068e_1 : decode cJ0_charAt_5068e 1 = .ok (.invokevirtual 492, 3) := by decide +kernel
theorem dJ0_charAt_5068e_4 : decode cJ0_charAt_5068e 4 = .ok (.ifCond .eq 12, 3) := by decide +kernel
theorem dJ0_charAt_5068e_7 : decode cJ0_charAt_5068e 7 = .ok (.aload_n 0, 1) := by decide +kernel
theorem dJ0_charAt_5068e_8 : decode cJ0_charAt_5068e 8 = .ok (.getfield 9, 3) := by decide +kernel
theorem dJ0_charAt_5068e_11 : decode cJ0_charAt_5068e 11 = .ok (.iload_n 1, 1) := by decide +kernel
theorem dJ0_charAt_5068e_12 : decode cJ0_charAt_5068e 12 = .ok (.invokestatic 495, 3) := by decide +kernel
theorem dJ0_charAt_5068e_15 : decode cJ0_charAt_5068e 15 = .ok (.ireturn, 1) := by decide +kernel
theorem dJ0_charAt_5068e_16 : decode cJ0_charAt_5068e 16 = .ok (.aload_n 0, 1) := by decide +kernel
theorem dJ0_charAt_5068e_17 : decode cJ0_charAt_5068e 17 = .ok (.getfield 9, 3) := by decide +kernel
theorem dJ0_charAt_5068e_20 : decode cJ0_charAt_5068e 20 = .ok (.iload_n 1, 1) := by decide +kernel
theorem dJ0_charAt_5068e_21 : decode cJ0_charAt_5068e 21 = .ok (.invokestatic 498, 3) := by decide +kernel
theorem dJ0_charAt_5068e_24 : decode cJ0_charAt_5068e 24 = .ok (.ireturn, 1) := by decide +kernel
theorem dJ0_coder_7d493_0 : decode cJ0_coder_7d493 0 = .ok (.getstatic 38, 3) := by decide +kernel
theorem dJ0_coder_7d493_3 : decode cJ0_coder_7d493 3 = .ok (.ifCond .eq 10, 3) := by decide +kernel
theorem dJ0_coder_7d493_6 : decode cJ0_coder_7d493 6 = .ok (.aload_n 0, 1) := by decide +kernel
theorem dJ0_coder_7d493_7 : decode cJ0_coder_7d493 7 = .ok (.getfield 15, 3) := by decide +kernel
theorem dJ0_coder_7d493_10 : decode cJ0_coder_7d493 10 = .ok (.goto 4, 3) := by decide +kernel
theorem dJ0_coder_7d493_13 : decode cJ0_coder_7d493 13 = .ok (.iconst 1, 1) := by decide +kernel
theorem dJ0_coder_7d493_14 : decode cJ0_coder_7d493 14 = .ok (.ireturn, 1) := by decide +kernel
theorem dJ0_isLatin1_aae02_0 : decode cJ0_isLatin1_aae02 0 = .ok (.getstatic 38, 3) := by decide +kernel
theorem dJ0_isLatin1_aae02_3 : decode cJ0_isLatin1_aae02 3 = .ok (.ifCond .eq 14, 3) := by decide +kernel
theorem dJ0_isLatin1_aae02_6 : decode cJ0_isLatin1_aae02 6 = .ok (.aload_n 0, 1) := by decide +kernel
theorem dJ0_isLatin1_aae02_7 : decode cJ0_isLatin1_aae02 7 = .ok (.getfield 15, 3) := by decide +kernel
theorem dJ0_isLatin1_aae02_10 : decode cJ0_isLatin1_aae02 10 = .ok (.ifCond .ne 7, 3) := by decide +kernel
theorem dJ0_isLatin1_aae02_13 : decode cJ0_isLatin1_aae02 13 = .ok (.iconst 1, 1) := by decide +kernel
theorem dJ0_isLatin1_aae02_14 : decode cJ0_isLatin1_aae02 14 = .ok (.goto 4, 3) := by decide +kernel
theorem dJ0_isLatin1_aae02_17 : decode cJ0_isLatin1_aae02 17 = .ok (.iconst 0, 1) := by decide +kernel
theorem dJ0_isLatin1_aae02_18 : decode cJ0_isLatin1_aae02 18 = .ok (.ireturn, 1) := by decide +kernel
theorem dJ0_checkIndex_df160_0 : decode cJ0_checkIndex_df160 0 = .ok (.iload_n 0, 1) := by decide +kernel
theorem dJ0_checkIndex_df160_1 : decode cJ0_checkIndex_df160 1 = .ok (.iload_n 1, 1) := by decide +kernel
theorem dJ0_checkIndex_df160_2 : decode cJ0_checkIndex_df160 2 = .ok (.getstatic 1053, 3) := by decide +kernel
theorem dJ0_checkIndex_df160_5 : decode cJ0_checkIndex_df160 5 = .ok (.invokestatic 1059, 3) := by decide +kernel
theorem dJ0_checkIndex_df160_8 : decode cJ0_checkIndex_df160 8 = .ok (.pop, 1) := by decide +kernel
theorem dJ0_checkIndex_df160_9 : decode cJ0_checkIndex_df160 9 = .ok (.return_, 1) := by decide +kernel
theorem dJ1_charAt_3b067_0 : decode cJ1_charAt_3b067 0 = .ok (.iload_n 1, 1) := by decide +kernel
theorem dJ1_charAt_3b067_1 : decode cJ1_charAt_3b067 1 = .ok (.aload_n 0, 1) := by decide +kernel
theorem dJ1_charAt_3b067_2 : decode cJ1_charAt_3b067 2 = .ok (.arraylength, 1) := by decide +kernel
theorem dJ1_charAt_3b067_3 : decode cJ1_charAt_3b067 3 = .ok (.invokestatic 9, 3) := by decide +kernel
theorem dJ1_charAt_3b067_6 : decode cJ1_charAt_3b067 6 = .ok (.aload_n 0, 1) := by decide +kernel
theorem dJ1_charAt_3b067_7 : decode cJ1_charAt_3b067 7 = .ok (.iload_n 1, 1) := by decide +kernel
theorem dJ1_charAt_3b067_8 : decode cJ1_charAt_3b067 8 = .ok (.baload, 1) := by decide +kernel
theorem dJ1_charAt_3b067_9 : decode cJ1_charAt_3b067 9 = .ok (.sipush 255, 3) := by decide +kernel
theorem dJ1_charAt_3b067_12 : decode cJ1_charAt_3b067 12 = .ok (.iand, 1) := by decide +kernel
theorem dJ1_charAt_3b067_13 : decode cJ1_charAt_3b067 13 = .ok (.i2c, 1) := by decide +kernel
theorem dJ1_charAt_3b067_14 : decode cJ1_charAt_3b067 14 = .ok (.ireturn, 1) := by decide +kernel
theorem dJ2_getChar_3b067_0 : decode cJ2_getChar_3b067 0 = .ok (.getstatic 44, 3) := by decide +kernel
theorem dJ2_getChar_3b067_3 : decode cJ2_getChar_3b067 3 = .ok (.ifCond .ne 25, 3) := by decide +kernel
theorem dJ2_getChar_3b067_6 : decode cJ2_getChar_3b067 6 = .ok (.iload_n 1, 1) := by decide +kernel
theorem dJ2_getChar_3b067_7 : decode cJ2_getChar_3b067 7 = .ok (.ifCond .lt 11, 3) := by decide +kernel
theorem dJ2_getChar_3b067_10 : decode cJ2_getChar_3b067 10 = .ok (.iload_n 1, 1) := by decide +kernel
theorem dJ2_getChar_3b067_11 : decode cJ2_getChar_3b067 11 = .ok (.aload_n 0, 1) := by decide +kernel
theorem dJ2_getChar_3b067_12 : decode cJ2_getChar_3b067 12 = .ok (.invokestatic 48, 3) := by decide +kernel
theorem dJ2_getChar_3b067_15 : decode cJ2_getChar_3b067 15 = .ok (.if_icmp .lt 13, 3) := by decide +kernel
theorem dJ2_getChar_3b067_18 : decode cJ2_getChar_3b067 18 = .ok (.new 52, 3) := by decide +kernel
theorem dJ2_getChar_3b067_21 : decode cJ2_getChar_3b067 21 = .ok (.dup, 1) := by decide +kernel
theorem dJ2_getChar_3b067_22 : decode cJ2_getChar_3b067 22 = .ok (.ldc 54, 2) := by decide +kernel
theorem dJ2_getChar_3b067_24 : decode cJ2_getChar_3b067 24 = .ok (.invokespecial 56, 3) := by decide +kernel
theorem dJ2_getChar_3b067_27 : decode cJ2_getChar_3b067 27 = .ok (.athrow, 1) := by decide +kernel
theorem dJ2_getChar_3b067_28 : decode cJ2_getChar_3b067 28 = .ok (.iload_n 1, 1) := by decide +kernel
theorem dJ2_getChar_3b067_29 : decode cJ2_getChar_3b067 29 = .ok (.iconst 1, 1) := by decide +kernel
theorem dJ2_getChar_3b067_30 : decode cJ2_getChar_3b067 30 = .ok (.ishl, 1) := by decide +kernel
theorem dJ2_getChar_3b067_31 : decode cJ2_getChar_3b067 31 = .ok (.istore_n 1, 1) := by decide +kernel
theorem dJ2_getChar_3b067_32 : decode cJ2_getChar_3b067 32 = .ok (.aload_n 0, 1) := by decide +kernel
theorem dJ2_getChar_3b067_33 : decode cJ2_getChar_3b067 33 = .ok (.iload_n 1, 1) := by decide +kernel
theorem dJ2_getChar_3b067_34 : decode cJ2_getChar_3b067 34 = .ok (.iinc 1 1, 3) := by decide +kernel
theorem dJ2_getChar_3b067_37 : decode cJ2_getChar_3b067 37 = .ok (.baload, 1) := by decide +kernel
theorem dJ2_getChar_3b067_38 : decode cJ2_getChar_3b067 38 = .ok (.sipush 255, 3) := by decide +kernel
theorem dJ2_getChar_3b067_41 : decode cJ2_getChar_3b067 41 = .ok (.iand, 1) := by decide +kernel
theorem dJ2_getChar_3b067_42 : decode cJ2_getChar_3b067 42 = .ok (.getstatic 59, 3) := by decide +kernel
theorem dJ2_getChar_3b067_45 : decode cJ2_getChar_3b067 45 = .ok (.ishl, 1) := by decide +kernel
theorem dJ2_getChar_3b067_46 : decode cJ2_getChar_3b067 46 = .ok (.aload_n 0, 1) := by decide +kernel
theorem dJ2_getChar_3b067_47 : decode cJ2_getChar_3b067 47 = .ok (.iload_n 1, 1) := by decide +kernel
theorem dJ2_getChar_3b067_48 : decode cJ2_getChar_3b067 48 = .ok (.baload, 1) := by decide +kernel
theorem dJ2_getChar_3b067_49 : decode cJ2_getChar_3b067 49 = .ok (.sipush 255, 3) := by decide +kernel
theorem dJ2_getChar_3b067_52 : decode cJ2_getChar_3b067 52 = .ok (.iand, 1) := by decide +kernel
theorem dJ2_getChar_3b067_53 : decode cJ2_getChar_3b067 53 = .ok (.getstatic 63, 3) := by decide +kernel
theorem dJ2_getChar_3b067_56 : decode cJ2_getChar_3b067 56 = .ok (.ishl, 1) := by decide +kernel
theorem dJ2_getChar_3b067_57 : decode cJ2_getChar_3b067 57 = .ok (.ior, 1) := by decide +kernel
theorem dJ2_getChar_3b067_58 : decode cJ2_getChar_3b067 58 = .ok (.i2c, 1) := by decide +kernel
theorem dJ2_getChar_3b067_59 : decode cJ2_getChar_3b067 59 = .ok (.ireturn, 1) := by decide +kernel
theorem dJ2_length_9d52b_0 : decode cJ2_length_9d52b 0 = .ok (.aload_n 0, 1) := by decide +kernel
theorem dJ2_length_9d52b_1 : decode cJ2_length_9d52b 1 = .ok (.arraylength, 1) := by decide +kernel
theorem dJ2_length_9d52b_2 : decode cJ2_length_9d52b 2 = .ok (.iconst 1, 1) := by decide +kernel
theorem dJ2_length_9d52b_3 : decode cJ2_length_9d52b 3 = .ok (.ishr, 1) := by decide +kernel
theorem dJ2_length_9d52b_4 : decode cJ2_length_9d52b 4 = .ok (.ireturn, 1) := by decide +kernel
theorem dJ2_charAt_3b067_0 : decode cJ2_charAt_3b067 0 = .ok (.iload_n 1, 1) := by decide +kernel
theorem dJ2_charAt_3b067_1 : decode cJ2_charAt_3b067 1 = .ok (.aload_n 0, 1) := by decide +kernel
theorem dJ2_charAt_3b067_2 : decode cJ2_charAt_3b067 2 = .ok (.invokestatic 67, 3) := by decide +kernel
theorem dJ2_charAt_3b067_5 : decode cJ2_charAt_3b067 5 = .ok (.aload_n 0, 1) := by decide +kernel
theorem dJ2_charAt_3b067_6 : decode cJ2_charAt_3b067 6 = .ok (.iload_n 1, 1) := by decide +kernel
theorem dJ2_charAt_3b067_7 : decode cJ2_charAt_3b067 7 = .ok (.invokestatic 71, 3) := by decide +kernel
theorem dJ2_charAt_3b067_10 : decode cJ2_charAt_3b067 10 = .ok (.ireturn, 1) := by decide +kernel
theorem dJ2_checkIndex_2214a_0 : decode cJ2_checkIndex_2214a 0 = .ok (.iload_n 0, 1) := by decide +kernel
theorem dJ2_checkIndex_2214a_1 : decode cJ2_checkIndex_2214a 1 = .ok (.aload_n 1, 1) := by decide +kernel
theorem dJ2_checkIndex_2214a_2 : decode cJ2_checkIndex_2214a 2 = .ok (.invokestatic 48, 3) := by decide +kernel
theorem dJ2_checkIndex_2214a_5 : decode cJ2_checkIndex_2214a 5 = .ok (.invokestatic 414, 3) := by decide +kernel
theorem dJ2_checkIndex_2214a_8 : decode cJ2_checkIndex_2214a 8 = .ok (.return_, 1) := by decide +kernel
theorem dJ3_checkIndex_8e157_0 : decode cJ3_checkIndex_8e157 0 = .ok (.iload_n 0, 1) := by decide +kernel
theorem dJ3_checkIndex_8e157_1 : decode cJ3_checkIndex_8e157 1 = .ok (.ifCond .lt 8, 3) := by decide +kernel
theorem dJ3_checkIndex_8e157_4 : decode cJ3_checkIndex_8e157 4 = .ok (.iload_n 0, 1) := by decide +kernel
theorem dJ3_checkIndex_8e157_5 : decode cJ3_checkIndex_8e157 5 = .ok (.iload_n 1, 1) := by decide +kernel
theorem dJ3_checkIndex_8e157_6 : decode cJ3_checkIndex_8e157 6 = .ok (.if_icmp .lt 10, 3) := by decide +kernel
theorem dJ3_checkIndex_8e157_9 : decode cJ3_checkIndex_8e157 9 = .ok (.aload_n 2, 1) := by decide +kernel
theorem dJ3_checkIndex_8e157_10 : decode cJ3_checkIndex_8e157 10 = .ok (.iload_n 0, 1) := by decide +kernel
theorem dJ3_checkIndex_8e157_11 : decode cJ3_checkIndex_8e157 11 = .ok (.iload_n 1, 1) := by decide +kernel
theorem dJ3_checkIndex_8e157_12 : decode cJ3_checkIndex_8e157 12 = .ok (.invokestatic 95, 3) := by decide +kernel
theorem dJ3_checkIndex_8e157_15 : decode cJ3_checkIndex_8e157 15 = .ok (.athrow, 1) := by decide +kernel
theorem dJ3_checkIndex_8e157_16 : decode cJ3_checkIndex_8e157 16 = .ok (.iload_n 0, 1) := by decide +kernel
theorem dJ3_checkIndex_8e157_17 : decode cJ3_checkIndex_8e157 17 = .ok (.ireturn, 1) := by decide +kernel
end
section
theorem dX6_init_0 : decode cX6_init 0 = .ok (.aload_n 0, 1) := by decide +kernel
theorem dX6_init_1 : decode cX6_init 1 = .ok (.invokespecial 1, 3) := by decide +kernel
theorem dX6_init_4 : decode cX6_init 4 = .ok (.aload_n 0, 1) := by decide +kernel
theorem dX6_init_5 : decode cX6_init 5 = .ok (.new 7, 3) := by decide +kernel
theorem dX6_init_8 : decode cX6_init 8 = .ok (.dup, 1) := by decide +kernel
theorem dX6_init_9 : decode cX6_init 9 = .ok (.invokespecial 9, 3) := by decide +kernel
theorem dX6_init_12 : decode cX6_init 12 = .ok (.putfield 10, 3) := by decide +kernel
theorem dX6_init_15 : decode cX6_init 15 = .ok (.aload_n 0, 1) := by decide +kernel
theorem dX6_init_16 : decode cX6_init 16 = .ok (.new 7, 3) := by decide +kernel
theorem dX6_init_19 : decode cX6_init 19 = .ok (.dup, 1) := by decide +kernel
theorem dX6_init_20 : decode cX6_init 20 = .ok (.invokespecial 9, 3) := by decide +kernel
theorem dX6_init_23 : decode cX6_init 23 = .ok (.putfield 16, 3) := by decide +kernel
theorem dX6_init_26 : decode cX6_init 26 = .ok (.aload_n 0, 1) := by decide +kernel
theorem dX6_init_27 : decode cX6_init 27 = .ok (.iconst 2, 1) := by decide +kernel
theorem dX6_init_28 : decode cX6_init 28 = .ok (.anewarray 7, 3) := by decide +kernel
theorem dX6_init_31 : decode cX6_init 31 = .ok (.putfield 19, 3) := by decide +kernel
theorem dX6_init_34 : decode cX6_init 34 = .ok (.aload_n 0, 1) := by decide +kernel
theorem dX6_init_35 : decode cX6_init 35 = .ok (.iconst 2, 1) := by decide +kernel
theorem dX6_init_36 : decode cX6_init 36 = .ok (.newarray .boolean, 2) := by decide +kernel
theorem dX6_init_38 : decode cX6_init 38 = .ok (.putfield 23, 3) := by decide +kernel
theorem dX6_init_41 : decode cX6_init 41 = .ok (.aload_n 0, 1) := by decide +kernel
theorem dX6_init_42 : decode cX6_init 42 = .ok (.iconst 4, 1) := by decide +kernel
theorem dX6_init_43 : decode cX6_init 43 = .ok (.anewarray 7, 3) := by decide +kernel
theorem dX6_init_46 : decode cX6_init 46 = .ok (.putfield 27, 3) := by decide +kernel
theorem dX6_init_49 : decode cX6_init 49 = .ok (.aload_n 0, 1) := by decide +kernel
theorem dX6_init_50 : decode cX6_init 50 = .ok (.iconst 4, 1) := by decide +kernel
theorem dX6_init_51 : decode cX6_init 51 = .ok (.newarray .int, 2) := by decide +kernel
theorem dX6_init_53 : decode cX6_init 53 = .ok (.putfield 30, 3) := by decide +kernel
theorem dX6_init_56 : decode cX6_init 56 = .ok (.aload_n 0, 1) := by decide +kernel
theorem dX6_init_57 : decode cX6_init 57 = .ok (.new 34, 3) := by decide +kernel
theorem dX6_init_60 : decode cX6_init 60 = .ok (.dup, 1) := by decide +kernel
theorem dX6_init_61 : decode cX6_init 61 = .ok (.invokespecial 36, 3) := by decide +kernel
theorem dX6_init_64 : decode cX6_init 64 = .ok (.putfield 37, 3) := by decide +kernel
theorem dX6_init_67 : decode cX6_init 67 = .ok (.aload_n 0, 1) := by decide +kernel
theorem dX6_init_68 : decode cX6_init 68 = .ok (.new 41, 3) := by decide +kernel
theorem dX6_init_71 : decode cX6_init 71 = .ok (.dup, 1) := by decide +kernel
theorem dX6_init_72 : decode cX6_init 72 = .ok (.invokespecial 43, 3) := by decide +kernel
theorem dX6_init_75 : decode cX6_init 75 = .ok (.putfield 44, 3) := by decide +kernel
theorem dX6_init_78 : decode cX6_init 78 = .ok (.aload_n 0, 1) := by decide +kernel
theorem dX6_init_79 : decode cX6_init 79 = .ok (.new 48, 3) := by decide +kernel
theorem dX6_init_82 : decode cX6_init 82 = .ok (.dup, 1) := by decide +kernel
theorem dX6_init_83 : decode cX6_init 83 = .ok (.invokespecial 50, 3) := by decide +kernel
theorem dX6_init_86 : decode cX6_init 86 = .ok (.putfield 51, 3) := by decide +kernel
theorem dX6_init_89 : decode cX6_init 89 = .ok (.aload_n 0, 1) := by decide +kernel
theorem dX6_init_90 : decode cX6_init 90 = .ok (.new 55, 3) := by decide +kernel
theorem dX6_init_93 : decode cX6_init 93 = .ok (.dup, 1) := by decide +kernel
theorem dX6_init_94 : decode cX6_init 94 = .ok (.invokespecial 57, 3) := by decide +kernel
theorem dX6_init_97 : decode cX6_init 97 = .ok (.putfield 58, 3) := by decide +kernel
theorem dX6_init_100 : decode cX6_init 100 = .ok (.aload_n 0, 1) := by decide +kernel
theorem dX6_init_101 : decode cX6_init 101 = .ok (.iconst 4, 1) := by decide +kernel
theorem dX6_init_102 : decode cX6_init 102 = .ok (.anewarray 62, 3) := by decide +kernel
theorem dX6_init_105 : decode cX6_init 105 = .ok (.putfield 64, 3) := by decide +kernel
theorem dX6_init_108 : decode cX6_init 108 = .ok (.aload_n 0, 1) := by decide +kernel
theorem dX6_init_109 : decode cX6_init 109 = .ok (.iconst 0, 1) := by decide +kernel
theorem dX6_init_110 : decode cX6_init 110 = .ok (.putfield 68, 3) := by decide +kernel
theorem dX6_init_113 : decode cX6_init 113 = .ok (.iconst 0, 1) := by decide +kernel
theorem dX6_init_114 : decode cX6_init 114 = .ok (.istore_n 1, 1) := by decide +kernel
theorem dX6_init_115 : decode cX6_init 115 = .ok (.iload_n 1, 1) := by decide +kernel
theorem dX6_init_116 : decode cX6_init 116 = .ok (.iconst 2, 1) := by decide +kernel
theorem dX6_init_117 : decode cX6_init 117 = .ok (.if_icmp .ge 22, 3) := by decide +kernel
theorem dX6_init_120 : decode cX6_init 120 = .ok (.aload_n 0, 1) := by decide +kernel
theorem dX6_init_121 : decode cX6_init 121 = .ok (.getfield 19, 3) := by decide +kernel
theorem dX6_init_124 : decode cX6_init 124 = .ok (.iload_n 1, 1) := by decide +kernel
theorem dX6_init_125 : decode cX6_init 125 = .ok (.new 7, 3) := by decide +kernel
theorem dX6_init_128 : decode cX6_init 128 = .ok (.dup, 1) := by decide +kernel
theorem dX6_init_129 : decode cX6_init 129 = .ok (.invokespecial 9, 3) := by decide +kernel
theorem dX6_init_132 : decode cX6_init 132 = .ok (.aastore, 1) := by decide +kernel
theorem dX6_init_133 : decode cX6_init 133 = .ok (.iinc 1 1, 3) := by decide +kernel
theorem dX6_init_136 : decode cX6_init 136 = .ok (.goto (-21), 3) := by decide +kernel
theorem dX6_init_139 : decode cX6_init 139 = .ok (.iconst 0, 1) := by decide +kernel
theorem dX6_init_140 : decode cX6_init 140 = .ok (.istore_n 1, 1) := by decide +kernel
theorem dX6_init_141 : decode cX6_init 141 = .ok (.iload_n 1, 1) := by decide +kernel
theorem dX6_init_142 : decode cX6_init 142 = .ok (.iconst 4, 1) := by decide +kernel
theorem dX6_init_143 : decode cX6_init 143 = .ok (.if_icmp .ge 22, 3) := by decide +kernel
theorem dX6_init_146 : decode cX6_init 146 = .ok (.aload_n 0, 1) := by decide +kernel
theorem dX6_init_147 : decode cX6_init 147 = .ok (.getfield 27, 3) := by decide +kernel
theorem dX6_init_150 : decode cX6_init 150 = .ok (.iload_n 1, 1) := by decide +kernel
theorem dX6_init_151 : decode cX6_init 151 = .ok (.new 7, 3) := by decide +kernel
theorem dX6_init_154 : decode cX6_init 154 = .ok (.dup, 1) := by decide +kernel
theorem dX6_init_155 : decode cX6_init 155 = .ok (.invokespecial 9, 3) := by decide +kernel
theorem dX6_init_158 : decode cX6_init 158 = .ok (.aastore, 1) := by decide +kernel
theorem dX6_init_159 : decode cX6_init 159 = .ok (.iinc 1 1, 3) := by decide +kernel
theorem dX6_init_162 : decode cX6_init 162 = .ok (.goto (-21), 3) := by decide +kernel
theorem dX6_init_165 : decode cX6_init 165 = .ok (.iconst 0, 1) := by decide +kernel
theorem dX6_init_166 : decode cX6_init 166 = .ok (.istore_n 1, 1) := by decide +kernel
theorem dX6_init_167 : decode cX6_init 167 = .ok (.iload_n 1, 1) := by decide +kernel
theorem dX6_init_168 : decode cX6_init 168 = .ok (.iconst 4, 1) := by decide +kernel
theorem dX6_init_169 : decode cX6_init 169 = .ok (.if_icmp .ge 22, 3) := by decide +kernel
theorem dX6_init_172 : decode cX6_init 172 = .ok (.aload_n 0, 1) := by decide +kernel
theorem dX6_init_173 : decode cX6_init 173 = .ok (.getfield 64, 3) := by decide +kernel
theorem dX6_init_176 : decode cX6_init 176 = .ok (.iload_n 1, 1) := by decide +kernel
theorem dX6_init_177 : decode cX6_init 177 = .ok (.new 62, 3) := by decide +kernel
theorem dX6_init_180 : decode cX6_init 180 = .ok (.dup, 1) := by decide +kernel
theorem dX6_init_181 : decode cX6_init 181 = .ok (.invokespecial 72, 3) := by decide +kernel
theorem dX6_init_184 : decode cX6_init 184 = .ok (.aastore, 1) := by decide +kernel
theorem dX6_init_185 : decode cX6_init 185 = .ok (.iinc 1 1, 3) := by decide +kernel
theorem dX6_init_188 : decode cX6_init 188 = .ok (.goto (-21), 3) := by decide +kernel
theorem dX6_init_191 : decode cX6_init 191 = .ok (.return_, 1) := by decide +kernel
theorem dX6_feed_0 : decode cX6_feed 0 = .ok (.iload_n 1, 1) := by decide +kernel
theorem dX6_feed_1 : decode cX6_feed 1 = .ok (.iconst 0, 1) := by decide +kernel
theorem dX6_feed_2 : decode cX6_feed 2 = .ok (.bipush 127, 2) := by decide +kernel
theorem dX6_feed_4 : decode cX6_feed 4 = .ok (.invokestatic 73, 3) := by decide +kernel
theorem dX6_feed_7 : decode cX6_feed 7 = .ok (.ifCond .ne 5, 3) := by decide +kernel
theorem dX6_feed_10 : decode cX6_feed 10 = .ok (.iconst (-1), 1) := by decide +kernel
theorem dX6_feed_11 : decode cX6_feed 11 = .ok (.ireturn, 1) := by decide +kernel
theorem dX6_feed_12 : decode cX6_feed 12 = .ok (.aload_n 0, 1) := by decide +kernel
theorem dX6_feed_13 : decode cX6_feed 13 = .ok (.getfield 37, 3) := by decide +kernel
theorem dX6_feed_16 : decode cX6_feed 16 = .ok (.getfield 77, 3) := by decide +kernel
theorem dX6_feed_19 : decode cX6_feed 19 = .ok (.sipush 160, 3) := by decide +kernel
theorem dX6_feed_22 : decode cX6_feed 22 = .ok (.if_icmp .lt 6, 3) := by decide +kernel
theorem dX6_feed_25 : decode cX6_feed 25 = .ok (.bipush (-3), 2) := by decide +kernel
theorem dX6_feed_27 : decode cX6_feed 27 = .ok (.ireturn, 1) := by decide +kernel
theorem dX6_feed_28 : decode cX6_feed 28 = .ok (.aload_n 0, 1) := by decide +kernel
theorem dX6_feed_29 : decode cX6_feed 29 = .ok (.getfield 37, 3) := by decide +kernel
theorem dX6_feed_32 : decode cX6_feed 32 = .ok (.getfield 80, 3) := by decide +kernel
theorem dX6_feed_35 : decode cX6_feed 35 = .ok (.aload_n 0, 1) := by decide +kernel
theorem dX6_feed_36 : decode cX6_feed 36 = .ok (.getfield 37, 3) := by decide +kernel
theorem dX6_feed_39 : decode cX6_feed 39 = .ok (.getfield 77, 3) := by decide +kernel
theorem dX6_feed_42 : decode cX6_feed 42 = .ok (.iload_n 1, 1) := by decide +kernel
theorem dX6_feed_43 : decode cX6_feed 43 = .ok (.iastore, 1) := by decide +kernel
theorem dX6_feed_44 : decode cX6_feed 44 = .ok (.aload_n 0, 1) := by decide +kernel
theorem dX6_feed_45 : decode cX6_feed 45 = .ok (.getfield 37, 3) := by decide +kernel
theorem dX6_feed_48 : decode cX6_feed 48 = .ok (.dup, 1) := by decide +kernel
theorem dX6_feed_49 : decode cX6_feed 49 = .ok (.getfield 77, 3) := by decide +kernel
theorem dX6_feed_52 : decode cX6_feed 52 = .ok (.iconst 1, 1) := by decide +kernel
theorem dX6_feed_53 : decode cX6_feed 53 = .ok (.iadd, 1) := by decide +kernel
theorem dX6_feed_54 : decode cX6_feed 54 = .ok (.putfield 77, 3) := by decide +kernel
theorem dX6_feed_57 : decode cX6_feed 57 = .ok (.aload_n 0, 1) := by decide +kernel
theorem dX6_feed_58 : decode cX6_feed 58 = .ok (.getfield 37, 3) := by decide +kernel
theorem dX6_feed_61 : decode cX6_feed 61 = .ok (.getfield 77, 3) := by decide +kernel
theorem dX6_feed_64 : decode cX6_feed 64 = .ok (.ireturn, 1) := by decide +kernel
theorem dX6_end_0 : decode cX6_end 0 = .ok (.aload_n 0, 1) := by decide +kernel
theorem dX6_end_1 : decode cX6_end 1 = .ok (.getfield 37, 3) := by decide +kernel
theorem dX6_end_4 : decode cX6_end 4 = .ok (.getfield 77, 3) := by decide +kernel
theorem dX6_end_7 : decode cX6_end 7 = .ok (.istore_n 2, 1) := by decide +kernel
theorem dX6_end_8 : decode cX6_end 8 = .ok (.iload_n 1, 1) := by decide +kernel
theorem dX6_end_9 : decode cX6_end 9 = .ok (.iconst 0, 1) := by decide +kernel
theorem dX6_end_10 : decode cX6_end 10 = .ok (.iload_n 2, 1) := by decide +kernel
theorem dX6_end_11 : decode cX6_end 11 = .ok (.invokestatic 73, 3) := by decide +kernel
theorem dX6_end_14 : decode cX6_end 14 = .ok (.ifCond .ne 5, 3) := by decide +kernel
theorem dX6_end_17 : decode cX6_end 17 = .ok (.iconst (-1), 1) := by decide +kernel
theorem dX6_end_18 : decode cX6_end 18 = .ok (.ireturn, 1) := by decide +kernel
theorem dX6_end_19 : decode cX6_end 19 = .ok (.aload_n 0, 1) := by decide +kernel
theorem dX6_end_20 : decode cX6_end 20 = .ok (.getfield 37, 3) := by decide +kernel
theorem dX6_end_23 : decode cX6_end 23 = .ok (.iload_n 1, 1) := by decide +kernel
theorem dX6_end_24 : decode cX6_end 24 = .ok (.putfield 77, 3) := by decide +kernel
theorem dX6_end_27 : decode cX6_end 27 = .ok (.iload_n 2, 1) := by decide +kernel
theorem dX6_end_28 : decode cX6_end 28 = .ok (.ireturn, 1) := by decide +kernel
theorem dX6_text_0 : decode cX6_text 0 = .ok (.aload_n 0, 1) := by decide +kernel
theorem dX6_text_1 : decode cX6_text 1 = .ok (.getfield 37, 3) := by decide +kernel
theorem dX6_text_4 : decode cX6_text 4 = .ok (.invokevirtual 83, 3) := by decide +kernel
theorem dX6_text_7 : decode cX6_text 7 = .ok (.istore_n 1, 1) := by decide +kernel
theorem dX6_text_8 : decode cX6_text 8 = .ok (.aload_n 0, 1) := by decide +kernel
theorem dX6_text_9 : decode cX6_text 9 = .ok (.getfield 37, 3) := by decide +kernel
theorem dX6_text_12 : decode cX6_text 12 = .ok (.iconst 0, 1) := by decide +kernel
theorem dX6_text_13 : decode cX6_text 13 = .ok (.putfield 77, 3) := by decide +kernel
theorem dX6_text_16 : decode cX6_text 16 = .ok (.aload_n 0, 1) := by decide +kernel
theorem dX6_text_17 : decode cX6_text 17 = .ok (.getfield 37, 3) := by decide +kernel
theorem dX6_text_20 : decode cX6_text 20 = .ok (.getfield 87, 3) := by decide +kernel
theorem dX6_text_23 : decode cX6_text 23 = .ok (.ifCond .eq 14, 3) := by decide +kernel
theorem dX6_text_26 : decode cX6_text 26 = .ok (.bipush (-10), 2) := by decide +kernel
theorem dX6_text_28 : decode cX6_text 28 = .ok (.aload_n 0, 1) := by decide +kernel
theorem dX6_text_29 : decode cX6_text 29 = .ok (.getfield 37, 3) := by decide +kernel
theorem dX6_text_32 : decode cX6_text 32 = .ok (.getfield 90, 3) := by decide +kernel
theorem dX6_text_35 : decode cX6_text 35 = .ok (.isub, 1) := by decide +kernel
theorem dX6_text_36 : decode cX6_text 36 = .ok (.ireturn, 1) := by decide +kernel
theorem dX6_text_37 : decode cX6_text 37 = .ok (.aload_n 0, 1) := by decide +kernel
theorem dX6_text_38 : decode cX6_text 38 = .ok (.getfield 10, 3) := by decide +kernel
theorem dX6_text_41 : decode cX6_text 41 = .ok (.aload_n 0, 1) := by decide +kernel
theorem dX6_text_42 : decode cX6_text 42 = .ok (.getfield 37, 3) := by decide +kernel
theorem dX6_text_45 : decode cX6_text 45 = .ok (.getfield 93, 3) := by decide +kernel
theorem dX6_text_48 : decode cX6_text 48 = .ok (.invokevirtual 96, 3) := by decide +kernel
theorem dX6_text_51 : decode cX6_text 51 = .ok (.aload_n 0, 1) := by decide +kernel
theorem dX6_text_52 : decode cX6_text 52 = .ok (.getfield 44, 3) := by decide +kernel
theorem dX6_text_55 : decode cX6_text 55 = .ok (.iconst 0, 1) := by decide +kernel
theorem dX6_text_56 : decode cX6_text 56 = .ok (.putfield 100, 3) := by decide +kernel
theorem dX6_text_59 : decode cX6_text 59 = .ok (.iconst 0, 1) := by decide +kernel
theorem dX6_text_60 : decode cX6_text 60 = .ok (.istore_n 2, 1) := by decide +kernel
theorem dX6_text_61 : decode cX6_text 61 = .ok (.iload_n 2, 1) := by decide +kernel
theorem dX6_text_62 : decode cX6_text 62 = .ok (.iconst 2, 1) := by decide +kernel
theorem dX6_text_63 : decode cX6_text 63 = .ok (.if_icmp .ge 16, 3) := by decide +kernel
theorem dX6_text_66 : decode cX6_text 66 = .ok (.aload_n 0, 1) := by decide +kernel
theorem dX6_text_67 : decode cX6_text 67 = .ok (.getfield 23, 3) := by decide +kernel
theorem dX6_text_70 : decode cX6_text 70 = .ok (.iload_n 2, 1) := by decide +kernel
theorem dX6_text_71 : decode cX6_text 71 = .ok (.iconst 0, 1) := by decide +kernel
theorem dX6_text_72 : decode cX6_text 72 = .ok (.bastore, 1) := by decide +kernel
theorem dX6_text_73 : decode cX6_text 73 = .ok (.iinc 2 1, 3) := by decide +kernel
theorem dX6_text_76 : decode cX6_text 76 = .ok (.goto (-15), 3) := by decide +kernel
theorem dX6_text_79 : decode cX6_text 79 = .ok (.iload_n 1, 1) := by decide +kernel
theorem dX6_text_80 : decode cX6_text 80 = .ok (.ireturn, 1) := by decide +kernel
theorem dX6_fault_0 : decode cX6_fault 0 = .ok (.aload_n 0, 1) := by decide +kernel
theorem dX6_fault_1 : decode cX6_fault 1 = .ok (.getfield 37, 3) := by decide +kernel
theorem dX6_fault_4 : decode cX6_fault 4 = .ok (.getfield 87, 3) := by decide +kernel
theorem dX6_fault_7 : decode cX6_fault 7 = .ok (.ireturn, 1) := by decide +kernel
theorem dX6_rule_0 : decode cX6_rule 0 = .ok (.iload_n 1, 1) := by decide +kernel
theorem dX6_rule_1 : decode cX6_rule 1 = .ok (.tableswitch 87 0 5 #[39, 47, 55, 63, 71, 79], 39) := by decide +kernel
theorem dX6_rule_40 : decode cX6_rule 40 = .ok (.aload_n 0, 1) := by decide +kernel
theorem dX6_rule_41 : decode cX6_rule 41 = .ok (.getfield 10, 3) := by decide +kernel
theorem dX6_rule_44 : decode cX6_rule 44 = .ok (.getfield 103, 3) := by decide +kernel
theorem dX6_rule_47 : decode cX6_rule 47 = .ok (.ireturn, 1) := by decide +kernel
theorem dX6_rule_48 : decode cX6_rule 48 = .ok (.aload_n 0, 1) := by decide +kernel
theorem dX6_rule_49 : decode cX6_rule 49 = .ok (.getfield 10, 3) := by decide +kernel
theorem dX6_rule_52 : decode cX6_rule 52 = .ok (.getfield 106, 3) := by decide +kernel
theorem dX6_rule_55 : decode cX6_rule 55 = .ok (.ireturn, 1) := by decide +kernel
theorem dX6_rule_56 : decode cX6_rule 56 = .ok (.aload_n 0, 1) := by decide +kernel
theorem dX6_rule_57 : decode cX6_rule 57 = .ok (.getfield 10, 3) := by decide +kernel
theorem dX6_rule_60 : decode cX6_rule 60 = .ok (.getfield 109, 3) := by decide +kernel
theorem dX6_rule_63 : decode cX6_rule 63 = .ok (.ireturn, 1) := by decide +kernel
theorem dX6_rule_64 : decode cX6_rule 64 = .ok (.aload_n 0, 1) := by decide +kernel
theorem dX6_rule_65 : decode cX6_rule 65 = .ok (.getfield 10, 3) := by decide +kernel
theorem dX6_rule_68 : decode cX6_rule 68 = .ok (.getfield 112, 3) := by decide +kernel
theorem dX6_rule_71 : decode cX6_rule 71 = .ok (.ireturn, 1) := by decide +kernel
theorem dX6_rule_72 : decode cX6_rule 72 = .ok (.aload_n 0, 1) := by decide +kernel
theorem dX6_rule_73 : decode cX6_rule 73 = .ok (.getfield 10, 3) := by decide +kernel
theorem dX6_rule_76 : decode cX6_rule 76 = .ok (.invokevirtual 115, 3) := by decide +kernel
theorem dX6_rule_79 : decode cX6_rule 79 = .ok (.ireturn, 1) := by decide +kernel
theorem dX6_rule_80 : decode cX6_rule 80 = .ok (.aload_n 0, 1) := by decide +kernel
theorem dX6_rule_81 : decode cX6_rule 81 = .ok (.getfield 10, 3) := by decide +kernel
theorem dX6_rule_84 : decode cX6_rule 84 = .ok (.invokevirtual 118, 3) := by decide +kernel
theorem dX6_rule_87 : decode cX6_rule 87 = .ok (.ireturn, 1) := by decide +kernel
theorem dX6_rule_88 : decode cX6_rule 88 = .ok (.iconst (-1), 1) := by decide +kernel
theorem dX6_rule_89 : decode cX6_rule 89 = .ok (.ireturn, 1) := by decide +kernel
theorem dX6_colour_0 : decode cX6_colour 0 = .ok (.aload_n 0, 1) := by decide +kernel
theorem dX6_colour_1 : decode cX6_colour 1 = .ok (.getfield 10, 3) := by decide +kernel
theorem dX6_colour_4 : decode cX6_colour 4 = .ok (.iload_n 1, 1) := by decide +kernel
theorem dX6_colour_5 : decode cX6_colour 5 = .ok (.invokevirtual 121, 3) := by decide +kernel
theorem dX6_colour_8 : decode cX6_colour 8 = .ok (.ifCond .ne 5, 3) := by decide +kernel
theorem dX6_colour_11 : decode cX6_colour 11 = .ok (.iconst (-1), 1) := by decide +kernel
theorem dX6_colour_12 : decode cX6_colour 12 = .ok (.ireturn, 1) := by decide +kernel
theorem dX6_colour_13 : decode cX6_colour 13 = .ok (.iload_n 2, 1) := by decide +kernel
theorem dX6_colour_14 : decode cX6_colour 14 = .ok (.tableswitch 120 0 6 #[42, 52, 64, 78, 92, 102, 111], 42) := by decide +kernel
theorem dX6_colour_56 : decode cX6_colour 56 = .ok (.aload_n 0, 1) := by decide +kernel
theorem dX6_colour_57 : decode cX6_colour 57 = .ok (.getfield 10, 3) := by decide +kernel
theorem dX6_colour_60 : decode cX6_colour 60 = .ok (.getfield 125, 3) := by decide +kernel
theorem dX6_colour_63 : decode cX6_colour 63 = .ok (.iload_n 1, 1) := by decide +kernel
theorem dX6_colour_64 : decode cX6_colour 64 = .ok (.iaload, 1) := by decide +kernel
theorem dX6_colour_65 : decode cX6_colour 65 = .ok (.ireturn, 1) := by decide +kernel
theorem dX6_colour_66 : decode cX6_colour 66 = .ok (.aload_n 0, 1) := by decide +kernel
theorem dX6_colour_67 : decode cX6_colour 67 = .ok (.getfield 10, 3) := by decide +kernel
theorem dX6_colour_70 : decode cX6_colour 70 = .ok (.getfield 128, 3) := by decide +kernel
theorem dX6_colour_73 : decode cX6_colour 73 = .ok (.iconst 3, 1) := by decide +kernel
theorem dX6_colour_74 : decode cX6_colour 74 = .ok (.iload_n 1, 1) := by decide +kernel
theorem dX6_colour_75 : decode cX6_colour 75 = .ok (.imul, 1) := by decide +kernel
theorem dX6_colour_76 : decode cX6_colour 76 = .ok (.iaload, 1) := by decide +kernel
theorem dX6_colour_77 : decode cX6_colour 77 = .ok (.ireturn, 1) := by decide +kernel
theorem dX6_colour_78 : decode cX6_colour 78 = .ok (.aload_n 0, 1) := by decide +kernel
theorem dX6_colour_79 : decode cX6_colour 79 = .ok (.getfield 10, 3) := by decide +kernel
theorem dX6_colour_82 : decode cX6_colour 82 = .ok (.getfield 128, 3) := by decide +kernel
theorem dX6_colour_85 : decode cX6_colour 85 = .ok (.iconst 3, 1) := by decide +kernel
theorem dX6_colour_86 : decode cX6_colour 86 = .ok (.iload_n 1, 1) := by decide +kernel
theorem dX6_colour_87 : decode cX6_colour 87 = .ok (.imul, 1) := by decide +kernel
theorem dX6_colour_88 : decode cX6_colour 88 = .ok (.iconst 1, 1) := by decide +kernel
theorem dX6_colour_89 : decode cX6_colour 89 = .ok (.iadd, 1) := by decide +kernel
theorem dX6_colour_90 : decode cX6_colour 90 = .ok (.iaload, 1) := by decide +kernel
theorem dX6_colour_91 : decode cX6_colour 91 = .ok (.ireturn, 1) := by decide +kernel
theorem dX6_colour_92 : decode cX6_colour 92 = .ok (.aload_n 0, 1) := by decide +kernel
theorem dX6_colour_93 : decode cX6_colour 93 = .ok (.getfield 10, 3) := by decide +kernel
theorem dX6_colour_96 : decode cX6_colour 96 = .ok (.getfield 128, 3) := by decide +kernel
theorem dX6_colour_99 : decode cX6_colour 99 = .ok (.iconst 3, 1) := by decide +kernel
theorem dX6_colour_100 : decode cX6_colour 100 = .ok (.iload_n 1, 1) := by decide +kernel
theorem dX6_colour_101 : decode cX6_colour 101 = .ok (.imul, 1) := by decide +kernel
theorem dX6_colour_102 : decode cX6_colour 102 = .ok (.iconst 2, 1) := by decide +kernel
theorem dX6_colour_103 : decode cX6_colour 103 = .ok (.iadd, 1) := by decide +kernel
theorem dX6_colour_104 : decode cX6_colour 104 = .ok (.iaload, 1) := by decide +kernel
theorem dX6_colour_105 : decode cX6_colour 105 = .ok (.ireturn, 1) := by decide +kernel
theorem dX6_colour_106 : decode cX6_colour 106 = .ok (.aload_n 0, 1) := by decide +kernel
theorem dX6_colour_107 : decode cX6_colour 107 = .ok (.getfield 10, 3) := by decide +kernel
theorem dX6_colour_110 : decode cX6_colour 110 = .ok (.getfield 131, 3) := by decide +kernel
theorem dX6_colour_113 : decode cX6_colour 113 = .ok (.iload_n 1, 1) := by decide +kernel
theorem dX6_colour_114 : decode cX6_colour 114 = .ok (.iaload, 1) := by decide +kernel
theorem dX6_colour_115 : decode cX6_colour 115 = .ok (.ireturn, 1) := by decide +kernel
theorem dX6_colour_116 : decode cX6_colour 116 = .ok (.aload_n 0, 1) := by decide +kernel
theorem dX6_colour_117 : decode cX6_colour 117 = .ok (.getfield 10, 3) := by decide +kernel
theorem dX6_colour_120 : decode cX6_colour 120 = .ok (.iload_n 1, 1) := by decide +kernel
theorem dX6_colour_121 : decode cX6_colour 121 = .ok (.invokevirtual 134, 3) := by decide +kernel
theorem dX6_colour_124 : decode cX6_colour 124 = .ok (.ireturn, 1) := by decide +kernel
theorem dX6_colour_125 : decode cX6_colour 125 = .ok (.aload_n 0, 1) := by decide +kernel
theorem dX6_colour_126 : decode cX6_colour 126 = .ok (.getfield 10, 3) := by decide +kernel
theorem dX6_colour_129 : decode cX6_colour 129 = .ok (.iload_n 1, 1) := by decide +kernel
theorem dX6_colour_130 : decode cX6_colour 130 = .ok (.invokevirtual 138, 3) := by decide +kernel
theorem dX6_colour_133 : decode cX6_colour 133 = .ok (.ireturn, 1) := by decide +kernel
theorem dX6_colour_134 : decode cX6_colour 134 = .ok (.iconst (-1), 1) := by decide +kernel
theorem dX6_colour_135 : decode cX6_colour 135 = .ok (.ireturn, 1) := by decide +kernel
theorem dX6_one_0 : decode cX6_one 0 = .ok (.aload_n 0, 1) := by decide +kernel
theorem dX6_one_1 : decode cX6_one 1 = .ok (.getfield 10, 3) := by decide +kernel
theorem dX6_one_4 : decode cX6_one 4 = .ok (.iload_n 1, 1) := by decide +kernel
theorem dX6_one_5 : decode cX6_one 5 = .ok (.invokevirtual 141, 3) := by decide +kernel
theorem dX6_one_8 : decode cX6_one 8 = .ok (.ifCond .ne 5, 3) := by decide +kernel
theorem dX6_one_11 : decode cX6_one 11 = .ok (.iconst (-1), 1) := by decide +kernel
theorem dX6_one_12 : decode cX6_one 12 = .ok (.ireturn, 1) := by decide +kernel
theorem dX6_one_13 : decode cX6_one 13 = .ok (.iload_n 2, 1) := by decide +kernel
theorem dX6_one_14 : decode cX6_one 14 = .ok (.tableswitch 90 0 4 #[34, 44, 54, 63, 72], 34) := by decide +kernel
theorem dX6_one_48 : decode cX6_one 48 = .ok (.aload_n 0, 1) := by decide +kernel
theorem dX6_one_49 : decode cX6_one 49 = .ok (.getfield 10, 3) := by decide +kernel
theorem dX6_one_52 : decode cX6_one 52 = .ok (.getfield 144, 3) := by decide +kernel
theorem dX6_one_55 : decode cX6_one 55 = .ok (.iload_n 1, 1) := by decide +kernel
theorem dX6_one_56 : decode cX6_one 56 = .ok (.iaload, 1) := by decide +kernel
theorem dX6_one_57 : decode cX6_one 57 = .ok (.ireturn, 1) := by decide +kernel
theorem dX6_one_58 : decode cX6_one 58 = .ok (.aload_n 0, 1) := by decide +kernel
theorem dX6_one_59 : decode cX6_one 59 = .ok (.getfield 10, 3) := by decide +kernel
theorem dX6_one_62 : decode cX6_one 62 = .ok (.getfield 147, 3) := by decide +kernel
theorem dX6_one_65 : decode cX6_one 65 = .ok (.iload_n 1, 1) := by decide +kernel
theorem dX6_one_66 : decode cX6_one 66 = .ok (.iaload, 1) := by decide +kernel
theorem dX6_one_67 : decode cX6_one 67 = .ok (.ireturn, 1) := by decide +kernel
theorem dX6_one_68 : decode cX6_one 68 = .ok (.aload_n 0, 1) := by decide +kernel
theorem dX6_one_69 : decode cX6_one 69 = .ok (.getfield 10, 3) := by decide +kernel
theorem dX6_one_72 : decode cX6_one 72 = .ok (.iload_n 1, 1) := by decide +kernel
theorem dX6_one_73 : decode cX6_one 73 = .ok (.invokevirtual 150, 3) := by decide +kernel
theorem dX6_one_76 : decode cX6_one 76 = .ok (.ireturn, 1) := by decide +kernel
theorem dX6_one_77 : decode cX6_one 77 = .ok (.aload_n 0, 1) := by decide +kernel
theorem dX6_one_78 : decode cX6_one 78 = .ok (.getfield 10, 3) := by decide +kernel
theorem dX6_one_81 : decode cX6_one 81 = .ok (.iload_n 1, 1) := by decide +kernel
theorem dX6_one_82 : decode cX6_one 82 = .ok (.invokevirtual 153, 3) := by decide +kernel
theorem dX6_one_85 : decode cX6_one 85 = .ok (.ireturn, 1) := by decide +kernel
theorem dX6_one_86 : decode cX6_one 86 = .ok (.aload_n 0, 1) := by decide +kernel
theorem dX6_one_87 : decode cX6_one 87 = .ok (.getfield 10, 3) := by decide +kernel
theorem dX6_one_90 : decode cX6_one 90 = .ok (.aload_n 0, 1) := by decide +kernel
theorem dX6_one_91 : decode cX6_one 91 = .ok (.getfield 10, 3) := by decide +kernel
theorem dX6_one_94 : decode cX6_one 94 = .ok (.getfield 156, 3) := by decide +kernel
theorem dX6_one_97 : decode cX6_one 97 = .ok (.iload_n 1, 1) := by decide +kernel
theorem dX6_one_98 : decode cX6_one 98 = .ok (.iconst 5, 1) := by decide +kernel
theorem dX6_one_99 : decode cX6_one 99 = .ok (.imul, 1) := by decide +kernel
theorem dX6_one_100 : decode cX6_one 100 = .ok (.invokevirtual 159, 3) := by decide +kernel
theorem dX6_one_103 : decode cX6_one 103 = .ok (.ireturn, 1) := by decide +kernel
theorem dX6_one_104 : decode cX6_one 104 = .ok (.iconst (-1), 1) := by decide +kernel
theorem dX6_one_105 : decode cX6_one 105 = .ok (.ireturn, 1) := by decide +kernel
theorem dX6_holds_0 : decode cX6_holds 0 = .ok (.aload_n 0, 1) := by decide +kernel
theorem dX6_holds_1 : decode cX6_holds 1 = .ok (.getfield 10, 3) := by decide +kernel
theorem dX6_holds_4 : decode cX6_holds 4 = .ok (.iload_n 1, 1) := by decide +kernel
theorem dX6_holds_5 : decode cX6_holds 5 = .ok (.invokevirtual 141, 3) := by decide +kernel
theorem dX6_holds_8 : decode cX6_holds 8 = .ok (.ifCond .eq 14, 3) := by decide +kernel
theorem dX6_holds_11 : decode cX6_holds 11 = .ok (.aload_n 0, 1) := by decide +kernel
theorem dX6_holds_12 : decode cX6_holds 12 = .ok (.getfield 10, 3) := by decide +kernel
theorem dX6_holds_15 : decode cX6_holds 15 = .ok (.iload_n 2, 1) := by decide +kernel
theorem dX6_holds_16 : decode cX6_holds 16 = .ok (.invokevirtual 121, 3) := by decide +kernel
theorem dX6_holds_19 : decode cX6_holds 19 = .ok (.ifCond .ne 5, 3) := by decide +kernel
theorem dX6_holds_22 : decode cX6_holds 22 = .ok (.iconst (-1), 1) := by decide +kernel
theorem dX6_holds_23 : decode cX6_holds 23 = .ok (.ireturn, 1) := by decide +kernel
theorem dX6_holds_24 : decode cX6_holds 24 = .ok (.aload_n 0, 1) := by decide +kernel
theorem dX6_holds_25 : decode cX6_holds 25 = .ok (.getfield 10, 3) := by decide +kernel
theorem dX6_holds_28 : decode cX6_holds 28 = .ok (.getfield 156, 3) := by decide +kernel
theorem dX6_holds_31 : decode cX6_holds 31 = .ok (.iload_n 1, 1) := by decide +kernel
theorem dX6_holds_32 : decode cX6_holds 32 = .ok (.iconst 5, 1) := by decide +kernel
theorem dX6_holds_33 : decode cX6_holds 33 = .ok (.imul, 1) := by decide +kernel
theorem dX6_holds_34 : decode cX6_holds 34 = .ok (.iload_n 2, 1) := by decide +kernel
theorem dX6_holds_35 : decode cX6_holds 35 = .ok (.iadd, 1) := by decide +kernel
theorem dX6_holds_36 : decode cX6_holds 36 = .ok (.iaload, 1) := by decide +kernel
theorem dX6_holds_37 : decode cX6_holds 37 = .ok (.ireturn, 1) := by decide +kernel
theorem dX6_off_0 : decode cX6_off 0 = .ok (.aload_n 0, 1) := by decide +kernel
theorem dX6_off_1 : decode cX6_off 1 = .ok (.getfield 10, 3) := by decide +kernel
theorem dX6_off_4 : decode cX6_off 4 = .ok (.iload_n 1, 1) := by decide +kernel
theorem dX6_off_5 : decode cX6_off 5 = .ok (.invokevirtual 141, 3) := by decide +kernel
theorem dX6_off_8 : decode cX6_off 8 = .ok (.ifCond .eq 10, 3) := by decide +kernel
theorem dX6_off_11 : decode cX6_off 11 = .ok (.iload_n 2, 1) := by decide +kernel
theorem dX6_off_12 : decode cX6_off 12 = .ok (.invokestatic 163, 3) := by decide +kernel
theorem dX6_off_15 : decode cX6_off 15 = .ok (.ifCond .ne 5, 3) := by decide +kernel
theorem dX6_off_18 : decode cX6_off 18 = .ok (.iconst (-1), 1) := by decide +kernel
theorem dX6_off_19 : decode cX6_off 19 = .ok (.ireturn, 1) := by decide +kernel
theorem dX6_off_20 : decode cX6_off 20 = .ok (.aload_n 0, 1) := by decide +kernel
theorem dX6_off_21 : decode cX6_off 21 = .ok (.getfield 10, 3) := by decide +kernel
theorem dX6_off_24 : decode cX6_off 24 = .ok (.iload_n 1, 1) := by decide +kernel
theorem dX6_off_25 : decode cX6_off 25 = .ok (.invokevirtual 150, 3) := by decide +kernel
theorem dX6_off_28 : decode cX6_off 28 = .ok (.iload_n 2, 1) := by decide +kernel
theorem dX6_off_29 : decode cX6_off 29 = .ok (.invokestatic 166, 3) := by decide +kernel
theorem dX6_off_32 : decode cX6_off 32 = .ok (.ireturn, 1) := by decide +kernel
theorem dX6_alter_0 : decode cX6_alter 0 = .ok (.aload_n 0, 1) := by decide +kernel
theorem dX6_alter_1 : decode cX6_alter 1 = .ok (.getfield 10, 3) := by decide +kernel
theorem dX6_alter_4 : decode cX6_alter 4 = .ok (.iload_n 1, 1) := by decide +kernel
theorem dX6_alter_5 : decode cX6_alter 5 = .ok (.invokevirtual 121, 3) := by decide +kernel
theorem dX6_alter_8 : decode cX6_alter 8 = .ok (.ifCond .eq 24, 3) := by decide +kernel
theorem dX6_alter_11 : decode cX6_alter 11 = .ok (.iload_n 2, 1) := by decide +kernel
theorem dX6_alter_12 : decode cX6_alter 12 = .ok (.iconst 0, 1) := by decide +kernel
theorem dX6_alter_13 : decode cX6_alter 13 = .ok (.iconst 4, 1) := by decide +kernel
theorem dX6_alter_14 : decode cX6_alter 14 = .ok (.invokestatic 73, 3) := by decide +kernel
theorem dX6_alter_17 : decode cX6_alter 17 = .ok (.ifCond .eq 15, 3) := by decide +kernel
theorem dX6_alter_20 : decode cX6_alter 20 = .ok (.iload_n 3, 1) := by decide +kernel
theorem dX6_alter_21 : decode cX6_alter 21 = .ok (.iconst 0, 1) := by decide +kernel
theorem dX6_alter_22 : decode cX6_alter 22 = .ok (.iload_n 2, 1) := by decide +kernel
theorem dX6_alter_23 : decode cX6_alter 23 = .ok (.invokestatic 170, 3) := by decide +kernel
theorem dX6_alter_26 : decode cX6_alter 26 = .ok (.invokestatic 73, 3) := by decide +kernel
theorem dX6_alter_29 : decode cX6_alter 29 = .ok (.ifCond .ne 5, 3) := by decide +kernel
theorem dX6_alter_32 : decode cX6_alter 32 = .ok (.iconst (-1), 1) := by decide +kernel
theorem dX6_alter_33 : decode cX6_alter 33 = .ok (.ireturn, 1) := by decide +kernel
theorem dX6_alter_34 : decode cX6_alter 34 = .ok (.aload_n 0, 1) := by decide +kernel
theorem dX6_alter_35 : decode cX6_alter 35 = .ok (.iload_n 1, 1) := by decide +kernel
theorem dX6_alter_36 : decode cX6_alter 36 = .ok (.iload_n 2, 1) := by decide +kernel
theorem dX6_alter_37 : decode cX6_alter 37 = .ok (.invokevirtual 173, 3) := by decide +kernel
theorem dX6_alter_40 : decode cX6_alter 40 = .ok (.istore 4, 2) := by decide +kernel
theorem dX6_alter_42 : decode cX6_alter 42 = .ok (.iload_n 2, 1) := by decide +kernel
theorem dX6_alter_43 : decode cX6_alter 43 = .ok (.ifCond .ne 16, 3) := by decide +kernel
theorem dX6_alter_46 : decode cX6_alter 46 = .ok (.aload_n 0, 1) := by decide +kernel
theorem dX6_alter_47 : decode cX6_alter 47 = .ok (.getfield 10, 3) := by decide +kernel
theorem dX6_alter_50 : decode cX6_alter 50 = .ok (.getfield 125, 3) := by decide +kernel
theorem dX6_alter_53 : decode cX6_alter 53 = .ok (.iload_n 1, 1) := by decide +kernel
theorem dX6_alter_54 : decode cX6_alter 54 = .ok (.iload_n 3, 1) := by decide +kernel
theorem dX6_alter_55 : decode cX6_alter 55 = .ok (.iastore, 1) := by decide +kernel
theorem dX6_alter_56 : decode cX6_alter 56 = .ok (.goto 37, 3) := by decide +kernel
theorem dX6_alter_59 : decode cX6_alter 59 = .ok (.iload_n 2, 1) := by decide +kernel
theorem dX6_alter_60 : decode cX6_alter 60 = .ok (.iconst 4, 1) := by decide +kernel
theorem dX6_alter_61 : decode cX6_alter 61 = .ok (.if_icmp .ne 16, 3) := by decide +kernel
theorem dX6_alter_64 : decode cX6_alter 64 = .ok (.aload_n 0, 1) := by decide +kernel
theorem dX6_alter_65 : decode cX6_alter 65 = .ok (.getfield 10, 3) := by decide +kernel
theorem dX6_alter_68 : decode cX6_alter 68 = .ok (.getfield 131, 3) := by decide +kernel
theorem dX6_alter_71 : decode cX6_alter 71 = .ok (.iload_n 1, 1) := by decide +kernel
theorem dX6_alter_72 : decode cX6_alter 72 = .ok (.iload_n 3, 1) := by decide +kernel
theorem dX6_alter_73 : decode cX6_alter 73 = .ok (.iastore, 1) := by decide +kernel
theorem dX6_alter_74 : decode cX6_alter 74 = .ok (.goto 19, 3) := by decide +kernel
theorem dX6_alter_77 : decode cX6_alter 77 = .ok (.aload_n 0, 1) := by decide +kernel
theorem dX6_alter_78 : decode cX6_alter 78 = .ok (.getfield 10, 3) := by decide +kernel
theorem dX6_alter_81 : decode cX6_alter 81 = .ok (.getfield 128, 3) := by decide +kernel
theorem dX6_alter_84 : decode cX6_alter 84 = .ok (.iconst 3, 1) := by decide +kernel
theorem dX6_alter_85 : decode cX6_alter 85 = .ok (.iload_n 1, 1) := by decide +kernel
theorem dX6_alter_86 : decode cX6_alter 86 = .ok (.imul, 1) := by decide +kernel
theorem dX6_alter_87 : decode cX6_alter 87 = .ok (.iload_n 2, 1) := by decide +kernel
theorem dX6_alter_88 : decode cX6_alter 88 = .ok (.iadd, 1) := by decide +kernel
theorem dX6_alter_89 : decode cX6_alter 89 = .ok (.iconst 1, 1) := by decide +kernel
theorem dX6_alter_90 : decode cX6_alter 90 = .ok (.isub, 1) := by decide +kernel
theorem dX6_alter_91 : decode cX6_alter 91 = .ok (.iload_n 3, 1) := by decide +kernel
theorem dX6_alter_92 : decode cX6_alter 92 = .ok (.iastore, 1) := by decide +kernel
theorem dX6_alter_93 : decode cX6_alter 93 = .ok (.iload 4, 2) := by decide +kernel
theorem dX6_alter_95 : decode cX6_alter 95 = .ok (.ireturn, 1) := by decide +kernel
theorem dX6_pay_0 : decode cX6_pay 0 = .ok (.aload_n 0, 1) := by decide +kernel
theorem dX6_pay_1 : decode cX6_pay 1 = .ok (.getfield 10, 3) := by decide +kernel
theorem dX6_pay_4 : decode cX6_pay 4 = .ok (.iload_n 1, 1) := by decide +kernel
theorem dX6_pay_5 : decode cX6_pay 5 = .ok (.invokevirtual 141, 3) := by decide +kernel
theorem dX6_pay_8 : decode cX6_pay 8 = .ok (.ifCond .eq 32, 3) := by decide +kernel
theorem dX6_pay_11 : decode cX6_pay 11 = .ok (.iload_n 2, 1) := by decide +kernel
theorem dX6_pay_12 : decode cX6_pay 12 = .ok (.iconst 0, 1) := by decide +kernel
theorem dX6_pay_13 : decode cX6_pay 13 = .ok (.iconst 1, 1) := by decide +kernel
theorem dX6_pay_14 : decode cX6_pay 14 = .ok (.invokestatic 73, 3) := by decide +kernel
theorem dX6_pay_17 : decode cX6_pay 17 = .ok (.ifCond .eq 23, 3) := by decide +kernel
theorem dX6_pay_20 : decode cX6_pay 20 = .ok (.iload_n 3, 1) := by decide +kernel
theorem dX6_pay_21 : decode cX6_pay 21 = .ok (.iconst 0, 1) := by decide +kernel
theorem dX6_pay_22 : decode cX6_pay 22 = .ok (.iload_n 2, 1) := by decide +kernel
theorem dX6_pay_23 : decode cX6_pay 23 = .ok (.ifCond .ne 9, 3) := by decide +kernel
theorem dX6_pay_26 : decode cX6_pay 26 = .ok (.sipush 999, 3) := by decide +kernel
theorem dX6_pay_29 : decode cX6_pay 29 = .ok (.goto 5, 3) := by decide +kernel
theorem dX6_pay_32 : decode cX6_pay 32 = .ok (.bipush 99, 2) := by decide +kernel
theorem dX6_pay_34 : decode cX6_pay 34 = .ok (.invokestatic 73, 3) := by decide +kernel
theorem dX6_pay_37 : decode cX6_pay 37 = .ok (.ifCond .ne 5, 3) := by decide +kernel
theorem dX6_pay_40 : decode cX6_pay 40 = .ok (.iconst (-1), 1) := by decide +kernel
theorem dX6_pay_41 : decode cX6_pay 41 = .ok (.ireturn, 1) := by decide +kernel
theorem dX6_pay_42 : decode cX6_pay 42 = .ok (.aload_n 0, 1) := by decide +kernel
theorem dX6_pay_43 : decode cX6_pay 43 = .ok (.iload_n 1, 1) := by decide +kernel
theorem dX6_pay_44 : decode cX6_pay 44 = .ok (.iload_n 2, 1) := by decide +kernel
theorem dX6_pay_45 : decode cX6_pay 45 = .ok (.invokevirtual 176, 3) := by decide +kernel
theorem dX6_pay_48 : decode cX6_pay 48 = .ok (.istore 4, 2) := by decide +kernel
theorem dX6_pay_50 : decode cX6_pay 50 = .ok (.iload_n 2, 1) := by decide +kernel
theorem dX6_pay_51 : decode cX6_pay 51 = .ok (.ifCond .ne 16, 3) := by decide +kernel
theorem dX6_pay_54 : decode cX6_pay 54 = .ok (.aload_n 0, 1) := by decide +kernel
theorem dX6_pay_55 : decode cX6_pay 55 = .ok (.getfield 10, 3) := by decide +kernel
theorem dX6_pay_58 : decode cX6_pay 58 = .ok (.getfield 144, 3) := by decide +kernel
theorem dX6_pay_61 : decode cX6_pay 61 = .ok (.iload_n 1, 1) := by decide +kernel
theorem dX6_pay_62 : decode cX6_pay 62 = .ok (.iload_n 3, 1) := by decide +kernel
theorem dX6_pay_63 : decode cX6_pay 63 = .ok (.iastore, 1) := by decide +kernel
theorem dX6_pay_64 : decode cX6_pay 64 = .ok (.goto 13, 3) := by decide +kernel
theorem dX6_pay_67 : decode cX6_pay 67 = .ok (.aload_n 0, 1) := by decide +kernel
theorem dX6_pay_68 : decode cX6_pay 68 = .ok (.getfield 10, 3) := by decide +kernel
theorem dX6_pay_71 : decode cX6_pay 71 = .ok (.getfield 147, 3) := by decide +kernel
theorem dX6_pay_74 : decode cX6_pay 74 = .ok (.iload_n 1, 1) := by decide +kernel
theorem dX6_pay_75 : decode cX6_pay 75 = .ok (.iload_n 3, 1) := by decide +kernel
theorem dX6_pay_76 : decode cX6_pay 76 = .ok (.iastore, 1) := by decide +kernel
theorem dX6_pay_77 : decode cX6_pay 77 = .ok (.iload 4, 2) := by decide +kernel
theorem dX6_pay_79 : decode cX6_pay 79 = .ok (.ireturn, 1) := by decide +kernel
theorem dX6_lend_0 : decode cX6_lend 0 = .ok (.aload_n 0, 1) := by decide +kernel
theorem dX6_lend_1 : decode cX6_lend 1 = .ok (.getfield 10, 3) := by decide +kernel
theorem dX6_lend_4 : decode cX6_lend 4 = .ok (.iload_n 1, 1) := by decide +kernel
theorem dX6_lend_5 : decode cX6_lend 5 = .ok (.iload_n 2, 1) := by decide +kernel
theorem dX6_lend_6 : decode cX6_lend 6 = .ok (.iload_n 3, 1) := by decide +kernel
theorem dX6_lend_7 : decode cX6_lend 7 = .ok (.invokevirtual 179, 3) := by decide +kernel
theorem dX6_lend_10 : decode cX6_lend 10 = .ok (.ireturn, 1) := by decide +kernel
theorem dX6_bring_0 : decode cX6_bring 0 = .ok (.aload_n 0, 1) := by decide +kernel
theorem dX6_bring_1 : decode cX6_bring 1 = .ok (.getfield 10, 3) := by decide +kernel
theorem dX6_bring_4 : decode cX6_bring 4 = .ok (.iload_n 1, 1) := by decide +kernel
theorem dX6_bring_5 : decode cX6_bring 5 = .ok (.invokevirtual 141, 3) := by decide +kernel
theorem dX6_bring_8 : decode cX6_bring 8 = .ok (.ifCond .eq 24, 3) := by decide +kernel
theorem dX6_bring_11 : decode cX6_bring 11 = .ok (.aload_n 0, 1) := by decide +kernel
theorem dX6_bring_12 : decode cX6_bring 12 = .ok (.getfield 10, 3) := by decide +kernel
theorem dX6_bring_15 : decode cX6_bring 15 = .ok (.iload_n 2, 1) := by decide +kernel
theorem dX6_bring_16 : decode cX6_bring 16 = .ok (.invokevirtual 121, 3) := by decide +kernel
theorem dX6_bring_19 : decode cX6_bring 19 = .ok (.ifCond .eq 13, 3) := by decide +kernel
theorem dX6_bring_22 : decode cX6_bring 22 = .ok (.iload_n 3, 1) := by decide +kernel
theorem dX6_bring_23 : decode cX6_bring 23 = .ok (.iconst 1, 1) := by decide +kernel
theorem dX6_bring_24 : decode cX6_bring 24 = .ok (.bipush 99, 2) := by decide +kernel
theorem dX6_bring_26 : decode cX6_bring 26 = .ok (.invokestatic 73, 3) := by decide +kernel
theorem dX6_bring_29 : decode cX6_bring 29 = .ok (.ifCond .ne 5, 3) := by decide +kernel
theorem dX6_bring_32 : decode cX6_bring 32 = .ok (.iconst (-1), 1) := by decide +kernel
theorem dX6_bring_33 : decode cX6_bring 33 = .ok (.ireturn, 1) := by decide +kernel
theorem dX6_bring_34 : decode cX6_bring 34 = .ok (.aload_n 0, 1) := by decide +kernel
theorem dX6_bring_35 : decode cX6_bring 35 = .ok (.getfield 10, 3) := by decide +kernel
theorem dX6_bring_38 : decode cX6_bring 38 = .ok (.getfield 156, 3) := by decide +kernel
theorem dX6_bring_41 : decode cX6_bring 41 = .ok (.iload_n 1, 1) := by decide +kernel
theorem dX6_bring_42 : decode cX6_bring 42 = .ok (.iconst 5, 1) := by decide +kernel
theorem dX6_bring_43 : decode cX6_bring 43 = .ok (.imul, 1) := by decide +kernel
theorem dX6_bring_44 : decode cX6_bring 44 = .ok (.iload_n 2, 1) := by decide +kernel
theorem dX6_bring_45 : decode cX6_bring 45 = .ok (.iadd, 1) := by decide +kernel
theorem dX6_bring_46 : decode cX6_bring 46 = .ok (.iaload, 1) := by decide +kernel
theorem dX6_bring_47 : decode cX6_bring 47 = .ok (.iload_n 3, 1) := by decide +kernel
theorem dX6_bring_48 : decode cX6_bring 48 = .ok (.if_icmp .ge 6, 3) := by decide +kernel
theorem dX6_bring_51 : decode cX6_bring 51 = .ok (.bipush (-2), 2) := by decide +kernel
theorem dX6_bring_53 : decode cX6_bring 53 = .ok (.ireturn, 1) := by decide +kernel
theorem dX6_bring_54 : decode cX6_bring 54 = .ok (.aload_n 0, 1) := by decide +kernel
theorem dX6_bring_55 : decode cX6_bring 55 = .ok (.getfield 10, 3) := by decide +kernel
theorem dX6_bring_58 : decode cX6_bring 58 = .ok (.iload_n 1, 1) := by decide +kernel
theorem dX6_bring_59 : decode cX6_bring 59 = .ok (.iload_n 2, 1) := by decide +kernel
theorem dX6_bring_60 : decode cX6_bring 60 = .ok (.iload_n 3, 1) := by decide +kernel
theorem dX6_bring_61 : decode cX6_bring 61 = .ok (.invokevirtual 183, 3) := by decide +kernel
theorem dX6_bring_64 : decode cX6_bring 64 = .ok (.aload_n 0, 1) := by decide +kernel
theorem dX6_bring_65 : decode cX6_bring 65 = .ok (.getfield 10, 3) := by decide +kernel
theorem dX6_bring_68 : decode cX6_bring 68 = .ok (.getfield 156, 3) := by decide +kernel
theorem dX6_bring_71 : decode cX6_bring 71 = .ok (.iload_n 1, 1) := by decide +kernel
theorem dX6_bring_72 : decode cX6_bring 72 = .ok (.iconst 5, 1) := by decide +kernel
theorem dX6_bring_73 : decode cX6_bring 73 = .ok (.imul, 1) := by decide +kernel
theorem dX6_bring_74 : decode cX6_bring 74 = .ok (.iload_n 2, 1) := by decide +kernel
theorem dX6_bring_75 : decode cX6_bring 75 = .ok (.iadd, 1) := by decide +kernel
theorem dX6_bring_76 : decode cX6_bring 76 = .ok (.iaload, 1) := by decide +kernel
theorem dX6_bring_77 : decode cX6_bring 77 = .ok (.ireturn, 1) := by decide +kernel
theorem dX6_days_0 : decode cX6_days 0 = .ok (.iload_n 1, 1) := by decide +kernel
theorem dX6_days_1 : decode cX6_days 1 = .ok (.iconst 0, 1) := by decide +kernel
theorem dX6_days_2 : decode cX6_days 2 = .ok (.bipush 30, 2) := by decide +kernel
theorem dX6_days_4 : decode cX6_days 4 = .ok (.invokestatic 73, 3) := by decide +kernel
theorem dX6_days_7 : decode cX6_days 7 = .ok (.ifCond .ne 5, 3) := by decide +kernel
theorem dX6_days_10 : decode cX6_days 10 = .ok (.iconst (-1), 1) := by decide +kernel
theorem dX6_days_11 : decode cX6_days 11 = .ok (.ireturn, 1) := by decide +kernel
theorem dX6_days_12 : decode cX6_days 12 = .ok (.aload_n 0, 1) := by decide +kernel
theorem dX6_days_13 : decode cX6_days 13 = .ok (.getfield 10, 3) := by decide +kernel
theorem dX6_days_16 : decode cX6_days 16 = .ok (.getfield 109, 3) := by decide +kernel
theorem dX6_days_19 : decode cX6_days 19 = .ok (.iload_n 1, 1) := by decide +kernel
theorem dX6_days_20 : decode cX6_days 20 = .ok (.iadd, 1) := by decide +kernel
theorem dX6_days_21 : decode cX6_days 21 = .ok (.sipush 1000, 3) := by decide +kernel
theorem dX6_days_24 : decode cX6_days 24 = .ok (.if_icmp .lt 6, 3) := by decide +kernel
theorem dX6_days_27 : decode cX6_days 27 = .ok (.bipush (-3), 2) := by decide +kernel
theorem dX6_days_29 : decode cX6_days 29 = .ok (.ireturn, 1) := by decide +kernel
theorem dX6_days_30 : decode cX6_days 30 = .ok (.aload_n 0, 1) := by decide +kernel
theorem dX6_days_31 : decode cX6_days 31 = .ok (.getfield 10, 3) := by decide +kernel
theorem dX6_days_34 : decode cX6_days 34 = .ok (.getfield 112, 3) := by decide +kernel
theorem dX6_days_37 : decode cX6_days 37 = .ok (.istore_n 2, 1) := by decide +kernel
theorem dX6_days_38 : decode cX6_days 38 = .ok (.aload_n 0, 1) := by decide +kernel
theorem dX6_days_39 : decode cX6_days 39 = .ok (.getfield 10, 3) := by decide +kernel
theorem dX6_days_42 : decode cX6_days 42 = .ok (.iload_n 1, 1) := by decide +kernel
theorem dX6_days_43 : decode cX6_days 43 = .ok (.invokevirtual 187, 3) := by decide +kernel
theorem dX6_days_46 : decode cX6_days 46 = .ok (.aload_n 0, 1) := by decide +kernel
theorem dX6_days_47 : decode cX6_days 47 = .ok (.getfield 10, 3) := by decide +kernel
theorem dX6_days_50 : decode cX6_days 50 = .ok (.getfield 112, 3) := by decide +kernel
theorem dX6_days_53 : decode cX6_days 53 = .ok (.iload_n 2, 1) := by decide +kernel
theorem dX6_days_54 : decode cX6_days 54 = .ok (.isub, 1) := by decide +kernel
theorem dX6_days_55 : decode cX6_days 55 = .ok (.ireturn, 1) := by decide +kernel
theorem dX6_runs_0 : decode cX6_runs 0 = .ok (.iload_n 1, 1) := by decide +kernel
theorem dX6_runs_1 : decode cX6_runs 1 = .ok (.iconst 0, 1) := by decide +kernel
theorem dX6_runs_2 : decode cX6_runs 2 = .ok (.bipush 60, 2) := by decide +kernel
theorem dX6_runs_4 : decode cX6_runs 4 = .ok (.invokestatic 73, 3) := by decide +kernel
theorem dX6_runs_7 : decode cX6_runs 7 = .ok (.ifCond .eq 12, 3) := by decide +kernel
theorem dX6_runs_10 : decode cX6_runs 10 = .ok (.iload_n 2, 1) := by decide +kernel
theorem dX6_runs_11 : decode cX6_runs 11 = .ok (.iconst 0, 1) := by decide +kernel
theorem dX6_runs_12 : decode cX6_runs 12 = .ok (.iconst 3, 1) := by decide +kernel
theorem dX6_runs_13 : decode cX6_runs 13 = .ok (.invokestatic 73, 3) := by decide +kernel
theorem dX6_runs_16 : decode cX6_runs 16 = .ok (.ifCond .ne 5, 3) := by decide +kernel
theorem dX6_runs_19 : decode cX6_runs 19 = .ok (.iconst (-1), 1) := by decide +kernel
theorem dX6_runs_20 : decode cX6_runs 20 = .ok (.ireturn, 1) := by decide +kernel
theorem dX6_runs_21 : decode cX6_runs 21 = .ok (.aload_n 0, 1) := by decide +kernel
theorem dX6_runs_22 : decode cX6_runs 22 = .ok (.getfield 16, 3) := by decide +kernel
theorem dX6_runs_25 : decode cX6_runs 25 = .ok (.aload_n 0, 1) := by decide +kernel
theorem dX6_runs_26 : decode cX6_runs 26 = .ok (.getfield 10, 3) := by decide +kernel
theorem dX6_runs_29 : decode cX6_runs 29 = .ok (.invokevirtual 96, 3) := by decide +kernel
theorem dX6_runs_32 : decode cX6_runs 32 = .ok (.bipush (-4), 2) := by decide +kernel
theorem dX6_runs_34 : decode cX6_runs 34 = .ok (.istore_n 3, 1) := by decide +kernel
theorem dX6_runs_35 : decode cX6_runs 35 = .ok (.iconst 1, 1) := by decide +kernel
theorem dX6_runs_36 : decode cX6_runs 36 = .ok (.istore 4, 2) := by decide +kernel
theorem dX6_runs_38 : decode cX6_runs 38 = .ok (.iload 4, 2) := by decide +kernel
theorem dX6_runs_40 : decode cX6_runs 40 = .ok (.iload_n 1, 1) := by decide +kernel
theorem dX6_runs_41 : decode cX6_runs 41 = .ok (.if_icmp .gt 43, 3) := by decide +kernel
theorem dX6_runs_44 : decode cX6_runs 44 = .ok (.aload_n 0, 1) := by decide +kernel
theorem dX6_runs_45 : decode cX6_runs 45 = .ok (.getfield 16, 3) := by decide +kernel
theorem dX6_runs_48 : decode cX6_runs 48 = .ok (.iconst 1, 1) := by decide +kernel
theorem dX6_runs_49 : decode cX6_runs 49 = .ok (.invokevirtual 191, 3) := by decide +kernel
theorem dX6_runs_52 : decode cX6_runs 52 = .ok (.iload_n 3, 1) := by decide +kernel
theorem dX6_runs_53 : decode cX6_runs 53 = .ok (.bipush (-4), 2) := by decide +kernel
theorem dX6_runs_55 : decode cX6_runs 55 = .ok (.if_icmp .ne 23, 3) := by decide +kernel
theorem dX6_runs_58 : decode cX6_runs 58 = .ok (.aload_n 0, 1) := by decide +kernel
theorem dX6_runs_59 : decode cX6_runs 59 = .ok (.getfield 16, 3) := by decide +kernel
theorem dX6_runs_62 : decode cX6_runs 62 = .ok (.getfield 112, 3) := by decide +kernel
theorem dX6_runs_65 : decode cX6_runs 65 = .ok (.aload_n 0, 1) := by decide +kernel
theorem dX6_runs_66 : decode cX6_runs 66 = .ok (.getfield 10, 3) := by decide +kernel
theorem dX6_runs_69 : decode cX6_runs 69 = .ok (.getfield 112, 3) := by decide +kernel
theorem dX6_runs_72 : decode cX6_runs 72 = .ok (.if_icmp .le 6, 3) := by decide +kernel
theorem dX6_runs_75 : decode cX6_runs 75 = .ok (.iload 4, 2) := by decide +kernel
theorem dX6_runs_77 : decode cX6_runs 77 = .ok (.istore_n 3, 1) := by decide +kernel
theorem dX6_runs_78 : decode cX6_runs 78 = .ok (.iinc 4 1, 3) := by decide +kernel
theorem dX6_runs_81 : decode cX6_runs 81 = .ok (.goto (-43), 3) := by decide +kernel
theorem dX6_runs_84 : decode cX6_runs 84 = .ok (.iload_n 2, 1) := by decide +kernel
theorem dX6_runs_85 : decode cX6_runs 85 = .ok (.tableswitch 59 0 2 #[27, 35, 51], 27) := by decide +kernel
theorem dX6_runs_112 : decode cX6_runs 112 = .ok (.aload_n 0, 1) := by decide +kernel
theorem dX6_runs_113 : decode cX6_runs 113 = .ok (.getfield 16, 3) := by decide +kernel
theorem dX6_runs_116 : decode cX6_runs 116 = .ok (.invokevirtual 118, 3) := by decide +kernel
theorem dX6_runs_119 : decode cX6_runs 119 = .ok (.ireturn, 1) := by decide +kernel
theorem dX6_runs_120 : decode cX6_runs 120 = .ok (.aload_n 0, 1) := by decide +kernel
theorem dX6_runs_121 : decode cX6_runs 121 = .ok (.getfield 16, 3) := by decide +kernel
theorem dX6_runs_124 : decode cX6_runs 124 = .ok (.getfield 112, 3) := by decide +kernel
theorem dX6_runs_127 : decode cX6_runs 127 = .ok (.aload_n 0, 1) := by decide +kernel
theorem dX6_runs_128 : decode cX6_runs 128 = .ok (.getfield 10, 3) := by decide +kernel
theorem dX6_runs_131 : decode cX6_runs 131 = .ok (.getfield 112, 3) := by decide +kernel
theorem dX6_runs_134 : decode cX6_runs 134 = .ok (.isub, 1) := by decide +kernel
theorem dX6_runs_135 : decode cX6_runs 135 = .ok (.ireturn, 1) := by decide +kernel
theorem dX6_runs_136 : decode cX6_runs 136 = .ok (.aload_n 0, 1) := by decide +kernel
theorem dX6_runs_137 : decode cX6_runs 137 = .ok (.getfield 16, 3) := by decide +kernel
theorem dX6_runs_140 : decode cX6_runs 140 = .ok (.getfield 194, 3) := by decide +kernel
theorem dX6_runs_143 : decode cX6_runs 143 = .ok (.ireturn, 1) := by decide +kernel
theorem dX6_runs_144 : decode cX6_runs 144 = .ok (.iload_n 3, 1) := by decide +kernel
theorem dX6_runs_145 : decode cX6_runs 145 = .ok (.ireturn, 1) := by decide +kernel
theorem dX6_ahead_0 : decode cX6_ahead 0 = .ok (.aload_n 0, 1) := by decide +kernel
theorem dX6_ahead_1 : decode cX6_ahead 1 = .ok (.getfield 10, 3) := by decide +kernel
theorem dX6_ahead_4 : decode cX6_ahead 4 = .ok (.iload_n 1, 1) := by decide +kernel
theorem dX6_ahead_5 : decode cX6_ahead 5 = .ok (.invokevirtual 141, 3) := by decide +kernel
theorem dX6_ahead_8 : decode cX6_ahead 8 = .ok (.ifCond .eq 22, 3) := by decide +kernel
theorem dX6_ahead_11 : decode cX6_ahead 11 = .ok (.iload_n 2, 1) := by decide +kernel
theorem dX6_ahead_12 : decode cX6_ahead 12 = .ok (.iconst 0, 1) := by decide +kernel
theorem dX6_ahead_13 : decode cX6_ahead 13 = .ok (.bipush 60, 2) := by decide +kernel
theorem dX6_ahead_15 : decode cX6_ahead 15 = .ok (.invokestatic 73, 3) := by decide +kernel
theorem dX6_ahead_18 : decode cX6_ahead 18 = .ok (.ifCond .eq 12, 3) := by decide +kernel
theorem dX6_ahead_21 : decode cX6_ahead 21 = .ok (.iload_n 3, 1) := by decide +kernel
theorem dX6_ahead_22 : decode cX6_ahead 22 = .ok (.iconst 0, 1) := by decide +kernel
theorem dX6_ahead_23 : decode cX6_ahead 23 = .ok (.iconst 2, 1) := by decide +kernel
theorem dX6_ahead_24 : decode cX6_ahead 24 = .ok (.invokestatic 73, 3) := by decide +kernel
theorem dX6_ahead_27 : decode cX6_ahead 27 = .ok (.ifCond .ne 5, 3) := by decide +kernel
theorem dX6_ahead_30 : decode cX6_ahead 30 = .ok (.iconst (-1), 1) := by decide +kernel
theorem dX6_ahead_31 : decode cX6_ahead 31 = .ok (.ireturn, 1) := by decide +kernel
theorem dX6_ahead_32 : decode cX6_ahead 32 = .ok (.aload_n 0, 1) := by decide +kernel
theorem dX6_ahead_33 : decode cX6_ahead 33 = .ok (.getfield 16, 3) := by decide +kernel
theorem dX6_ahead_36 : decode cX6_ahead 36 = .ok (.aload_n 0, 1) := by decide +kernel
theorem dX6_ahead_37 : decode cX6_ahead 37 = .ok (.getfield 10, 3) := by decide +kernel
theorem dX6_ahead_40 : decode cX6_ahead 40 = .ok (.invokevirtual 96, 3) := by decide +kernel
theorem dX6_ahead_43 : decode cX6_ahead 43 = .ok (.aload_n 0, 1) := by decide +kernel
theorem dX6_ahead_44 : decode cX6_ahead 44 = .ok (.getfield 16, 3) := by decide +kernel
theorem dX6_ahead_47 : decode cX6_ahead 47 = .ok (.iload_n 1, 1) := by decide +kernel
theorem dX6_ahead_48 : decode cX6_ahead 48 = .ok (.iload_n 2, 1) := by decide +kernel
theorem dX6_ahead_49 : decode cX6_ahead 49 = .ok (.invokevirtual 197, 3) := by decide +kernel
theorem dX6_ahead_52 : decode cX6_ahead 52 = .ok (.iload_n 3, 1) := by decide +kernel
theorem dX6_ahead_53 : decode cX6_ahead 53 = .ok (.lookupswitch 46 #[(0, 27), (1, 36)], 27) := by decide +kernel
theorem dX6_ahead_80 : decode cX6_ahead 80 = .ok (.aload_n 0, 1) := by decide +kernel
theorem dX6_ahead_81 : decode cX6_ahead 81 = .ok (.getfield 16, 3) := by decide +kernel
theorem dX6_ahead_84 : decode cX6_ahead 84 = .ok (.iload_n 1, 1) := by decide +kernel
theorem dX6_ahead_85 : decode cX6_ahead 85 = .ok (.invokevirtual 150, 3) := by decide +kernel
theorem dX6_ahead_88 : decode cX6_ahead 88 = .ok (.ireturn, 1) := by decide +kernel
theorem dX6_ahead_89 : decode cX6_ahead 89 = .ok (.aload_n 0, 1) := by decide +kernel
theorem dX6_ahead_90 : decode cX6_ahead 90 = .ok (.getfield 16, 3) := by decide +kernel
theorem dX6_ahead_93 : decode cX6_ahead 93 = .ok (.getfield 144, 3) := by decide +kernel
theorem dX6_ahead_96 : decode cX6_ahead 96 = .ok (.iload_n 1, 1) := by decide +kernel
theorem dX6_ahead_97 : decode cX6_ahead 97 = .ok (.iaload, 1) := by decide +kernel
theorem dX6_ahead_98 : decode cX6_ahead 98 = .ok (.ireturn, 1) := by decide +kernel
theorem dX6_ahead_99 : decode cX6_ahead 99 = .ok (.aload_n 0, 1) := by decide +kernel
theorem dX6_ahead_100 : decode cX6_ahead 100 = .ok (.getfield 16, 3) := by decide +kernel
theorem dX6_ahead_103 : decode cX6_ahead 103 = .ok (.iload_n 1, 1) := by decide +kernel
theorem dX6_ahead_104 : decode cX6_ahead 104 = .ok (.invokevirtual 153, 3) := by decide +kernel
theorem dX6_ahead_107 : decode cX6_ahead 107 = .ok (.ireturn, 1) := by decide +kernel
theorem dX6_lasts_0 : decode cX6_lasts 0 = .ok (.aload_n 0, 1) := by decide +kernel
theorem dX6_lasts_1 : decode cX6_lasts 1 = .ok (.getfield 10, 3) := by decide +kernel
theorem dX6_lasts_4 : decode cX6_lasts 4 = .ok (.iload_n 1, 1) := by decide +kernel
theorem dX6_lasts_5 : decode cX6_lasts 5 = .ok (.invokevirtual 141, 3) := by decide +kernel
theorem dX6_lasts_8 : decode cX6_lasts 8 = .ok (.ifCond .ne 5, 3) := by decide +kernel
theorem dX6_lasts_11 : decode cX6_lasts 11 = .ok (.iconst (-1), 1) := by decide +kernel
theorem dX6_lasts_12 : decode cX6_lasts 12 = .ok (.ireturn, 1) := by decide +kernel
theorem dX6_lasts_13 : decode cX6_lasts 13 = .ok (.aload_n 0, 1) := by decide +kernel
theorem dX6_lasts_14 : decode cX6_lasts 14 = .ok (.getfield 16, 3) := by decide +kernel
theorem dX6_lasts_17 : decode cX6_lasts 17 = .ok (.aload_n 0, 1) := by decide +kernel
theorem dX6_lasts_18 : decode cX6_lasts 18 = .ok (.getfield 10, 3) := by decide +kernel
theorem dX6_lasts_21 : decode cX6_lasts 21 = .ok (.invokevirtual 96, 3) := by decide +kernel
theorem dX6_lasts_24 : decode cX6_lasts 24 = .ok (.iconst 0, 1) := by decide +kernel
theorem dX6_lasts_25 : decode cX6_lasts 25 = .ok (.istore_n 2, 1) := by decide +kernel
theorem dX6_lasts_26 : decode cX6_lasts 26 = .ok (.iload_n 2, 1) := by decide +kernel
theorem dX6_lasts_27 : decode cX6_lasts 27 = .ok (.bipush 60, 2) := by decide +kernel
theorem dX6_lasts_29 : decode cX6_lasts 29 = .ok (.if_icmp .gt 31, 3) := by decide +kernel
theorem dX6_lasts_32 : decode cX6_lasts 32 = .ok (.aload_n 0, 1) := by decide +kernel
theorem dX6_lasts_33 : decode cX6_lasts 33 = .ok (.getfield 16, 3) := by decide +kernel
theorem dX6_lasts_36 : decode cX6_lasts 36 = .ok (.iload_n 1, 1) := by decide +kernel
theorem dX6_lasts_37 : decode cX6_lasts 37 = .ok (.invokevirtual 153, 3) := by decide +kernel
theorem dX6_lasts_40 : decode cX6_lasts 40 = .ok (.ifCond .ne 5, 3) := by decide +kernel
theorem dX6_lasts_43 : decode cX6_lasts 43 = .ok (.iload_n 2, 1) := by decide +kernel
theorem dX6_lasts_44 : decode cX6_lasts 44 = .ok (.ireturn, 1) := by decide +kernel
theorem dX6_lasts_45 : decode cX6_lasts 45 = .ok (.aload_n 0, 1) := by decide +kernel
theorem dX6_lasts_46 : decode cX6_lasts 46 = .ok (.getfield 16, 3) := by decide +kernel
theorem dX6_lasts_49 : decode cX6_lasts 49 = .ok (.iload_n 1, 1) := by decide +kernel
theorem dX6_lasts_50 : decode cX6_lasts 50 = .ok (.iconst 1, 1) := by decide +kernel
theorem dX6_lasts_51 : decode cX6_lasts 51 = .ok (.invokevirtual 201, 3) := by decide +kernel
theorem dX6_lasts_54 : decode cX6_lasts 54 = .ok (.iinc 2 1, 3) := by decide +kernel
theorem dX6_lasts_57 : decode cX6_lasts 57 = .ok (.goto (-31), 3) := by decide +kernel
theorem dX6_lasts_60 : decode cX6_lasts 60 = .ok (.bipush (-4), 2) := by decide +kernel
theorem dX6_lasts_62 : decode cX6_lasts 62 = .ok (.ireturn, 1) := by decide +kernel
theorem dX6_mix_0 : decode cX6_mix 0 = .ok (.iload_n 1, 1) := by decide +kernel
theorem dX6_mix_1 : decode cX6_mix 1 = .ok (.invokestatic 163, 3) := by decide +kernel
theorem dX6_mix_4 : decode cX6_mix 4 = .ok (.ifCond .eq 28, 3) := by decide +kernel
theorem dX6_mix_7 : decode cX6_mix 7 = .ok (.iload_n 2, 1) := by decide +kernel
theorem dX6_mix_8 : decode cX6_mix 8 = .ok (.iconst 1, 1) := by decide +kernel
theorem dX6_mix_9 : decode cX6_mix 9 = .ok (.bipush 6, 2) := by decide +kernel
theorem dX6_mix_11 : decode cX6_mix 11 = .ok (.invokestatic 73, 3) := by decide +kernel
theorem dX6_mix_14 : decode cX6_mix 14 = .ok (.ifCond .eq 18, 3) := by decide +kernel
theorem dX6_mix_17 : decode cX6_mix 17 = .ok (.iload_n 3, 1) := by decide +kernel
theorem dX6_mix_18 : decode cX6_mix 18 = .ok (.iconst 0, 1) := by decide +kernel
theorem dX6_mix_19 : decode cX6_mix 19 = .ok (.aload_n 0, 1) := by decide +kernel
theorem dX6_mix_20 : decode cX6_mix 20 = .ok (.getfield 10, 3) := by decide +kernel
theorem dX6_mix_23 : decode cX6_mix 23 = .ok (.getfield 103, 3) := by decide +kernel
theorem dX6_mix_26 : decode cX6_mix 26 = .ok (.invokestatic 73, 3) := by decide +kernel
theorem dX6_mix_29 : decode cX6_mix 29 = .ok (.ifCond .ne 5, 3) := by decide +kernel
theorem dX6_mix_32 : decode cX6_mix 32 = .ok (.iconst (-1), 1) := by decide +kernel
theorem dX6_mix_33 : decode cX6_mix 33 = .ok (.ireturn, 1) := by decide +kernel
theorem dX6_mix_34 : decode cX6_mix 34 = .ok (.aload_n 0, 1) := by decide +kernel
theorem dX6_mix_35 : decode cX6_mix 35 = .ok (.getfield 51, 3) := by decide +kernel
theorem dX6_mix_38 : decode cX6_mix 38 = .ok (.aload_n 0, 1) := by decide +kernel
theorem dX6_mix_39 : decode cX6_mix 39 = .ok (.getfield 10, 3) := by decide +kernel
theorem dX6_mix_42 : decode cX6_mix 42 = .ok (.iload_n 1, 1) := by decide +kernel
theorem dX6_mix_43 : decode cX6_mix 43 = .ok (.iload_n 2, 1) := by decide +kernel
theorem dX6_mix_44 : decode cX6_mix 44 = .ok (.bipush 27, 2) := by decide +kernel
theorem dX6_mix_46 : decode cX6_mix 46 = .ok (.invokevirtual 204, 3) := by decide +kernel
theorem dX6_mix_49 : decode cX6_mix 49 = .ok (.aload_n 0, 1) := by decide +kernel
theorem dX6_mix_50 : decode cX6_mix 50 = .ok (.getfield 51, 3) := by decide +kernel
theorem dX6_mix_53 : decode cX6_mix 53 = .ok (.getfield 208, 3) := by decide +kernel
theorem dX6_mix_56 : decode cX6_mix 56 = .ok (.bipush 27, 2) := by decide +kernel
theorem dX6_mix_58 : decode cX6_mix 58 = .ok (.if_icmp .le 6, 3) := by decide +kernel
theorem dX6_mix_61 : decode cX6_mix 61 = .ok (.bipush (-4), 2) := by decide +kernel
theorem dX6_mix_63 : decode cX6_mix 63 = .ok (.ireturn, 1) := by decide +kernel
theorem dX6_mix_64 : decode cX6_mix 64 = .ok (.iload_n 3, 1) := by decide +kernel
theorem dX6_mix_65 : decode cX6_mix 65 = .ok (.ifCond .ne 13, 3) := by decide +kernel
theorem dX6_mix_68 : decode cX6_mix 68 = .ok (.aload_n 0, 1) := by decide +kernel
theorem dX6_mix_69 : decode cX6_mix 69 = .ok (.getfield 51, 3) := by decide +kernel
theorem dX6_mix_72 : decode cX6_mix 72 = .ok (.getfield 208, 3) := by decide +kernel
theorem dX6_mix_75 : decode cX6_mix 75 = .ok (.goto 14, 3) := by decide +kernel
theorem dX6_mix_78 : decode cX6_mix 78 = .ok (.aload_n 0, 1) := by decide +kernel
theorem dX6_mix_79 : decode cX6_mix 79 = .ok (.getfield 51, 3) := by decide +kernel
theorem dX6_mix_82 : decode cX6_mix 82 = .ok (.getfield 211, 3) := by decide +kernel
theorem dX6_mix_85 : decode cX6_mix 85 = .ok (.iload_n 3, 1) := by decide +kernel
theorem dX6_mix_86 : decode cX6_mix 86 = .ok (.iconst 1, 1) := by decide +kernel
theorem dX6_mix_87 : decode cX6_mix 87 = .ok (.isub, 1) := by decide +kernel
theorem dX6_mix_88 : decode cX6_mix 88 = .ok (.iaload, 1) := by decide +kernel
theorem dX6_mix_89 : decode cX6_mix 89 = .ok (.ireturn, 1) := by decide +kernel
theorem dX6_cheap_0 : decode cX6_cheap 0 = .ok (.iload_n 1, 1) := by decide +kernel
theorem dX6_cheap_1 : decode cX6_cheap 1 = .ok (.invokestatic 163, 3) := by decide +kernel
theorem dX6_cheap_4 : decode cX6_cheap 4 = .ok (.ifCond .eq 23, 3) := by decide +kernel
theorem dX6_cheap_7 : decode cX6_cheap 7 = .ok (.iload_n 2, 1) := by decide +kernel
theorem dX6_cheap_8 : decode cX6_cheap 8 = .ok (.iconst 0, 1) := by decide +kernel
theorem dX6_cheap_9 : decode cX6_cheap 9 = .ok (.bipush 27, 2) := by decide +kernel
theorem dX6_cheap_11 : decode cX6_cheap 11 = .ok (.invokestatic 73, 3) := by decide +kernel
theorem dX6_cheap_14 : decode cX6_cheap 14 = .ok (.ifCond .eq 13, 3) := by decide +kernel
theorem dX6_cheap_17 : decode cX6_cheap 17 = .ok (.iload_n 3, 1) := by decide +kernel
theorem dX6_cheap_18 : decode cX6_cheap 18 = .ok (.iconst 1, 1) := by decide +kernel
theorem dX6_cheap_19 : decode cX6_cheap 19 = .ok (.bipush 6, 2) := by decide +kernel
theorem dX6_cheap_21 : decode cX6_cheap 21 = .ok (.invokestatic 73, 3) := by decide +kernel
theorem dX6_cheap_24 : decode cX6_cheap 24 = .ok (.ifCond .ne 5, 3) := by decide +kernel
theorem dX6_cheap_27 : decode cX6_cheap 27 = .ok (.iconst (-1), 1) := by decide +kernel
theorem dX6_cheap_28 : decode cX6_cheap 28 = .ok (.ireturn, 1) := by decide +kernel
theorem dX6_cheap_29 : decode cX6_cheap 29 = .ok (.aload_n 0, 1) := by decide +kernel
theorem dX6_cheap_30 : decode cX6_cheap 30 = .ok (.getfield 51, 3) := by decide +kernel
theorem dX6_cheap_33 : decode cX6_cheap 33 = .ok (.aload_n 0, 1) := by decide +kernel
theorem dX6_cheap_34 : decode cX6_cheap 34 = .ok (.getfield 10, 3) := by decide +kernel
theorem dX6_cheap_37 : decode cX6_cheap 37 = .ok (.iload_n 1, 1) := by decide +kernel
theorem dX6_cheap_38 : decode cX6_cheap 38 = .ok (.iload_n 3, 1) := by decide +kernel
theorem dX6_cheap_39 : decode cX6_cheap 39 = .ok (.iload_n 2, 1) := by decide +kernel
theorem dX6_cheap_40 : decode cX6_cheap 40 = .ok (.invokevirtual 204, 3) := by decide +kernel
theorem dX6_cheap_43 : decode cX6_cheap 43 = .ok (.aload_n 0, 1) := by decide +kernel
theorem dX6_cheap_44 : decode cX6_cheap 44 = .ok (.getfield 51, 3) := by decide +kernel
theorem dX6_cheap_47 : decode cX6_cheap 47 = .ok (.getfield 214, 3) := by decide +kernel
theorem dX6_cheap_50 : decode cX6_cheap 50 = .ok (.ireturn, 1) := by decide +kernel
theorem dX6_more_0 : decode cX6_more 0 = .ok (.aload_n 0, 1) := by decide +kernel
theorem dX6_more_1 : decode cX6_more 1 = .ok (.getfield 10, 3) := by decide +kernel
theorem dX6_more_4 : decode cX6_more 4 = .ok (.iload_n 1, 1) := by decide +kernel
theorem dX6_more_5 : decode cX6_more 5 = .ok (.invokevirtual 141, 3) := by decide +kernel
theorem dX6_more_8 : decode cX6_more 8 = .ok (.ifCond .eq 14, 3) := by decide +kernel
theorem dX6_more_11 : decode cX6_more 11 = .ok (.aload_n 0, 1) := by decide +kernel
theorem dX6_more_12 : decode cX6_more 12 = .ok (.getfield 10, 3) := by decide +kernel
theorem dX6_more_15 : decode cX6_more 15 = .ok (.iload_n 2, 1) := by decide +kernel
theorem dX6_more_16 : decode cX6_more 16 = .ok (.invokevirtual 121, 3) := by decide +kernel
theorem dX6_more_19 : decode cX6_more 19 = .ok (.ifCond .ne 5, 3) := by decide +kernel
theorem dX6_more_22 : decode cX6_more 22 = .ok (.iconst (-1), 1) := by decide +kernel
theorem dX6_more_23 : decode cX6_more 23 = .ok (.ireturn, 1) := by decide +kernel
theorem dX6_more_24 : decode cX6_more 24 = .ok (.aload_n 0, 1) := by decide +kernel
theorem dX6_more_25 : decode cX6_more 25 = .ok (.iload_n 1, 1) := by decide +kernel
theorem dX6_more_26 : decode cX6_more 26 = .ok (.iload_n 2, 1) := by decide +kernel
theorem dX6_more_27 : decode cX6_more 27 = .ok (.iconst 0, 1) := by decide +kernel
theorem dX6_more_28 : decode cX6_more 28 = .ok (.invokevirtual 217, 3) := by decide +kernel
theorem dX6_more_31 : decode cX6_more 31 = .ok (.istore_n 3, 1) := by decide +kernel
theorem dX6_more_32 : decode cX6_more 32 = .ok (.aload_n 0, 1) := by decide +kernel
theorem dX6_more_33 : decode cX6_more 33 = .ok (.getfield 10, 3) := by decide +kernel
theorem dX6_more_36 : decode cX6_more 36 = .ok (.getfield 131, 3) := by decide +kernel
theorem dX6_more_39 : decode cX6_more 39 = .ok (.iload_n 2, 1) := by decide +kernel
theorem dX6_more_40 : decode cX6_more 40 = .ok (.iaload, 1) := by decide +kernel
theorem dX6_more_41 : decode cX6_more 41 = .ok (.bipush 99, 2) := by decide +kernel
theorem dX6_more_43 : decode cX6_more 43 = .ok (.aload_n 0, 1) := by decide +kernel
theorem dX6_more_44 : decode cX6_more 44 = .ok (.getfield 10, 3) := by decide +kernel
theorem dX6_more_47 : decode cX6_more 47 = .ok (.getfield 156, 3) := by decide +kernel
theorem dX6_more_50 : decode cX6_more 50 = .ok (.iload_n 1, 1) := by decide +kernel
theorem dX6_more_51 : decode cX6_more 51 = .ok (.iconst 5, 1) := by decide +kernel
theorem dX6_more_52 : decode cX6_more 52 = .ok (.imul, 1) := by decide +kernel
theorem dX6_more_53 : decode cX6_more 53 = .ok (.iload_n 2, 1) := by decide +kernel
theorem dX6_more_54 : decode cX6_more 54 = .ok (.iadd, 1) := by decide +kernel
theorem dX6_more_55 : decode cX6_more 55 = .ok (.iaload, 1) := by decide +kernel
theorem dX6_more_56 : decode cX6_more 56 = .ok (.isub, 1) := by decide +kernel
theorem dX6_more_57 : decode cX6_more 57 = .ok (.invokestatic 220, 3) := by decide +kernel
theorem dX6_more_60 : decode cX6_more 60 = .ok (.istore 4, 2) := by decide +kernel
theorem dX6_more_62 : decode cX6_more 62 = .ok (.iload 4, 2) := by decide +kernel
theorem dX6_more_64 : decode cX6_more 64 = .ok (.istore 5, 2) := by decide +kernel
theorem dX6_more_66 : decode cX6_more 66 = .ok (.iload 5, 2) := by decide +kernel
theorem dX6_more_68 : decode cX6_more 68 = .ok (.ifCond .le 24, 3) := by decide +kernel
theorem dX6_more_71 : decode cX6_more 71 = .ok (.aload_n 0, 1) := by decide +kernel
theorem dX6_more_72 : decode cX6_more 72 = .ok (.iload_n 1, 1) := by decide +kernel
theorem dX6_more_73 : decode cX6_more 73 = .ok (.iload_n 2, 1) := by decide +kernel
theorem dX6_more_74 : decode cX6_more 74 = .ok (.iload 5, 2) := by decide +kernel
theorem dX6_more_76 : decode cX6_more 76 = .ok (.invokevirtual 217, 3) := by decide +kernel
theorem dX6_more_79 : decode cX6_more 79 = .ok (.iload_n 3, 1) := by decide +kernel
theorem dX6_more_80 : decode cX6_more 80 = .ok (.if_icmp .gt 6, 3) := by decide +kernel
theorem dX6_more_83 : decode cX6_more 83 = .ok (.iload 5, 2) := by decide +kernel
theorem dX6_more_85 : decode cX6_more 85 = .ok (.ireturn, 1) := by decide +kernel
theorem dX6_more_86 : decode cX6_more 86 = .ok (.iinc 5 (-1), 3) := by decide +kernel
theorem dX6_more_89 : decode cX6_more 89 = .ok (.goto (-23), 3) := by decide +kernel
theorem dX6_more_92 : decode cX6_more 92 = .ok (.iconst 0, 1) := by decide +kernel
theorem dX6_more_93 : decode cX6_more 93 = .ok (.ireturn, 1) := by decide +kernel
theorem dX6_swap_0 : decode cX6_swap 0 = .ok (.iload_n 1, 1) := by decide +kernel
theorem dX6_swap_1 : decode cX6_swap 1 = .ok (.iconst 0, 1) := by decide +kernel
theorem dX6_swap_2 : decode cX6_swap 2 = .ok (.iconst 1, 1) := by decide +kernel
theorem dX6_swap_3 : decode cX6_swap 3 = .ok (.invokestatic 73, 3) := by decide +kernel
theorem dX6_swap_6 : decode cX6_swap 6 = .ok (.ifCond .ne 5, 3) := by decide +kernel
theorem dX6_swap_9 : decode cX6_swap 9 = .ok (.iconst (-1), 1) := by decide +kernel
theorem dX6_swap_10 : decode cX6_swap 10 = .ok (.ireturn, 1) := by decide +kernel
theorem dX6_swap_11 : decode cX6_swap 11 = .ok (.aload_n 0, 1) := by decide +kernel
theorem dX6_swap_12 : decode cX6_swap 12 = .ok (.iconst 0, 1) := by decide +kernel
theorem dX6_swap_13 : decode cX6_swap 13 = .ok (.iconst 0, 1) := by decide +kernel
theorem dX6_swap_14 : decode cX6_swap 14 = .ok (.invokevirtual 225, 3) := by decide +kernel
theorem dX6_swap_17 : decode cX6_swap 17 = .ok (.istore_n 2, 1) := by decide +kernel
theorem dX6_swap_18 : decode cX6_swap 18 = .ok (.bipush (-4), 2) := by decide +kernel
theorem dX6_swap_20 : decode cX6_swap 20 = .ok (.istore_n 3, 1) := by decide +kernel
theorem dX6_swap_21 : decode cX6_swap 21 = .ok (.iconst 0, 1) := by decide +kernel
theorem dX6_swap_22 : decode cX6_swap 22 = .ok (.istore 4, 2) := by decide +kernel
theorem dX6_swap_24 : decode cX6_swap 24 = .ok (.iload 4, 2) := by decide +kernel
theorem dX6_swap_26 : decode cX6_swap 26 = .ok (.aload_n 0, 1) := by decide +kernel
theorem dX6_swap_27 : decode cX6_swap 27 = .ok (.getfield 10, 3) := by decide +kernel
theorem dX6_swap_30 : decode cX6_swap 30 = .ok (.getfield 106, 3) := by decide +kernel
theorem dX6_swap_33 : decode cX6_swap 33 = .ok (.if_icmp .ge 61, 3) := by decide +kernel
theorem dX6_swap_36 : decode cX6_swap 36 = .ok (.iload 4, 2) := by decide +kernel
theorem dX6_swap_38 : decode cX6_swap 38 = .ok (.iconst 1, 1) := by decide +kernel
theorem dX6_swap_39 : decode cX6_swap 39 = .ok (.iadd, 1) := by decide +kernel
theorem dX6_swap_40 : decode cX6_swap 40 = .ok (.istore 5, 2) := by decide +kernel
theorem dX6_swap_42 : decode cX6_swap 42 = .ok (.iload 5, 2) := by decide +kernel
theorem dX6_swap_44 : decode cX6_swap 44 = .ok (.aload_n 0, 1) := by decide +kernel
theorem dX6_swap_45 : decode cX6_swap 45 = .ok (.getfield 10, 3) := by decide +kernel
theorem dX6_swap_48 : decode cX6_swap 48 = .ok (.getfield 106, 3) := by decide +kernel
theorem dX6_swap_51 : decode cX6_swap 51 = .ok (.if_icmp .ge 37, 3) := by decide +kernel
theorem dX6_swap_54 : decode cX6_swap 54 = .ok (.aload_n 0, 1) := by decide +kernel
theorem dX6_swap_55 : decode cX6_swap 55 = .ok (.iload 4, 2) := by decide +kernel
theorem dX6_swap_57 : decode cX6_swap 57 = .ok (.iload 5, 2) := by decide +kernel
theorem dX6_swap_59 : decode cX6_swap 59 = .ok (.invokevirtual 225, 3) := by decide +kernel
theorem dX6_swap_62 : decode cX6_swap 62 = .ok (.istore 6, 2) := by decide +kernel
theorem dX6_swap_64 : decode cX6_swap 64 = .ok (.iload 6, 2) := by decide +kernel
theorem dX6_swap_66 : decode cX6_swap 66 = .ok (.iload_n 2, 1) := by decide +kernel
theorem dX6_swap_67 : decode cX6_swap 67 = .ok (.if_icmp .ge 15, 3) := by decide +kernel
theorem dX6_swap_70 : decode cX6_swap 70 = .ok (.iload 6, 2) := by decide +kernel
theorem dX6_swap_72 : decode cX6_swap 72 = .ok (.istore_n 2, 1) := by decide +kernel
theorem dX6_swap_73 : decode cX6_swap 73 = .ok (.bipush 10, 2) := by decide +kernel
theorem dX6_swap_75 : decode cX6_swap 75 = .ok (.iload 4, 2) := by decide +kernel
theorem dX6_swap_77 : decode cX6_swap 77 = .ok (.imul, 1) := by decide +kernel
theorem dX6_swap_78 : decode cX6_swap 78 = .ok (.iload 5, 2) := by decide +kernel
theorem dX6_swap_80 : decode cX6_swap 80 = .ok (.iadd, 1) := by decide +kernel
theorem dX6_swap_81 : decode cX6_swap 81 = .ok (.istore_n 3, 1) := by decide +kernel
theorem dX6_swap_82 : decode cX6_swap 82 = .ok (.iinc 5 1, 3) := by decide +kernel
theorem dX6_swap_85 : decode cX6_swap 85 = .ok (.goto (-43), 3) := by decide +kernel
theorem dX6_swap_88 : decode cX6_swap 88 = .ok (.iinc 4 1, 3) := by decide +kernel
theorem dX6_swap_91 : decode cX6_swap 91 = .ok (.goto (-67), 3) := by decide +kernel
theorem dX6_swap_94 : decode cX6_swap 94 = .ok (.iload_n 3, 1) := by decide +kernel
theorem dX6_swap_95 : decode cX6_swap 95 = .ok (.bipush (-4), 2) := by decide +kernel
theorem dX6_swap_97 : decode cX6_swap 97 = .ok (.if_icmp .eq 7, 3) := by decide +kernel
theorem dX6_swap_100 : decode cX6_swap 100 = .ok (.iload_n 1, 1) := by decide +kernel
theorem dX6_swap_101 : decode cX6_swap 101 = .ok (.ifCond .ne 7, 3) := by decide +kernel
theorem dX6_swap_104 : decode cX6_swap 104 = .ok (.iload_n 3, 1) := by decide +kernel
theorem dX6_swap_105 : decode cX6_swap 105 = .ok (.goto 4, 3) := by decide +kernel
theorem dX6_swap_108 : decode cX6_swap 108 = .ok (.iload_n 2, 1) := by decide +kernel
theorem dX6_swap_109 : decode cX6_swap 109 = .ok (.ireturn, 1) := by decide +kernel
theorem dX6_shed_0 : decode cX6_shed 0 = .ok (.aload_n 0, 1) := by decide +kernel
theorem dX6_shed_1 : decode cX6_shed 1 = .ok (.getfield 10, 3) := by decide +kernel
theorem dX6_shed_4 : decode cX6_shed 4 = .ok (.iload_n 1, 1) := by decide +kernel
theorem dX6_shed_5 : decode cX6_shed 5 = .ok (.invokevirtual 141, 3) := by decide +kernel
theorem dX6_shed_8 : decode cX6_shed 8 = .ok (.ifCond .eq 12, 3) := by decide +kernel
theorem dX6_shed_11 : decode cX6_shed 11 = .ok (.iload_n 2, 1) := by decide +kernel
theorem dX6_shed_12 : decode cX6_shed 12 = .ok (.iconst 0, 1) := by decide +kernel
theorem dX6_shed_13 : decode cX6_shed 13 = .ok (.iconst 1, 1) := by decide +kernel
theorem dX6_shed_14 : decode cX6_shed 14 = .ok (.invokestatic 73, 3) := by decide +kernel
theorem dX6_shed_17 : decode cX6_shed 17 = .ok (.ifCond .ne 5, 3) := by decide +kernel
theorem dX6_shed_20 : decode cX6_shed 20 = .ok (.iconst (-1), 1) := by decide +kernel
theorem dX6_shed_21 : decode cX6_shed 21 = .ok (.ireturn, 1) := by decide +kernel
theorem dX6_shed_22 : decode cX6_shed 22 = .ok (.aload_n 0, 1) := by decide +kernel
theorem dX6_shed_23 : decode cX6_shed 23 = .ok (.getfield 16, 3) := by decide +kernel
theorem dX6_shed_26 : decode cX6_shed 26 = .ok (.aload_n 0, 1) := by decide +kernel
theorem dX6_shed_27 : decode cX6_shed 27 = .ok (.getfield 10, 3) := by decide +kernel
theorem dX6_shed_30 : decode cX6_shed 30 = .ok (.invokevirtual 96, 3) := by decide +kernel
theorem dX6_shed_33 : decode cX6_shed 33 = .ok (.aload_n 0, 1) := by decide +kernel
theorem dX6_shed_34 : decode cX6_shed 34 = .ok (.getfield 16, 3) := by decide +kernel
theorem dX6_shed_37 : decode cX6_shed 37 = .ok (.iload_n 1, 1) := by decide +kernel
theorem dX6_shed_38 : decode cX6_shed 38 = .ok (.bipush 20, 2) := by decide +kernel
theorem dX6_shed_40 : decode cX6_shed 40 = .ok (.invokevirtual 197, 3) := by decide +kernel
theorem dX6_shed_43 : decode cX6_shed 43 = .ok (.aload_n 0, 1) := by decide +kernel
theorem dX6_shed_44 : decode cX6_shed 44 = .ok (.getfield 16, 3) := by decide +kernel
theorem dX6_shed_47 : decode cX6_shed 47 = .ok (.iload_n 1, 1) := by decide +kernel
theorem dX6_shed_48 : decode cX6_shed 48 = .ok (.invokevirtual 153, 3) := by decide +kernel
theorem dX6_shed_51 : decode cX6_shed 51 = .ok (.istore_n 3, 1) := by decide +kernel
theorem dX6_shed_52 : decode cX6_shed 52 = .ok (.bipush (-4), 2) := by decide +kernel
theorem dX6_shed_54 : decode cX6_shed 54 = .ok (.istore 4, 2) := by decide +kernel
theorem dX6_shed_56 : decode cX6_shed 56 = .ok (.iconst 0, 1) := by decide +kernel
theorem dX6_shed_57 : decode cX6_shed 57 = .ok (.istore 5, 2) := by decide +kernel
theorem dX6_shed_59 : decode cX6_shed 59 = .ok (.iload 5, 2) := by decide +kernel
theorem dX6_shed_61 : decode cX6_shed 61 = .ok (.aload_n 0, 1) := by decide +kernel
theorem dX6_shed_62 : decode cX6_shed 62 = .ok (.getfield 10, 3) := by decide +kernel
theorem dX6_shed_65 : decode cX6_shed 65 = .ok (.getfield 103, 3) := by decide +kernel
theorem dX6_shed_68 : decode cX6_shed 68 = .ok (.if_icmp .ge 79, 3) := by decide +kernel
theorem dX6_shed_71 : decode cX6_shed 71 = .ok (.aload_n 0, 1) := by decide +kernel
theorem dX6_shed_72 : decode cX6_shed 72 = .ok (.getfield 16, 3) := by decide +kernel
theorem dX6_shed_75 : decode cX6_shed 75 = .ok (.aload_n 0, 1) := by decide +kernel
theorem dX6_shed_76 : decode cX6_shed 76 = .ok (.getfield 10, 3) := by decide +kernel
theorem dX6_shed_79 : decode cX6_shed 79 = .ok (.invokevirtual 96, 3) := by decide +kernel
theorem dX6_shed_82 : decode cX6_shed 82 = .ok (.aload_n 0, 1) := by decide +kernel
theorem dX6_shed_83 : decode cX6_shed 83 = .ok (.getfield 16, 3) := by decide +kernel
theorem dX6_shed_86 : decode cX6_shed 86 = .ok (.iload_n 1, 1) := by decide +kernel
theorem dX6_shed_87 : decode cX6_shed 87 = .ok (.iload 5, 2) := by decide +kernel
theorem dX6_shed_89 : decode cX6_shed 89 = .ok (.aload_n 0, 1) := by decide +kernel
theorem dX6_shed_90 : decode cX6_shed 90 = .ok (.getfield 10, 3) := by decide +kernel
theorem dX6_shed_93 : decode cX6_shed 93 = .ok (.getfield 156, 3) := by decide +kernel
theorem dX6_shed_96 : decode cX6_shed 96 = .ok (.iload_n 1, 1) := by decide +kernel
theorem dX6_shed_97 : decode cX6_shed 97 = .ok (.iconst 5, 1) := by decide +kernel
theorem dX6_shed_98 : decode cX6_shed 98 = .ok (.imul, 1) := by decide +kernel
theorem dX6_shed_99 : decode cX6_shed 99 = .ok (.iload 5, 2) := by decide +kernel
theorem dX6_shed_101 : decode cX6_shed 101 = .ok (.iadd, 1) := by decide +kernel
theorem dX6_shed_102 : decode cX6_shed 102 = .ok (.iaload, 1) := by decide +kernel
theorem dX6_shed_103 : decode cX6_shed 103 = .ok (.invokevirtual 183, 3) := by decide +kernel
theorem dX6_shed_106 : decode cX6_shed 106 = .ok (.aload_n 0, 1) := by decide +kernel
theorem dX6_shed_107 : decode cX6_shed 107 = .ok (.getfield 16, 3) := by decide +kernel
theorem dX6_shed_110 : decode cX6_shed 110 = .ok (.iload_n 1, 1) := by decide +kernel
theorem dX6_shed_111 : decode cX6_shed 111 = .ok (.bipush 20, 2) := by decide +kernel
theorem dX6_shed_113 : decode cX6_shed 113 = .ok (.invokevirtual 197, 3) := by decide +kernel
theorem dX6_shed_116 : decode cX6_shed 116 = .ok (.aload_n 0, 1) := by decide +kernel
theorem dX6_shed_117 : decode cX6_shed 117 = .ok (.getfield 16, 3) := by decide +kernel
theorem dX6_shed_120 : decode cX6_shed 120 = .ok (.iload_n 1, 1) := by decide +kernel
theorem dX6_shed_121 : decode cX6_shed 121 = .ok (.invokevirtual 153, 3) := by decide +kernel
theorem dX6_shed_124 : decode cX6_shed 124 = .ok (.iload_n 3, 1) := by decide +kernel
theorem dX6_shed_125 : decode cX6_shed 125 = .ok (.if_icmp .le 16, 3) := by decide +kernel
theorem dX6_shed_128 : decode cX6_shed 128 = .ok (.aload_n 0, 1) := by decide +kernel
theorem dX6_shed_129 : decode cX6_shed 129 = .ok (.getfield 16, 3) := by decide +kernel
theorem dX6_shed_132 : decode cX6_shed 132 = .ok (.iload_n 1, 1) := by decide +kernel
theorem dX6_shed_133 : decode cX6_shed 133 = .ok (.invokevirtual 153, 3) := by decide +kernel
theorem dX6_shed_136 : decode cX6_shed 136 = .ok (.istore_n 3, 1) := by decide +kernel
theorem dX6_shed_137 : decode cX6_shed 137 = .ok (.iload 5, 2) := by decide +kernel
theorem dX6_shed_139 : decode cX6_shed 139 = .ok (.istore 4, 2) := by decide +kernel
theorem dX6_shed_141 : decode cX6_shed 141 = .ok (.iinc 5 1, 3) := by decide +kernel
theorem dX6_shed_144 : decode cX6_shed 144 = .ok (.goto (-85), 3) := by decide +kernel
theorem dX6_shed_147 : decode cX6_shed 147 = .ok (.iload 4, 2) := by decide +kernel
theorem dX6_shed_149 : decode cX6_shed 149 = .ok (.bipush (-4), 2) := by decide +kernel
theorem dX6_shed_151 : decode cX6_shed 151 = .ok (.if_icmp .eq 7, 3) := by decide +kernel
theorem dX6_shed_154 : decode cX6_shed 154 = .ok (.iload_n 2, 1) := by decide +kernel
theorem dX6_shed_155 : decode cX6_shed 155 = .ok (.ifCond .ne 8, 3) := by decide +kernel
theorem dX6_shed_158 : decode cX6_shed 158 = .ok (.iload 4, 2) := by decide +kernel
theorem dX6_shed_160 : decode cX6_shed 160 = .ok (.goto 4, 3) := by decide +kernel
theorem dX6_shed_163 : decode cX6_shed 163 = .ok (.iload_n 3, 1) := by decide +kernel
theorem dX6_shed_164 : decode cX6_shed 164 = .ok (.ireturn, 1) := by decide +kernel
theorem dX6_need_0 : decode cX6_need 0 = .ok (.aload_n 0, 1) := by decide +kernel
theorem dX6_need_1 : decode cX6_need 1 = .ok (.getfield 10, 3) := by decide +kernel
theorem dX6_need_4 : decode cX6_need 4 = .ok (.iload_n 1, 1) := by decide +kernel
theorem dX6_need_5 : decode cX6_need 5 = .ok (.invokevirtual 141, 3) := by decide +kernel
theorem dX6_need_8 : decode cX6_need 8 = .ok (.ifCond .eq 13, 3) := by decide +kernel
theorem dX6_need_11 : decode cX6_need 11 = .ok (.iload_n 2, 1) := by decide +kernel
theorem dX6_need_12 : decode cX6_need 12 = .ok (.iconst 0, 1) := by decide +kernel
theorem dX6_need_13 : decode cX6_need 13 = .ok (.bipush 60, 2) := by decide +kernel
theorem dX6_need_15 : decode cX6_need 15 = .ok (.invokestatic 73, 3) := by decide +kernel
theorem dX6_need_18 : decode cX6_need 18 = .ok (.ifCond .ne 5, 3) := by decide +kernel
theorem dX6_need_21 : decode cX6_need 21 = .ok (.iconst (-1), 1) := by decide +kernel
theorem dX6_need_22 : decode cX6_need 22 = .ok (.ireturn, 1) := by decide +kernel
theorem dX6_need_23 : decode cX6_need 23 = .ok (.iconst 0, 1) := by decide +kernel
theorem dX6_need_24 : decode cX6_need 24 = .ok (.istore_n 3, 1) := by decide +kernel
theorem dX6_need_25 : decode cX6_need 25 = .ok (.iload_n 3, 1) := by decide +kernel
theorem dX6_need_26 : decode cX6_need 26 = .ok (.bipush 99, 2) := by decide +kernel
theorem dX6_need_28 : decode cX6_need 28 = .ok (.if_icmp .gt 21, 3) := by decide +kernel
theorem dX6_need_31 : decode cX6_need 31 = .ok (.aload_n 0, 1) := by decide +kernel
theorem dX6_need_32 : decode cX6_need 32 = .ok (.iload_n 1, 1) := by decide +kernel
theorem dX6_need_33 : decode cX6_need 33 = .ok (.iload_n 2, 1) := by decide +kernel
theorem dX6_need_34 : decode cX6_need 34 = .ok (.iload_n 3, 1) := by decide +kernel
theorem dX6_need_35 : decode cX6_need 35 = .ok (.invokevirtual 228, 3) := by decide +kernel
theorem dX6_need_38 : decode cX6_need 38 = .ok (.ifCond .eq 5, 3) := by decide +kernel
theorem dX6_need_41 : decode cX6_need 41 = .ok (.iload_n 3, 1) := by decide +kernel
theorem dX6_need_42 : decode cX6_need 42 = .ok (.ireturn, 1) := by decide +kernel
theorem dX6_need_43 : decode cX6_need 43 = .ok (.iinc 3 1, 3) := by decide +kernel
theorem dX6_need_46 : decode cX6_need 46 = .ok (.goto (-21), 3) := by decide +kernel
theorem dX6_need_49 : decode cX6_need 49 = .ok (.bipush (-4), 2) := by decide +kernel
theorem dX6_need_51 : decode cX6_need 51 = .ok (.ireturn, 1) := by decide +kernel
theorem dX6_kind_0 : decode cX6_kind 0 = .ok (.aload_n 0, 1) := by decide +kernel
theorem dX6_kind_1 : decode cX6_kind 1 = .ok (.getfield 10, 3) := by decide +kernel
theorem dX6_kind_4 : decode cX6_kind 4 = .ok (.iload_n 1, 1) := by decide +kernel
theorem dX6_kind_5 : decode cX6_kind 5 = .ok (.invokevirtual 121, 3) := by decide +kernel
theorem dX6_kind_8 : decode cX6_kind 8 = .ok (.ifCond .eq 22, 3) := by decide +kernel
theorem dX6_kind_11 : decode cX6_kind 11 = .ok (.iload_n 2, 1) := by decide +kernel
theorem dX6_kind_12 : decode cX6_kind 12 = .ok (.iconst 0, 1) := by decide +kernel
theorem dX6_kind_13 : decode cX6_kind 13 = .ok (.bipush 60, 2) := by decide +kernel
theorem dX6_kind_15 : decode cX6_kind 15 = .ok (.invokestatic 73, 3) := by decide +kernel
theorem dX6_kind_18 : decode cX6_kind 18 = .ok (.ifCond .eq 12, 3) := by decide +kernel
theorem dX6_kind_21 : decode cX6_kind 21 = .ok (.iload_n 3, 1) := by decide +kernel
theorem dX6_kind_22 : decode cX6_kind 22 = .ok (.iconst 0, 1) := by decide +kernel
theorem dX6_kind_23 : decode cX6_kind 23 = .ok (.iconst 1, 1) := by decide +kernel
theorem dX6_kind_24 : decode cX6_kind 24 = .ok (.invokestatic 73, 3) := by decide +kernel
theorem dX6_kind_27 : decode cX6_kind 27 = .ok (.ifCond .ne 5, 3) := by decide +kernel
theorem dX6_kind_30 : decode cX6_kind 30 = .ok (.iconst (-1), 1) := by decide +kernel
theorem dX6_kind_31 : decode cX6_kind 31 = .ok (.ireturn, 1) := by decide +kernel
theorem dX6_kind_32 : decode cX6_kind 32 = .ok (.iconst (-1), 1) := by decide +kernel
theorem dX6_kind_33 : decode cX6_kind 33 = .ok (.istore 4, 2) := by decide +kernel
theorem dX6_kind_35 : decode cX6_kind 35 = .ok (.iconst 0, 1) := by decide +kernel
theorem dX6_kind_36 : decode cX6_kind 36 = .ok (.istore 5, 2) := by decide +kernel
theorem dX6_kind_38 : decode cX6_kind 38 = .ok (.iconst 0, 1) := by decide +kernel
theorem dX6_kind_39 : decode cX6_kind 39 = .ok (.istore 6, 2) := by decide +kernel
theorem dX6_kind_41 : decode cX6_kind 41 = .ok (.iload 6, 2) := by decide +kernel
theorem dX6_kind_43 : decode cX6_kind 43 = .ok (.iconst 4, 1) := by decide +kernel
theorem dX6_kind_44 : decode cX6_kind 44 = .ok (.if_icmp .ge 63, 3) := by decide +kernel
theorem dX6_kind_47 : decode cX6_kind 47 = .ok (.aload_n 0, 1) := by decide +kernel
theorem dX6_kind_48 : decode cX6_kind 48 = .ok (.getfield 16, 3) := by decide +kernel
theorem dX6_kind_51 : decode cX6_kind 51 = .ok (.aload_n 0, 1) := by decide +kernel
theorem dX6_kind_52 : decode cX6_kind 52 = .ok (.getfield 10, 3) := by decide +kernel
theorem dX6_kind_55 : decode cX6_kind 55 = .ok (.invokevirtual 96, 3) := by decide +kernel
theorem dX6_kind_58 : decode cX6_kind 58 = .ok (.aload_n 0, 1) := by decide +kernel
theorem dX6_kind_59 : decode cX6_kind 59 = .ok (.getfield 16, 3) := by decide +kernel
theorem dX6_kind_62 : decode cX6_kind 62 = .ok (.getfield 125, 3) := by decide +kernel
theorem dX6_kind_65 : decode cX6_kind 65 = .ok (.iload_n 1, 1) := by decide +kernel
theorem dX6_kind_66 : decode cX6_kind 66 = .ok (.iload 6, 2) := by decide +kernel
theorem dX6_kind_68 : decode cX6_kind 68 = .ok (.iastore, 1) := by decide +kernel
theorem dX6_kind_69 : decode cX6_kind 69 = .ok (.aload_n 0, 1) := by decide +kernel
theorem dX6_kind_70 : decode cX6_kind 70 = .ok (.getfield 16, 3) := by decide +kernel
theorem dX6_kind_73 : decode cX6_kind 73 = .ok (.iload_n 2, 1) := by decide +kernel
theorem dX6_kind_74 : decode cX6_kind 74 = .ok (.invokevirtual 187, 3) := by decide +kernel
theorem dX6_kind_77 : decode cX6_kind 77 = .ok (.aload_n 0, 1) := by decide +kernel
theorem dX6_kind_78 : decode cX6_kind 78 = .ok (.getfield 16, 3) := by decide +kernel
theorem dX6_kind_81 : decode cX6_kind 81 = .ok (.invokevirtual 118, 3) := by decide +kernel
theorem dX6_kind_84 : decode cX6_kind 84 = .ok (.istore 7, 2) := by decide +kernel
theorem dX6_kind_86 : decode cX6_kind 86 = .ok (.iload 7, 2) := by decide +kernel
theorem dX6_kind_88 : decode cX6_kind 88 = .ok (.iload 4, 2) := by decide +kernel
theorem dX6_kind_90 : decode cX6_kind 90 = .ok (.if_icmp .le 11, 3) := by decide +kernel
theorem dX6_kind_93 : decode cX6_kind 93 = .ok (.iload 7, 2) := by decide +kernel
theorem dX6_kind_95 : decode cX6_kind 95 = .ok (.istore 4, 2) := by decide +kernel
theorem dX6_kind_97 : decode cX6_kind 97 = .ok (.iload 6, 2) := by decide +kernel
theorem dX6_kind_99 : decode cX6_kind 99 = .ok (.istore 5, 2) := by decide +kernel
theorem dX6_kind_101 : decode cX6_kind 101 = .ok (.iinc 6 1, 3) := by decide +kernel
theorem dX6_kind_104 : decode cX6_kind 104 = .ok (.goto (-63), 3) := by decide +kernel
theorem dX6_kind_107 : decode cX6_kind 107 = .ok (.iload_n 3, 1) := by decide +kernel
theorem dX6_kind_108 : decode cX6_kind 108 = .ok (.ifCond .ne 8, 3) := by decide +kernel
theorem dX6_kind_111 : decode cX6_kind 111 = .ok (.iload 5, 2) := by decide +kernel
theorem dX6_kind_113 : decode cX6_kind 113 = .ok (.goto 5, 3) := by decide +kernel
theorem dX6_kind_116 : decode cX6_kind 116 = .ok (.iload 4, 2) := by decide +kernel
theorem dX6_kind_118 : decode cX6_kind 118 = .ok (.ireturn, 1) := by decide +kernel
theorem dX6_luck_0 : decode cX6_luck 0 = .ok (.iload_n 1, 1) := by decide +kernel
theorem dX6_luck_1 : decode cX6_luck 1 = .ok (.iconst 0, 1) := by decide +kernel
theorem dX6_luck_2 : decode cX6_luck 2 = .ok (.bipush 10, 2) := by decide +kernel
theorem dX6_luck_4 : decode cX6_luck 4 = .ok (.invokestatic 73, 3) := by decide +kernel
theorem dX6_luck_7 : decode cX6_luck 7 = .ok (.ifCond .eq 42, 3) := by decide +kernel
theorem dX6_luck_10 : decode cX6_luck 10 = .ok (.aload_n 0, 1) := by decide +kernel
theorem dX6_luck_11 : decode cX6_luck 11 = .ok (.getfield 10, 3) := by decide +kernel
theorem dX6_luck_14 : decode cX6_luck 14 = .ok (.iload_n 2, 1) := by decide +kernel
theorem dX6_luck_15 : decode cX6_luck 15 = .ok (.invokevirtual 141, 3) := by decide +kernel
theorem dX6_luck_18 : decode cX6_luck 18 = .ok (.ifCond .eq 31, 3) := by decide +kernel
theorem dX6_luck_21 : decode cX6_luck 21 = .ok (.iload_n 3, 1) := by decide +kernel
theorem dX6_luck_22 : decode cX6_luck 22 = .ok (.iconst 0, 1) := by decide +kernel
theorem dX6_luck_23 : decode cX6_luck 23 = .ok (.bipush 8, 2) := by decide +kernel
theorem dX6_luck_25 : decode cX6_luck 25 = .ok (.invokestatic 73, 3) := by decide +kernel
theorem dX6_luck_28 : decode cX6_luck 28 = .ok (.ifCond .eq 21, 3) := by decide +kernel
theorem dX6_luck_31 : decode cX6_luck 31 = .ok (.iload 4, 2) := by decide +kernel
theorem dX6_luck_33 : decode cX6_luck 33 = .ok (.invokestatic 163, 3) := by decide +kernel
theorem dX6_luck_36 : decode cX6_luck 36 = .ok (.ifCond .eq 13, 3) := by decide +kernel
theorem dX6_luck_39 : decode cX6_luck 39 = .ok (.iload 5, 2) := by decide +kernel
theorem dX6_luck_41 : decode cX6_luck 41 = .ok (.iconst 0, 1) := by decide +kernel
theorem dX6_luck_42 : decode cX6_luck 42 = .ok (.iconst 1, 1) := by decide +kernel
theorem dX6_luck_43 : decode cX6_luck 43 = .ok (.invokestatic 73, 3) := by decide +kernel
theorem dX6_luck_46 : decode cX6_luck 46 = .ok (.ifCond .ne 7, 3) := by decide +kernel
theorem dX6_luck_49 : decode cX6_luck 49 = .ok (.ldc2_w 231, 3) := by decide +kernel
theorem dX6_luck_52 : decode cX6_luck 52 = .ok (.lreturn, 1) := by decide +kernel
theorem dX6_luck_53 : decode cX6_luck 53 = .ok (.aload_n 0, 1) := by decide +kernel
theorem dX6_luck_54 : decode cX6_luck 54 = .ok (.getfield 58, 3) := by decide +kernel
theorem dX6_luck_57 : decode cX6_luck 57 = .ok (.iload_n 2, 1) := by decide +kernel
theorem dX6_luck_58 : decode cX6_luck 58 = .ok (.putfield 233, 3) := by decide +kernel
theorem dX6_luck_61 : decode cX6_luck 61 = .ok (.aload_n 0, 1) := by decide +kernel
theorem dX6_luck_62 : decode cX6_luck 62 = .ok (.getfield 58, 3) := by decide +kernel
theorem dX6_luck_65 : decode cX6_luck 65 = .ok (.iload 4, 2) := by decide +kernel
theorem dX6_luck_67 : decode cX6_luck 67 = .ok (.putfield 236, 3) := by decide +kernel
theorem dX6_luck_70 : decode cX6_luck 70 = .ok (.aload_n 0, 1) := by decide +kernel
theorem dX6_luck_71 : decode cX6_luck 71 = .ok (.getfield 58, 3) := by decide +kernel
theorem dX6_luck_74 : decode cX6_luck 74 = .ok (.aload_n 0, 1) := by decide +kernel
theorem dX6_luck_75 : decode cX6_luck 75 = .ok (.getfield 10, 3) := by decide +kernel
theorem dX6_luck_78 : decode cX6_luck 78 = .ok (.iload_n 1, 1) := by decide +kernel
theorem dX6_luck_79 : decode cX6_luck 79 = .ok (.iload_n 3, 1) := by decide +kernel
theorem dX6_luck_80 : decode cX6_luck 80 = .ok (.iload 5, 2) := by decide +kernel
theorem dX6_luck_82 : decode cX6_luck 82 = .ok (.invokevirtual 239, 3) := by decide +kernel
theorem dX6_luck_85 : decode cX6_luck 85 = .ok (.lreturn, 1) := by decide +kernel
theorem dX6_mean_0 : decode cX6_mean 0 = .ok (.iload_n 1, 1) := by decide +kernel
theorem dX6_mean_1 : decode cX6_mean 1 = .ok (.iconst 0, 1) := by decide +kernel
theorem dX6_mean_2 : decode cX6_mean 2 = .ok (.bipush 10, 2) := by decide +kernel
theorem dX6_mean_4 : decode cX6_mean 4 = .ok (.invokestatic 73, 3) := by decide +kernel
theorem dX6_mean_7 : decode cX6_mean 7 = .ok (.ifCond .eq 22, 3) := by decide +kernel
theorem dX6_mean_10 : decode cX6_mean 10 = .ok (.iload_n 2, 1) := by decide +kernel
theorem dX6_mean_11 : decode cX6_mean 11 = .ok (.iconst 0, 1) := by decide +kernel
theorem dX6_mean_12 : decode cX6_mean 12 = .ok (.bipush 8, 2) := by decide +kernel
theorem dX6_mean_14 : decode cX6_mean 14 = .ok (.invokestatic 73, 3) := by decide +kernel
theorem dX6_mean_17 : decode cX6_mean 17 = .ok (.ifCond .eq 12, 3) := by decide +kernel
theorem dX6_mean_20 : decode cX6_mean 20 = .ok (.iload_n 3, 1) := by decide +kernel
theorem dX6_mean_21 : decode cX6_mean 21 = .ok (.iconst 0, 1) := by decide +kernel
theorem dX6_mean_22 : decode cX6_mean 22 = .ok (.iconst 1, 1) := by decide +kernel
theorem dX6_mean_23 : decode cX6_mean 23 = .ok (.invokestatic 73, 3) := by decide +kernel
theorem dX6_mean_26 : decode cX6_mean 26 = .ok (.ifCond .ne 7, 3) := by decide +kernel
theorem dX6_mean_29 : decode cX6_mean 29 = .ok (.ldc2_w 231, 3) := by decide +kernel
theorem dX6_mean_32 : decode cX6_mean 32 = .ok (.lreturn, 1) := by decide +kernel
theorem dX6_mean_33 : decode cX6_mean 33 = .ok (.aload_n 0, 1) := by decide +kernel
theorem dX6_mean_34 : decode cX6_mean 34 = .ok (.getfield 58, 3) := by decide +kernel
theorem dX6_mean_37 : decode cX6_mean 37 = .ok (.iconst (-1), 1) := by decide +kernel
theorem dX6_mean_38 : decode cX6_mean 38 = .ok (.putfield 233, 3) := by decide +kernel
theorem dX6_mean_41 : decode cX6_mean 41 = .ok (.aload_n 0, 1) := by decide +kernel
theorem dX6_mean_42 : decode cX6_mean 42 = .ok (.getfield 58, 3) := by decide +kernel
theorem dX6_mean_45 : decode cX6_mean 45 = .ok (.aload_n 0, 1) := by decide +kernel
theorem dX6_mean_46 : decode cX6_mean 46 = .ok (.getfield 10, 3) := by decide +kernel
theorem dX6_mean_49 : decode cX6_mean 49 = .ok (.iload_n 1, 1) := by decide +kernel
theorem dX6_mean_50 : decode cX6_mean 50 = .ok (.iload_n 2, 1) := by decide +kernel
theorem dX6_mean_51 : decode cX6_mean 51 = .ok (.iload_n 3, 1) := by decide +kernel
theorem dX6_mean_52 : decode cX6_mean 52 = .ok (.invokevirtual 239, 3) := by decide +kernel
theorem dX6_mean_55 : decode cX6_mean 55 = .ok (.lreturn, 1) := by decide +kernel
theorem dX6_see_0 : decode cX6_see 0 = .ok (.iload_n 1, 1) := by decide +kernel
theorem dX6_see_1 : decode cX6_see 1 = .ok (.iconst 0, 1) := by decide +kernel
theorem dX6_see_2 : decode cX6_see 2 = .ok (.bipush 20, 2) := by decide +kernel
theorem dX6_see_4 : decode cX6_see 4 = .ok (.invokestatic 73, 3) := by decide +kernel
theorem dX6_see_7 : decode cX6_see 7 = .ok (.ifCond .eq 21, 3) := by decide +kernel
theorem dX6_see_10 : decode cX6_see 10 = .ok (.aload_n 0, 1) := by decide +kernel
theorem dX6_see_11 : decode cX6_see 11 = .ok (.getfield 10, 3) := by decide +kernel
theorem dX6_see_14 : decode cX6_see 14 = .ok (.iload_n 2, 1) := by decide +kernel
theorem dX6_see_15 : decode cX6_see 15 = .ok (.invokevirtual 141, 3) := by decide +kernel
theorem dX6_see_18 : decode cX6_see 18 = .ok (.ifCond .eq 10, 3) := by decide +kernel
theorem dX6_see_21 : decode cX6_see 21 = .ok (.iload_n 3, 1) := by decide +kernel
theorem dX6_see_22 : decode cX6_see 22 = .ok (.invokestatic 163, 3) := by decide +kernel
theorem dX6_see_25 : decode cX6_see 25 = .ok (.ifCond .ne 5, 3) := by decide +kernel
theorem dX6_see_28 : decode cX6_see 28 = .ok (.iconst (-1), 1) := by decide +kernel
theorem dX6_see_29 : decode cX6_see 29 = .ok (.ireturn, 1) := by decide +kernel
theorem dX6_see_30 : decode cX6_see 30 = .ok (.aload_n 0, 1) := by decide +kernel
theorem dX6_see_31 : decode cX6_see 31 = .ok (.getfield 44, 3) := by decide +kernel
theorem dX6_see_34 : decode cX6_see 34 = .ok (.getfield 100, 3) := by decide +kernel
theorem dX6_see_37 : decode cX6_see 37 = .ok (.bipush 6, 2) := by decide +kernel
theorem dX6_see_39 : decode cX6_see 39 = .ok (.if_icmp .lt 6, 3) := by decide +kernel
theorem dX6_see_42 : decode cX6_see 42 = .ok (.bipush (-3), 2) := by decide +kernel
theorem dX6_see_44 : decode cX6_see 44 = .ok (.ireturn, 1) := by decide +kernel
theorem dX6_see_45 : decode cX6_see 45 = .ok (.aload_n 0, 1) := by decide +kernel
theorem dX6_see_46 : decode cX6_see 46 = .ok (.getfield 44, 3) := by decide +kernel
theorem dX6_see_49 : decode cX6_see 49 = .ok (.getfield 243, 3) := by decide +kernel
theorem dX6_see_52 : decode cX6_see 52 = .ok (.aload_n 0, 1) := by decide +kernel
theorem dX6_see_53 : decode cX6_see 53 = .ok (.getfield 44, 3) := by decide +kernel
theorem dX6_see_56 : decode cX6_see 56 = .ok (.getfield 100, 3) := by decide +kernel
theorem dX6_see_59 : decode cX6_see 59 = .ok (.iload_n 1, 1) := by decide +kernel
theorem dX6_see_60 : decode cX6_see 60 = .ok (.iastore, 1) := by decide +kernel
theorem dX6_see_61 : decode cX6_see 61 = .ok (.aload_n 0, 1) := by decide +kernel
theorem dX6_see_62 : decode cX6_see 62 = .ok (.getfield 44, 3) := by decide +kernel
theorem dX6_see_65 : decode cX6_see 65 = .ok (.getfield 246, 3) := by decide +kernel
theorem dX6_see_68 : decode cX6_see 68 = .ok (.aload_n 0, 1) := by decide +kernel
theorem dX6_see_69 : decode cX6_see 69 = .ok (.getfield 44, 3) := by decide +kernel
theorem dX6_see_72 : decode cX6_see 72 = .ok (.getfield 100, 3) := by decide +kernel
theorem dX6_see_75 : decode cX6_see 75 = .ok (.iload_n 2, 1) := by decide +kernel
theorem dX6_see_76 : decode cX6_see 76 = .ok (.iastore, 1) := by decide +kernel
theorem dX6_see_77 : decode cX6_see 77 = .ok (.aload_n 0, 1) := by decide +kernel
theorem dX6_see_78 : decode cX6_see 78 = .ok (.getfield 44, 3) := by decide +kernel
theorem dX6_see_81 : decode cX6_see 81 = .ok (.getfield 248, 3) := by decide +kernel
theorem dX6_see_84 : decode cX6_see 84 = .ok (.aload_n 0, 1) := by decide +kernel
theorem dX6_see_85 : decode cX6_see 85 = .ok (.getfield 44, 3) := by decide +kernel
theorem dX6_see_88 : decode cX6_see 88 = .ok (.getfield 100, 3) := by decide +kernel
theorem dX6_see_91 : decode cX6_see 91 = .ok (.iload_n 3, 1) := by decide +kernel
theorem dX6_see_92 : decode cX6_see 92 = .ok (.iastore, 1) := by decide +kernel
theorem dX6_see_93 : decode cX6_see 93 = .ok (.aload_n 0, 1) := by decide +kernel
theorem dX6_see_94 : decode cX6_see 94 = .ok (.getfield 44, 3) := by decide +kernel
theorem dX6_see_97 : decode cX6_see 97 = .ok (.dup, 1) := by decide +kernel
theorem dX6_see_98 : decode cX6_see 98 = .ok (.getfield 100, 3) := by decide +kernel
theorem dX6_see_101 : decode cX6_see 101 = .ok (.iconst 1, 1) := by decide +kernel
theorem dX6_see_102 : decode cX6_see 102 = .ok (.iadd, 1) := by decide +kernel
theorem dX6_see_103 : decode cX6_see 103 = .ok (.putfield 100, 3) := by decide +kernel
theorem dX6_see_106 : decode cX6_see 106 = .ok (.aload_n 0, 1) := by decide +kernel
theorem dX6_see_107 : decode cX6_see 107 = .ok (.getfield 44, 3) := by decide +kernel
theorem dX6_see_110 : decode cX6_see 110 = .ok (.getfield 100, 3) := by decide +kernel
theorem dX6_see_113 : decode cX6_see 113 = .ok (.ireturn, 1) := by decide +kernel
theorem dX6_forget_0 : decode cX6_forget 0 = .ok (.aload_n 0, 1) := by decide +kernel
theorem dX6_forget_1 : decode cX6_forget 1 = .ok (.getfield 44, 3) := by decide +kernel
theorem dX6_forget_4 : decode cX6_forget 4 = .ok (.getfield 100, 3) := by decide +kernel
theorem dX6_forget_7 : decode cX6_forget 7 = .ok (.istore_n 2, 1) := by decide +kernel
theorem dX6_forget_8 : decode cX6_forget 8 = .ok (.iload_n 1, 1) := by decide +kernel
theorem dX6_forget_9 : decode cX6_forget 9 = .ok (.iconst 0, 1) := by decide +kernel
theorem dX6_forget_10 : decode cX6_forget 10 = .ok (.iload_n 2, 1) := by decide +kernel
theorem dX6_forget_11 : decode cX6_forget 11 = .ok (.invokestatic 73, 3) := by decide +kernel
theorem dX6_forget_14 : decode cX6_forget 14 = .ok (.ifCond .ne 5, 3) := by decide +kernel
theorem dX6_forget_17 : decode cX6_forget 17 = .ok (.iconst (-1), 1) := by decide +kernel
theorem dX6_forget_18 : decode cX6_forget 18 = .ok (.ireturn, 1) := by decide +kernel
theorem dX6_forget_19 : decode cX6_forget 19 = .ok (.aload_n 0, 1) := by decide +kernel
theorem dX6_forget_20 : decode cX6_forget 20 = .ok (.getfield 44, 3) := by decide +kernel
theorem dX6_forget_23 : decode cX6_forget 23 = .ok (.iload_n 1, 1) := by decide +kernel
theorem dX6_forget_24 : decode cX6_forget 24 = .ok (.putfield 100, 3) := by decide +kernel
theorem dX6_forget_27 : decode cX6_forget 27 = .ok (.iload_n 2, 1) := by decide +kernel
theorem dX6_forget_28 : decode cX6_forget 28 = .ok (.ireturn, 1) := by decide +kernel
theorem dX6_kinds_0 : decode cX6_kinds 0 = .ok (.aload_n 0, 1) := by decide +kernel
theorem dX6_kinds_1 : decode cX6_kinds 1 = .ok (.getfield 10, 3) := by decide +kernel
theorem dX6_kinds_4 : decode cX6_kinds 4 = .ok (.iload_n 1, 1) := by decide +kernel
theorem dX6_kinds_5 : decode cX6_kinds 5 = .ok (.invokevirtual 121, 3) := by decide +kernel
theorem dX6_kinds_8 : decode cX6_kinds 8 = .ok (.ifCond .eq 11, 3) := by decide +kernel
theorem dX6_kinds_11 : decode cX6_kinds 11 = .ok (.aload_n 0, 1) := by decide +kernel
theorem dX6_kinds_12 : decode cX6_kinds 12 = .ok (.iload_n 1, 1) := by decide +kernel
theorem dX6_kinds_13 : decode cX6_kinds 13 = .ok (.invokevirtual 250, 3) := by decide +kernel
theorem dX6_kinds_16 : decode cX6_kinds 16 = .ok (.goto 4, 3) := by decide +kernel
theorem dX6_kinds_19 : decode cX6_kinds 19 = .ok (.iconst (-1), 1) := by decide +kernel
theorem dX6_kinds_20 : decode cX6_kinds 20 = .ok (.ireturn, 1) := by decide +kernel
theorem dX6_drops_0 : decode cX6_drops 0 = .ok (.aload_n 0, 1) := by decide +kernel
theorem dX6_drops_1 : decode cX6_drops 1 = .ok (.getfield 10, 3) := by decide +kernel
theorem dX6_drops_4 : decode cX6_drops 4 = .ok (.iload_n 1, 1) := by decide +kernel
theorem dX6_drops_5 : decode cX6_drops 5 = .ok (.invokevirtual 141, 3) := by decide +kernel
theorem dX6_drops_8 : decode cX6_drops 8 = .ok (.ifCond .eq 14, 3) := by decide +kernel
theorem dX6_drops_11 : decode cX6_drops 11 = .ok (.aload_n 0, 1) := by decide +kernel
theorem dX6_drops_12 : decode cX6_drops 12 = .ok (.getfield 10, 3) := by decide +kernel
theorem dX6_drops_15 : decode cX6_drops 15 = .ok (.iload_n 2, 1) := by decide +kernel
theorem dX6_drops_16 : decode cX6_drops 16 = .ok (.invokevirtual 121, 3) := by decide +kernel
theorem dX6_drops_19 : decode cX6_drops 19 = .ok (.ifCond .ne 5, 3) := by decide +kernel
theorem dX6_drops_22 : decode cX6_drops 22 = .ok (.iconst (-1), 1) := by decide +kernel
theorem dX6_drops_23 : decode cX6_drops 23 = .ok (.ireturn, 1) := by decide +kernel
theorem dX6_drops_24 : decode cX6_drops 24 = .ok (.iconst 0, 1) := by decide +kernel
theorem dX6_drops_25 : decode cX6_drops 25 = .ok (.istore_n 3, 1) := by decide +kernel
theorem dX6_drops_26 : decode cX6_drops 26 = .ok (.iconst 0, 1) := by decide +kernel
theorem dX6_drops_27 : decode cX6_drops 27 = .ok (.istore 4, 2) := by decide +kernel
theorem dX6_drops_29 : decode cX6_drops 29 = .ok (.iload 4, 2) := by decide +kernel
theorem dX6_drops_31 : decode cX6_drops 31 = .ok (.bipush 30, 2) := by decide +kernel
theorem dX6_drops_33 : decode cX6_drops 33 = .ok (.if_icmp .gt 56, 3) := by decide +kernel
theorem dX6_drops_36 : decode cX6_drops 36 = .ok (.aload_n 0, 1) := by decide +kernel
theorem dX6_drops_37 : decode cX6_drops 37 = .ok (.getfield 16, 3) := by decide +kernel
theorem dX6_drops_40 : decode cX6_drops 40 = .ok (.aload_n 0, 1) := by decide +kernel
theorem dX6_drops_41 : decode cX6_drops 41 = .ok (.getfield 10, 3) := by decide +kernel
theorem dX6_drops_44 : decode cX6_drops 44 = .ok (.invokevirtual 96, 3) := by decide +kernel
theorem dX6_drops_47 : decode cX6_drops 47 = .ok (.aload_n 0, 1) := by decide +kernel
theorem dX6_drops_48 : decode cX6_drops 48 = .ok (.getfield 16, 3) := by decide +kernel
theorem dX6_drops_51 : decode cX6_drops 51 = .ok (.getfield 156, 3) := by decide +kernel
theorem dX6_drops_54 : decode cX6_drops 54 = .ok (.iload_n 1, 1) := by decide +kernel
theorem dX6_drops_55 : decode cX6_drops 55 = .ok (.iconst 5, 1) := by decide +kernel
theorem dX6_drops_56 : decode cX6_drops 56 = .ok (.imul, 1) := by decide +kernel
theorem dX6_drops_57 : decode cX6_drops 57 = .ok (.iload_n 2, 1) := by decide +kernel
theorem dX6_drops_58 : decode cX6_drops 58 = .ok (.iadd, 1) := by decide +kernel
theorem dX6_drops_59 : decode cX6_drops 59 = .ok (.iload 4, 2) := by decide +kernel
theorem dX6_drops_61 : decode cX6_drops 61 = .ok (.iastore, 1) := by decide +kernel
theorem dX6_drops_62 : decode cX6_drops 62 = .ok (.aload_n 0, 1) := by decide +kernel
theorem dX6_drops_63 : decode cX6_drops 63 = .ok (.getfield 44, 3) := by decide +kernel
theorem dX6_drops_66 : decode cX6_drops 66 = .ok (.aload_n 0, 1) := by decide +kernel
theorem dX6_drops_67 : decode cX6_drops 67 = .ok (.getfield 16, 3) := by decide +kernel
theorem dX6_drops_70 : decode cX6_drops 70 = .ok (.invokevirtual 253, 3) := by decide +kernel
theorem dX6_drops_73 : decode cX6_drops 73 = .ok (.ifCond .eq 10, 3) := by decide +kernel
theorem dX6_drops_76 : decode cX6_drops 76 = .ok (.iload_n 3, 1) := by decide +kernel
theorem dX6_drops_77 : decode cX6_drops 77 = .ok (.iconst 1, 1) := by decide +kernel
theorem dX6_drops_78 : decode cX6_drops 78 = .ok (.iload 4, 2) := by decide +kernel
theorem dX6_drops_80 : decode cX6_drops 80 = .ok (.ishl, 1) := by decide +kernel
theorem dX6_drops_81 : decode cX6_drops 81 = .ok (.ior, 1) := by decide +kernel
theorem dX6_drops_82 : decode cX6_drops 82 = .ok (.istore_n 3, 1) := by decide +kernel
theorem dX6_drops_83 : decode cX6_drops 83 = .ok (.iinc 4 1, 3) := by decide +kernel
theorem dX6_drops_86 : decode cX6_drops 86 = .ok (.goto (-57), 3) := by decide +kernel
theorem dX6_drops_89 : decode cX6_drops 89 = .ok (.iload_n 3, 1) := by decide +kernel
theorem dX6_drops_90 : decode cX6_drops 90 = .ok (.ireturn, 1) := by decide +kernel
theorem dX6_ask_0 : decode cX6_ask 0 = .ok (.aload_n 0, 1) := by decide +kernel
theorem dX6_ask_1 : decode cX6_ask 1 = .ok (.getfield 10, 3) := by decide +kernel
theorem dX6_ask_4 : decode cX6_ask 4 = .ok (.iload_n 1, 1) := by decide +kernel
theorem dX6_ask_5 : decode cX6_ask 5 = .ok (.invokevirtual 121, 3) := by decide +kernel
theorem dX6_ask_8 : decode cX6_ask 8 = .ok (.ifCond .eq 12, 3) := by decide +kernel
theorem dX6_ask_11 : decode cX6_ask 11 = .ok (.iload_n 2, 1) := by decide +kernel
theorem dX6_ask_12 : decode cX6_ask 12 = .ok (.iconst 0, 1) := by decide +kernel
theorem dX6_ask_13 : decode cX6_ask 13 = .ok (.iconst 1, 1) := by decide +kernel
theorem dX6_ask_14 : decode cX6_ask 14 = .ok (.invokestatic 73, 3) := by decide +kernel
theorem dX6_ask_17 : decode cX6_ask 17 = .ok (.ifCond .ne 5, 3) := by decide +kernel
theorem dX6_ask_20 : decode cX6_ask 20 = .ok (.iconst (-1), 1) := by decide +kernel
theorem dX6_ask_21 : decode cX6_ask 21 = .ok (.ireturn, 1) := by decide +kernel
theorem dX6_ask_22 : decode cX6_ask 22 = .ok (.aload_n 0, 1) := by decide +kernel
theorem dX6_ask_23 : decode cX6_ask 23 = .ok (.iload_n 1, 1) := by decide +kernel
theorem dX6_ask_24 : decode cX6_ask 24 = .ok (.invokevirtual 250, 3) := by decide +kernel
theorem dX6_ask_27 : decode cX6_ask 27 = .ok (.istore_n 3, 1) := by decide +kernel
theorem dX6_ask_28 : decode cX6_ask 28 = .ok (.iload_n 3, 1) := by decide +kernel
theorem dX6_ask_29 : decode cX6_ask 29 = .ok (.invokestatic 257, 3) := by decide +kernel
theorem dX6_ask_32 : decode cX6_ask 32 = .ok (.istore 4, 2) := by decide +kernel
theorem dX6_ask_34 : decode cX6_ask 34 = .ok (.bipush (-4), 2) := by decide +kernel
theorem dX6_ask_36 : decode cX6_ask 36 = .ok (.istore 5, 2) := by decide +kernel
theorem dX6_ask_38 : decode cX6_ask 38 = .ok (.iconst 0, 1) := by decide +kernel
theorem dX6_ask_39 : decode cX6_ask 39 = .ok (.istore 6, 2) := by decide +kernel
theorem dX6_ask_41 : decode cX6_ask 41 = .ok (.iload 6, 2) := by decide +kernel
theorem dX6_ask_43 : decode cX6_ask 43 = .ok (.iconst 4, 1) := by decide +kernel
theorem dX6_ask_44 : decode cX6_ask 44 = .ok (.if_icmp .ge 37, 3) := by decide +kernel
theorem dX6_ask_47 : decode cX6_ask 47 = .ok (.aload_n 0, 1) := by decide +kernel
theorem dX6_ask_48 : decode cX6_ask 48 = .ok (.getfield 27, 3) := by decide +kernel
theorem dX6_ask_51 : decode cX6_ask 51 = .ok (.iload 6, 2) := by decide +kernel
theorem dX6_ask_53 : decode cX6_ask 53 = .ok (.aaload, 1) := by decide +kernel
theorem dX6_ask_54 : decode cX6_ask 54 = .ok (.aload_n 0, 1) := by decide +kernel
theorem dX6_ask_55 : decode cX6_ask 55 = .ok (.getfield 10, 3) := by decide +kernel
theorem dX6_ask_58 : decode cX6_ask 58 = .ok (.invokevirtual 96, 3) := by decide +kernel
theorem dX6_ask_61 : decode cX6_ask 61 = .ok (.aload_n 0, 1) := by decide +kernel
theorem dX6_ask_62 : decode cX6_ask 62 = .ok (.getfield 27, 3) := by decide +kernel
theorem dX6_ask_65 : decode cX6_ask 65 = .ok (.iload 6, 2) := by decide +kernel
theorem dX6_ask_67 : decode cX6_ask 67 = .ok (.aaload, 1) := by decide +kernel
theorem dX6_ask_68 : decode cX6_ask 68 = .ok (.getfield 125, 3) := by decide +kernel
theorem dX6_ask_71 : decode cX6_ask 71 = .ok (.iload_n 1, 1) := by decide +kernel
theorem dX6_ask_72 : decode cX6_ask 72 = .ok (.iload 6, 2) := by decide +kernel
theorem dX6_ask_74 : decode cX6_ask 74 = .ok (.iastore, 1) := by decide +kernel
theorem dX6_ask_75 : decode cX6_ask 75 = .ok (.iinc 6 1, 3) := by decide +kernel
theorem dX6_ask_78 : decode cX6_ask 78 = .ok (.goto (-37), 3) := by decide +kernel
theorem dX6_ask_81 : decode cX6_ask 81 = .ok (.iconst 0, 1) := by decide +kernel
theorem dX6_ask_82 : decode cX6_ask 82 = .ok (.istore 6, 2) := by decide +kernel
theorem dX6_ask_84 : decode cX6_ask 84 = .ok (.iload 6, 2) := by decide +kernel
theorem dX6_ask_86 : decode cX6_ask 86 = .ok (.bipush 20, 2) := by decide +kernel
theorem dX6_ask_88 : decode cX6_ask 88 = .ok (.if_icmp .gt 86, 3) := by decide +kernel
theorem dX6_ask_91 : decode cX6_ask 91 = .ok (.iconst 0, 1) := by decide +kernel
theorem dX6_ask_92 : decode cX6_ask 92 = .ok (.istore 7, 2) := by decide +kernel
theorem dX6_ask_94 : decode cX6_ask 94 = .ok (.iload 7, 2) := by decide +kernel
theorem dX6_ask_96 : decode cX6_ask 96 = .ok (.aload_n 0, 1) := by decide +kernel
theorem dX6_ask_97 : decode cX6_ask 97 = .ok (.getfield 10, 3) := by decide +kernel
theorem dX6_ask_100 : decode cX6_ask 100 = .ok (.getfield 106, 3) := by decide +kernel
theorem dX6_ask_103 : decode cX6_ask 103 = .ok (.if_icmp .ge 39, 3) := by decide +kernel
theorem dX6_ask_106 : decode cX6_ask 106 = .ok (.aload_n 0, 1) := by decide +kernel
theorem dX6_ask_107 : decode cX6_ask 107 = .ok (.iload_n 3, 1) := by decide +kernel
theorem dX6_ask_108 : decode cX6_ask 108 = .ok (.iload 7, 2) := by decide +kernel
theorem dX6_ask_110 : decode cX6_ask 110 = .ok (.invokevirtual 262, 3) := by decide +kernel
theorem dX6_ask_113 : decode cX6_ask 113 = .ok (.istore 8, 2) := by decide +kernel
theorem dX6_ask_115 : decode cX6_ask 115 = .ok (.iload 8, 2) := by decide +kernel
theorem dX6_ask_117 : decode cX6_ask 117 = .ok (.iload 4, 2) := by decide +kernel
theorem dX6_ask_119 : decode cX6_ask 119 = .ok (.if_icmp .ge 17, 3) := by decide +kernel
theorem dX6_ask_122 : decode cX6_ask 122 = .ok (.iload 8, 2) := by decide +kernel
theorem dX6_ask_124 : decode cX6_ask 124 = .ok (.istore 4, 2) := by decide +kernel
theorem dX6_ask_126 : decode cX6_ask 126 = .ok (.bipush 10, 2) := by decide +kernel
theorem dX6_ask_128 : decode cX6_ask 128 = .ok (.iload 6, 2) := by decide +kernel
theorem dX6_ask_130 : decode cX6_ask 130 = .ok (.imul, 1) := by decide +kernel
theorem dX6_ask_131 : decode cX6_ask 131 = .ok (.iload 7, 2) := by decide +kernel
theorem dX6_ask_133 : decode cX6_ask 133 = .ok (.iadd, 1) := by decide +kernel
theorem dX6_ask_134 : decode cX6_ask 134 = .ok (.istore 5, 2) := by decide +kernel
theorem dX6_ask_136 : decode cX6_ask 136 = .ok (.iinc 7 1, 3) := by decide +kernel
theorem dX6_ask_139 : decode cX6_ask 139 = .ok (.goto (-45), 3) := by decide +kernel
theorem dX6_ask_142 : decode cX6_ask 142 = .ok (.iconst 0, 1) := by decide +kernel
theorem dX6_ask_143 : decode cX6_ask 143 = .ok (.istore 7, 2) := by decide +kernel
theorem dX6_ask_145 : decode cX6_ask 145 = .ok (.iload 7, 2) := by decide +kernel
theorem dX6_ask_147 : decode cX6_ask 147 = .ok (.iconst 4, 1) := by decide +kernel
theorem dX6_ask_148 : decode cX6_ask 148 = .ok (.if_icmp .ge 20, 3) := by decide +kernel
theorem dX6_ask_151 : decode cX6_ask 151 = .ok (.aload_n 0, 1) := by decide +kernel
theorem dX6_ask_152 : decode cX6_ask 152 = .ok (.getfield 27, 3) := by decide +kernel
theorem dX6_ask_155 : decode cX6_ask 155 = .ok (.iload 7, 2) := by decide +kernel
theorem dX6_ask_157 : decode cX6_ask 157 = .ok (.aaload, 1) := by decide +kernel
theorem dX6_ask_158 : decode cX6_ask 158 = .ok (.iconst 1, 1) := by decide +kernel
theorem dX6_ask_159 : decode cX6_ask 159 = .ok (.invokevirtual 191, 3) := by decide +kernel
theorem dX6_ask_162 : decode cX6_ask 162 = .ok (.iinc 7 1, 3) := by decide +kernel
theorem dX6_ask_165 : decode cX6_ask 165 = .ok (.goto (-20), 3) := by decide +kernel
theorem dX6_ask_168 : decode cX6_ask 168 = .ok (.iinc 6 1, 3) := by decide +kernel
theorem dX6_ask_171 : decode cX6_ask 171 = .ok (.goto (-87), 3) := by decide +kernel
theorem dX6_ask_174 : decode cX6_ask 174 = .ok (.iload 5, 2) := by decide +kernel
theorem dX6_ask_176 : decode cX6_ask 176 = .ok (.bipush (-4), 2) := by decide +kernel
theorem dX6_ask_178 : decode cX6_ask 178 = .ok (.if_icmp .eq 7, 3) := by decide +kernel
theorem dX6_ask_181 : decode cX6_ask 181 = .ok (.iload_n 2, 1) := by decide +kernel
theorem dX6_ask_182 : decode cX6_ask 182 = .ok (.ifCond .ne 8, 3) := by decide +kernel
theorem dX6_ask_185 : decode cX6_ask 185 = .ok (.iload 5, 2) := by decide +kernel
theorem dX6_ask_187 : decode cX6_ask 187 = .ok (.goto 5, 3) := by decide +kernel
theorem dX6_ask_190 : decode cX6_ask 190 = .ok (.iload 4, 2) := by decide +kernel
theorem dX6_ask_192 : decode cX6_ask 192 = .ok (.ireturn, 1) := by decide +kernel
theorem dX6_drift_0 : decode cX6_drift 0 = .ok (.iload_n 2, 1) := by decide +kernel
theorem dX6_drift_1 : decode cX6_drift 1 = .ok (.iconst 1, 1) := by decide +kernel
theorem dX6_drift_2 : decode cX6_drift 2 = .ok (.bipush 60, 2) := by decide +kernel
theorem dX6_drift_4 : decode cX6_drift 4 = .ok (.invokestatic 73, 3) := by decide +kernel
theorem dX6_drift_7 : decode cX6_drift 7 = .ok (.ifCond .eq 12, 3) := by decide +kernel
theorem dX6_drift_10 : decode cX6_drift 10 = .ok (.iload_n 3, 1) := by decide +kernel
theorem dX6_drift_11 : decode cX6_drift 11 = .ok (.iconst 0, 1) := by decide +kernel
theorem dX6_drift_12 : decode cX6_drift 12 = .ok (.iconst 1, 1) := by decide +kernel
theorem dX6_drift_13 : decode cX6_drift 13 = .ok (.invokestatic 73, 3) := by decide +kernel
theorem dX6_drift_16 : decode cX6_drift 16 = .ok (.ifCond .ne 5, 3) := by decide +kernel
theorem dX6_drift_19 : decode cX6_drift 19 = .ok (.iconst (-1), 1) := by decide +kernel
theorem dX6_drift_20 : decode cX6_drift 20 = .ok (.ireturn, 1) := by decide +kernel
theorem dX6_drift_21 : decode cX6_drift 21 = .ok (.aload_n 0, 1) := by decide +kernel
theorem dX6_drift_22 : decode cX6_drift 22 = .ok (.getfield 10, 3) := by decide +kernel
theorem dX6_drift_25 : decode cX6_drift 25 = .ok (.getfield 103, 3) := by decide +kernel
theorem dX6_drift_28 : decode cX6_drift 28 = .ok (.ifCond .eq 13, 3) := by decide +kernel
theorem dX6_drift_31 : decode cX6_drift 31 = .ok (.aload_n 0, 1) := by decide +kernel
theorem dX6_drift_32 : decode cX6_drift 32 = .ok (.getfield 10, 3) := by decide +kernel
theorem dX6_drift_35 : decode cX6_drift 35 = .ok (.getfield 106, 3) := by decide +kernel
theorem dX6_drift_38 : decode cX6_drift 38 = .ok (.ifCond .ne 6, 3) := by decide +kernel
theorem dX6_drift_41 : decode cX6_drift 41 = .ok (.bipush (-2), 2) := by decide +kernel
theorem dX6_drift_43 : decode cX6_drift 43 = .ok (.ireturn, 1) := by decide +kernel
theorem dX6_drift_44 : decode cX6_drift 44 = .ok (.aload_n 0, 1) := by decide +kernel
theorem dX6_drift_45 : decode cX6_drift 45 = .ok (.getfield 16, 3) := by decide +kernel
theorem dX6_drift_48 : decode cX6_drift 48 = .ok (.aload_n 0, 1) := by decide +kernel
theorem dX6_drift_49 : decode cX6_drift 49 = .ok (.getfield 10, 3) := by decide +kernel
theorem dX6_drift_52 : decode cX6_drift 52 = .ok (.invokevirtual 96, 3) := by decide +kernel
theorem dX6_drift_55 : decode cX6_drift 55 = .ok (.iload_n 1, 1) := by decide +kernel
theorem dX6_drift_56 : decode cX6_drift 56 = .ok (.istore 4, 2) := by decide +kernel
theorem dX6_drift_58 : decode cX6_drift 58 = .ok (.iconst 0, 1) := by decide +kernel
theorem dX6_drift_59 : decode cX6_drift 59 = .ok (.istore 5, 2) := by decide +kernel
theorem dX6_drift_61 : decode cX6_drift 61 = .ok (.iload 5, 2) := by decide +kernel
theorem dX6_drift_63 : decode cX6_drift 63 = .ok (.iload_n 2, 1) := by decide +kernel
theorem dX6_drift_64 : decode cX6_drift 64 = .ok (.if_icmp .ge 81, 3) := by decide +kernel
theorem dX6_drift_67 : decode cX6_drift 67 = .ok (.iload 4, 2) := by decide +kernel
theorem dX6_drift_69 : decode cX6_drift 69 = .ok (.ldc_w 265, 3) := by decide +kernel
theorem dX6_drift_72 : decode cX6_drift 72 = .ok (.imul, 1) := by decide +kernel
theorem dX6_drift_73 : decode cX6_drift 73 = .ok (.sipush 12345, 3) := by decide +kernel
theorem dX6_drift_76 : decode cX6_drift 76 = .ok (.iadd, 1) := by decide +kernel
theorem dX6_drift_77 : decode cX6_drift 77 = .ok (.istore 4, 2) := by decide +kernel
theorem dX6_drift_79 : decode cX6_drift 79 = .ok (.iload 4, 2) := by decide +kernel
theorem dX6_drift_81 : decode cX6_drift 81 = .ok (.bipush 16, 2) := by decide +kernel
theorem dX6_drift_83 : decode cX6_drift 83 = .ok (.iushr, 1) := by decide +kernel
theorem dX6_drift_84 : decode cX6_drift 84 = .ok (.sipush 32767, 3) := by decide +kernel
theorem dX6_drift_87 : decode cX6_drift 87 = .ok (.iand, 1) := by decide +kernel
theorem dX6_drift_88 : decode cX6_drift 88 = .ok (.istore 6, 2) := by decide +kernel
theorem dX6_drift_90 : decode cX6_drift 90 = .ok (.aload_n 0, 1) := by decide +kernel
theorem dX6_drift_91 : decode cX6_drift 91 = .ok (.getfield 16, 3) := by decide +kernel
theorem dX6_drift_94 : decode cX6_drift 94 = .ok (.iload 6, 2) := by decide +kernel
theorem dX6_drift_96 : decode cX6_drift 96 = .ok (.aload_n 0, 1) := by decide +kernel
theorem dX6_drift_97 : decode cX6_drift 97 = .ok (.getfield 10, 3) := by decide +kernel
theorem dX6_drift_100 : decode cX6_drift 100 = .ok (.getfield 106, 3) := by decide +kernel
theorem dX6_drift_103 : decode cX6_drift 103 = .ok (.irem, 1) := by decide +kernel
theorem dX6_drift_104 : decode cX6_drift 104 = .ok (.iload 6, 2) := by decide +kernel
theorem dX6_drift_106 : decode cX6_drift 106 = .ok (.bipush 8, 2) := by decide +kernel
theorem dX6_drift_108 : decode cX6_drift 108 = .ok (.idiv, 1) := by decide +kernel
theorem dX6_drift_109 : decode cX6_drift 109 = .ok (.aload_n 0, 1) := by decide +kernel
theorem dX6_drift_110 : decode cX6_drift 110 = .ok (.getfield 10, 3) := by decide +kernel
theorem dX6_drift_113 : decode cX6_drift 113 = .ok (.getfield 103, 3) := by decide +kernel
theorem dX6_drift_116 : decode cX6_drift 116 = .ok (.irem, 1) := by decide +kernel
theorem dX6_drift_117 : decode cX6_drift 117 = .ok (.iconst 1, 1) := by decide +kernel
theorem dX6_drift_118 : decode cX6_drift 118 = .ok (.iload 6, 2) := by decide +kernel
theorem dX6_drift_120 : decode cX6_drift 120 = .ok (.bipush 64, 2) := by decide +kernel
theorem dX6_drift_122 : decode cX6_drift 122 = .ok (.idiv, 1) := by decide +kernel
theorem dX6_drift_123 : decode cX6_drift 123 = .ok (.bipush 9, 2) := by decide +kernel
theorem dX6_drift_125 : decode cX6_drift 125 = .ok (.irem, 1) := by decide +kernel
theorem dX6_drift_126 : decode cX6_drift 126 = .ok (.iadd, 1) := by decide +kernel
theorem dX6_drift_127 : decode cX6_drift 127 = .ok (.invokevirtual 179, 3) := by decide +kernel
theorem dX6_drift_130 : decode cX6_drift 130 = .ok (.pop, 1) := by decide +kernel
theorem dX6_drift_131 : decode cX6_drift 131 = .ok (.aload_n 0, 1) := by decide +kernel
theorem dX6_drift_132 : decode cX6_drift 132 = .ok (.getfield 16, 3) := by decide +kernel
theorem dX6_drift_135 : decode cX6_drift 135 = .ok (.iconst 1, 1) := by decide +kernel
theorem dX6_drift_136 : decode cX6_drift 136 = .ok (.invokevirtual 191, 3) := by decide +kernel
theorem dX6_drift_139 : decode cX6_drift 139 = .ok (.iinc 5 1, 3) := by decide +kernel
theorem dX6_drift_142 : decode cX6_drift 142 = .ok (.goto (-81), 3) := by decide +kernel
theorem dX6_drift_145 : decode cX6_drift 145 = .ok (.iload_n 3, 1) := by decide +kernel
theorem dX6_drift_146 : decode cX6_drift 146 = .ok (.ifCond .ne 13, 3) := by decide +kernel
theorem dX6_drift_149 : decode cX6_drift 149 = .ok (.aload_n 0, 1) := by decide +kernel
theorem dX6_drift_150 : decode cX6_drift 150 = .ok (.getfield 16, 3) := by decide +kernel
theorem dX6_drift_153 : decode cX6_drift 153 = .ok (.invokevirtual 118, 3) := by decide +kernel
theorem dX6_drift_156 : decode cX6_drift 156 = .ok (.goto 18, 3) := by decide +kernel
theorem dX6_drift_159 : decode cX6_drift 159 = .ok (.aload_n 0, 1) := by decide +kernel
theorem dX6_drift_160 : decode cX6_drift 160 = .ok (.getfield 16, 3) := by decide +kernel
theorem dX6_drift_163 : decode cX6_drift 163 = .ok (.getfield 112, 3) := by decide +kernel
theorem dX6_drift_166 : decode cX6_drift 166 = .ok (.aload_n 0, 1) := by decide +kernel
theorem dX6_drift_167 : decode cX6_drift 167 = .ok (.getfield 10, 3) := by decide +kernel
theorem dX6_drift_170 : decode cX6_drift 170 = .ok (.getfield 112, 3) := by decide +kernel
theorem dX6_drift_173 : decode cX6_drift 173 = .ok (.isub, 1) := by decide +kernel
theorem dX6_drift_174 : decode cX6_drift 174 = .ok (.ireturn, 1) := by decide +kernel
theorem dX6_keep_0 : decode cX6_keep 0 = .ok (.iload_n 1, 1) := by decide +kernel
theorem dX6_keep_1 : decode cX6_keep 1 = .ok (.iconst 0, 1) := by decide +kernel
theorem dX6_keep_2 : decode cX6_keep 2 = .ok (.iconst 1, 1) := by decide +kernel
theorem dX6_keep_3 : decode cX6_keep 3 = .ok (.invokestatic 73, 3) := by decide +kernel
theorem dX6_keep_6 : decode cX6_keep 6 = .ok (.ifCond .ne 5, 3) := by decide +kernel
theorem dX6_keep_9 : decode cX6_keep 9 = .ok (.iconst (-1), 1) := by decide +kernel
theorem dX6_keep_10 : decode cX6_keep 10 = .ok (.ireturn, 1) := by decide +kernel
theorem dX6_keep_11 : decode cX6_keep 11 = .ok (.aload_n 0, 1) := by decide +kernel
theorem dX6_keep_12 : decode cX6_keep 12 = .ok (.getfield 23, 3) := by decide +kernel
theorem dX6_keep_15 : decode cX6_keep 15 = .ok (.iload_n 1, 1) := by decide +kernel
theorem dX6_keep_16 : decode cX6_keep 16 = .ok (.baload, 1) := by decide +kernel
theorem dX6_keep_17 : decode cX6_keep 17 = .ok (.ifCond .eq 7, 3) := by decide +kernel
theorem dX6_keep_20 : decode cX6_keep 20 = .ok (.iconst 1, 1) := by decide +kernel
theorem dX6_keep_21 : decode cX6_keep 21 = .ok (.goto 4, 3) := by decide +kernel
theorem dX6_keep_24 : decode cX6_keep 24 = .ok (.iconst 0, 1) := by decide +kernel
theorem dX6_keep_25 : decode cX6_keep 25 = .ok (.istore_n 2, 1) := by decide +kernel
theorem dX6_keep_26 : decode cX6_keep 26 = .ok (.aload_n 0, 1) := by decide +kernel
theorem dX6_keep_27 : decode cX6_keep 27 = .ok (.getfield 19, 3) := by decide +kernel
theorem dX6_keep_30 : decode cX6_keep 30 = .ok (.iload_n 1, 1) := by decide +kernel
theorem dX6_keep_31 : decode cX6_keep 31 = .ok (.aaload, 1) := by decide +kernel
theorem dX6_keep_32 : decode cX6_keep 32 = .ok (.aload_n 0, 1) := by decide +kernel
theorem dX6_keep_33 : decode cX6_keep 33 = .ok (.getfield 10, 3) := by decide +kernel
theorem dX6_keep_36 : decode cX6_keep 36 = .ok (.invokevirtual 96, 3) := by decide +kernel
theorem dX6_keep_39 : decode cX6_keep 39 = .ok (.aload_n 0, 1) := by decide +kernel
theorem dX6_keep_40 : decode cX6_keep 40 = .ok (.getfield 23, 3) := by decide +kernel
theorem dX6_keep_43 : decode cX6_keep 43 = .ok (.iload_n 1, 1) := by decide +kernel
theorem dX6_keep_44 : decode cX6_keep 44 = .ok (.iconst 1, 1) := by decide +kernel
theorem dX6_keep_45 : decode cX6_keep 45 = .ok (.bastore, 1) := by decide +kernel
theorem dX6_keep_46 : decode cX6_keep 46 = .ok (.iload_n 2, 1) := by decide +kernel
theorem dX6_keep_47 : decode cX6_keep 47 = .ok (.ireturn, 1) := by decide +kernel
theorem dX6_back_0 : decode cX6_back 0 = .ok (.iload_n 1, 1) := by decide +kernel
theorem dX6_back_1 : decode cX6_back 1 = .ok (.iconst 0, 1) := by decide +kernel
theorem dX6_back_2 : decode cX6_back 2 = .ok (.iconst 1, 1) := by decide +kernel
theorem dX6_back_3 : decode cX6_back 3 = .ok (.invokestatic 73, 3) := by decide +kernel
theorem dX6_back_6 : decode cX6_back 6 = .ok (.ifCond .ne 5, 3) := by decide +kernel
theorem dX6_back_9 : decode cX6_back 9 = .ok (.iconst (-1), 1) := by decide +kernel
theorem dX6_back_10 : decode cX6_back 10 = .ok (.ireturn, 1) := by decide +kernel
theorem dX6_back_11 : decode cX6_back 11 = .ok (.aload_n 0, 1) := by decide +kernel
theorem dX6_back_12 : decode cX6_back 12 = .ok (.getfield 23, 3) := by decide +kernel
theorem dX6_back_15 : decode cX6_back 15 = .ok (.iload_n 1, 1) := by decide +kernel
theorem dX6_back_16 : decode cX6_back 16 = .ok (.baload, 1) := by decide +kernel
theorem dX6_back_17 : decode cX6_back 17 = .ok (.ifCond .ne 6, 3) := by decide +kernel
theorem dX6_back_20 : decode cX6_back 20 = .ok (.bipush (-2), 2) := by decide +kernel
theorem dX6_back_22 : decode cX6_back 22 = .ok (.ireturn, 1) := by decide +kernel
theorem dX6_back_23 : decode cX6_back 23 = .ok (.aload_n 0, 1) := by decide +kernel
theorem dX6_back_24 : decode cX6_back 24 = .ok (.getfield 10, 3) := by decide +kernel
theorem dX6_back_27 : decode cX6_back 27 = .ok (.aload_n 0, 1) := by decide +kernel
theorem dX6_back_28 : decode cX6_back 28 = .ok (.getfield 19, 3) := by decide +kernel
theorem dX6_back_31 : decode cX6_back 31 = .ok (.iload_n 1, 1) := by decide +kernel
theorem dX6_back_32 : decode cX6_back 32 = .ok (.aaload, 1) := by decide +kernel
theorem dX6_back_33 : decode cX6_back 33 = .ok (.invokevirtual 96, 3) := by decide +kernel
theorem dX6_back_36 : decode cX6_back 36 = .ok (.aload_n 0, 1) := by decide +kernel
theorem dX6_back_37 : decode cX6_back 37 = .ok (.getfield 10, 3) := by decide +kernel
theorem dX6_back_40 : decode cX6_back 40 = .ok (.getfield 109, 3) := by decide +kernel
theorem dX6_back_43 : decode cX6_back 43 = .ok (.ireturn, 1) := by decide +kernel
theorem dX6_sheet_0 : decode cX6_sheet 0 = .ok (.iload_n 1, 1) := by decide +kernel
theorem dX6_sheet_1 : decode cX6_sheet 1 = .ok (.iconst 0, 1) := by decide +kernel
theorem dX6_sheet_2 : decode cX6_sheet 2 = .ok (.iconst 3, 1) := by decide +kernel
theorem dX6_sheet_3 : decode cX6_sheet 3 = .ok (.invokestatic 73, 3) := by decide +kernel
theorem dX6_sheet_6 : decode cX6_sheet 6 = .ok (.ifCond .eq 18, 3) := by decide +kernel
theorem dX6_sheet_9 : decode cX6_sheet 9 = .ok (.iload_n 2, 1) := by decide +kernel
theorem dX6_sheet_10 : decode cX6_sheet 10 = .ok (.iconst 0, 1) := by decide +kernel
theorem dX6_sheet_11 : decode cX6_sheet 11 = .ok (.iconst 2, 1) := by decide +kernel
theorem dX6_sheet_12 : decode cX6_sheet 12 = .ok (.invokestatic 73, 3) := by decide +kernel
theorem dX6_sheet_15 : decode cX6_sheet 15 = .ok (.ifCond .eq 9, 3) := by decide +kernel
theorem dX6_sheet_18 : decode cX6_sheet 18 = .ok (.iload_n 3, 1) := by decide +kernel
theorem dX6_sheet_19 : decode cX6_sheet 19 = .ok (.bipush 40, 2) := by decide +kernel
theorem dX6_sheet_21 : decode cX6_sheet 21 = .ok (.if_icmp .le 5, 3) := by decide +kernel
theorem dX6_sheet_24 : decode cX6_sheet 24 = .ok (.iconst (-1), 1) := by decide +kernel
theorem dX6_sheet_25 : decode cX6_sheet 25 = .ok (.ireturn, 1) := by decide +kernel
theorem dX6_sheet_26 : decode cX6_sheet 26 = .ok (.iload_n 3, 1) := by decide +kernel
theorem dX6_sheet_27 : decode cX6_sheet 27 = .ok (.ifCond .ge 6, 3) := by decide +kernel
theorem dX6_sheet_30 : decode cX6_sheet 30 = .ok (.bipush (-14), 2) := by decide +kernel
theorem dX6_sheet_32 : decode cX6_sheet 32 = .ok (.ireturn, 1) := by decide +kernel
theorem dX6_sheet_33 : decode cX6_sheet 33 = .ok (.aload_n 0, 1) := by decide +kernel
theorem dX6_sheet_34 : decode cX6_sheet 34 = .ok (.getfield 64, 3) := by decide +kernel
theorem dX6_sheet_37 : decode cX6_sheet 37 = .ok (.iload_n 1, 1) := by decide +kernel
theorem dX6_sheet_38 : decode cX6_sheet 38 = .ok (.aaload, 1) := by decide +kernel
theorem dX6_sheet_39 : decode cX6_sheet 39 = .ok (.iload_n 2, 1) := by decide +kernel
theorem dX6_sheet_40 : decode cX6_sheet 40 = .ok (.iload_n 3, 1) := by decide +kernel
theorem dX6_sheet_41 : decode cX6_sheet 41 = .ok (.invokevirtual 266, 3) := by decide +kernel
theorem dX6_sheet_44 : decode cX6_sheet 44 = .ok (.iconst 1, 1) := by decide +kernel
theorem dX6_sheet_45 : decode cX6_sheet 45 = .ok (.ireturn, 1) := by decide +kernel
theorem dX6_lay_0 : decode cX6_lay 0 = .ok (.iload_n 1, 1) := by decide +kernel
theorem dX6_lay_1 : decode cX6_lay 1 = .ok (.iconst 0, 1) := by decide +kernel
theorem dX6_lay_2 : decode cX6_lay 2 = .ok (.iconst 3, 1) := by decide +kernel
theorem dX6_lay_3 : decode cX6_lay 3 = .ok (.invokestatic 73, 3) := by decide +kernel
theorem dX6_lay_6 : decode cX6_lay 6 = .ok (.ifCond .ne 5, 3) := by decide +kernel
theorem dX6_lay_9 : decode cX6_lay 9 = .ok (.iconst (-1), 1) := by decide +kernel
theorem dX6_lay_10 : decode cX6_lay 10 = .ok (.ireturn, 1) := by decide +kernel
theorem dX6_lay_11 : decode cX6_lay 11 = .ok (.aload_n 0, 1) := by decide +kernel
theorem dX6_lay_12 : decode cX6_lay 12 = .ok (.getfield 64, 3) := by decide +kernel
theorem dX6_lay_15 : decode cX6_lay 15 = .ok (.iload_n 1, 1) := by decide +kernel
theorem dX6_lay_16 : decode cX6_lay 16 = .ok (.aaload, 1) := by decide +kernel
theorem dX6_lay_17 : decode cX6_lay 17 = .ok (.astore 4, 2) := by decide +kernel
theorem dX6_lay_19 : decode cX6_lay 19 = .ok (.aload 4, 2) := by decide +kernel
theorem dX6_lay_21 : decode cX6_lay 21 = .ok (.getfield 269, 3) := by decide +kernel
theorem dX6_lay_24 : decode cX6_lay 24 = .ok (.ifCond .ge 6, 3) := by decide +kernel
theorem dX6_lay_27 : decode cX6_lay 27 = .ok (.bipush (-11), 2) := by decide +kernel
theorem dX6_lay_29 : decode cX6_lay 29 = .ok (.ireturn, 1) := by decide +kernel
theorem dX6_lay_30 : decode cX6_lay 30 = .ok (.iload_n 2, 1) := by decide +kernel
theorem dX6_lay_31 : decode cX6_lay 31 = .ok (.iconst 0, 1) := by decide +kernel
theorem dX6_lay_32 : decode cX6_lay 32 = .ok (.aload 4, 2) := by decide +kernel
theorem dX6_lay_34 : decode cX6_lay 34 = .ok (.getfield 269, 3) := by decide +kernel
theorem dX6_lay_37 : decode cX6_lay 37 = .ok (.iconst 1, 1) := by decide +kernel
theorem dX6_lay_38 : decode cX6_lay 38 = .ok (.isub, 1) := by decide +kernel
theorem dX6_lay_39 : decode cX6_lay 39 = .ok (.invokestatic 73, 3) := by decide +kernel
theorem dX6_lay_42 : decode cX6_lay 42 = .ok (.ifCond .ne 6, 3) := by decide +kernel
theorem dX6_lay_45 : decode cX6_lay 45 = .ok (.bipush (-12), 2) := by decide +kernel
theorem dX6_lay_47 : decode cX6_lay 47 = .ok (.ireturn, 1) := by decide +kernel
theorem dX6_lay_48 : decode cX6_lay 48 = .ok (.aload 4, 2) := by decide +kernel
theorem dX6_lay_50 : decode cX6_lay 50 = .ok (.getfield 270, 3) := by decide +kernel
theorem dX6_lay_53 : decode cX6_lay 53 = .ok (.iload_n 2, 1) := by decide +kernel
theorem dX6_lay_54 : decode cX6_lay 54 = .ok (.aload 4, 2) := by decide +kernel
theorem dX6_lay_56 : decode cX6_lay 56 = .ok (.iload_n 3, 1) := by decide +kernel
theorem dX6_lay_57 : decode cX6_lay 57 = .ok (.invokevirtual 273, 3) := by decide +kernel
theorem dX6_lay_60 : decode cX6_lay 60 = .ok (.iastore, 1) := by decide +kernel
theorem dX6_lay_61 : decode cX6_lay 61 = .ok (.iconst 1, 1) := by decide +kernel
theorem dX6_lay_62 : decode cX6_lay 62 = .ok (.ireturn, 1) := by decide +kernel
theorem dX6_read_0 : decode cX6_read 0 = .ok (.iload_n 1, 1) := by decide +kernel
theorem dX6_read_1 : decode cX6_read 1 = .ok (.iconst 0, 1) := by decide +kernel
theorem dX6_read_2 : decode cX6_read 2 = .ok (.iconst 3, 1) := by decide +kernel
theorem dX6_read_3 : decode cX6_read 3 = .ok (.invokestatic 73, 3) := by decide +kernel
theorem dX6_read_6 : decode cX6_read 6 = .ok (.ifCond .eq 23, 3) := by decide +kernel
theorem dX6_read_9 : decode cX6_read 9 = .ok (.iload_n 2, 1) := by decide +kernel
theorem dX6_read_10 : decode cX6_read 10 = .ok (.iconst 0, 1) := by decide +kernel
theorem dX6_read_11 : decode cX6_read 11 = .ok (.iconst 2, 1) := by decide +kernel
theorem dX6_read_12 : decode cX6_read 12 = .ok (.invokestatic 73, 3) := by decide +kernel
theorem dX6_read_15 : decode cX6_read 15 = .ok (.ifCond .eq 14, 3) := by decide +kernel
theorem dX6_read_18 : decode cX6_read 18 = .ok (.iload 4, 2) := by decide +kernel
theorem dX6_read_20 : decode cX6_read 20 = .ok (.iconst 0, 1) := by decide +kernel
theorem dX6_read_21 : decode cX6_read 21 = .ok (.bipush 13, 2) := by decide +kernel
theorem dX6_read_23 : decode cX6_read 23 = .ok (.invokestatic 73, 3) := by decide +kernel
theorem dX6_read_26 : decode cX6_read 26 = .ok (.ifCond .ne 5, 3) := by decide +kernel
theorem dX6_read_29 : decode cX6_read 29 = .ok (.iconst (-1), 1) := by decide +kernel
theorem dX6_read_30 : decode cX6_read 30 = .ok (.ireturn, 1) := by decide +kernel
theorem dX6_read_31 : decode cX6_read 31 = .ok (.aload_n 0, 1) := by decide +kernel
theorem dX6_read_32 : decode cX6_read 32 = .ok (.getfield 64, 3) := by decide +kernel
theorem dX6_read_35 : decode cX6_read 35 = .ok (.iload_n 1, 1) := by decide +kernel
theorem dX6_read_36 : decode cX6_read 36 = .ok (.aaload, 1) := by decide +kernel
theorem dX6_read_37 : decode cX6_read 37 = .ok (.astore 5, 2) := by decide +kernel
theorem dX6_read_39 : decode cX6_read 39 = .ok (.iload 4, 2) := by decide +kernel
theorem dX6_read_41 : decode cX6_read 41 = .ok (.ifCond .ne 7, 3) := by decide +kernel
theorem dX6_read_44 : decode cX6_read 44 = .ok (.iconst 0, 1) := by decide +kernel
theorem dX6_read_45 : decode cX6_read 45 = .ok (.goto 9, 3) := by decide +kernel
theorem dX6_read_48 : decode cX6_read 48 = .ok (.aload 5, 2) := by decide +kernel
theorem dX6_read_50 : decode cX6_read 50 = .ok (.iload_n 2, 1) := by decide +kernel
theorem dX6_read_51 : decode cX6_read 51 = .ok (.invokevirtual 276, 3) := by decide +kernel
theorem dX6_read_54 : decode cX6_read 54 = .ok (.istore 6, 2) := by decide +kernel
theorem dX6_read_56 : decode cX6_read 56 = .ok (.iconst 0, 1) := by decide +kernel
theorem dX6_read_57 : decode cX6_read 57 = .ok (.istore 7, 2) := by decide +kernel
theorem dX6_read_59 : decode cX6_read 59 = .ok (.aload_n 0, 1) := by decide +kernel
theorem dX6_read_60 : decode cX6_read 60 = .ok (.getfield 16, 3) := by decide +kernel
theorem dX6_read_63 : decode cX6_read 63 = .ok (.aload_n 0, 1) := by decide +kernel
theorem dX6_read_64 : decode cX6_read 64 = .ok (.getfield 10, 3) := by decide +kernel
theorem dX6_read_67 : decode cX6_read 67 = .ok (.invokevirtual 96, 3) := by decide +kernel
theorem dX6_read_70 : decode cX6_read 70 = .ok (.iconst 0, 1) := by decide +kernel
theorem dX6_read_71 : decode cX6_read 71 = .ok (.istore 8, 2) := by decide +kernel
theorem dX6_read_73 : decode cX6_read 73 = .ok (.iload 8, 2) := by decide +kernel
theorem dX6_read_75 : decode cX6_read 75 = .ok (.iload 4, 2) := by decide +kernel
theorem dX6_read_77 : decode cX6_read 77 = .ok (.if_icmp .ge 79, 3) := by decide +kernel
theorem dX6_read_80 : decode cX6_read 80 = .ok (.iload 6, 2) := by decide +kernel
theorem dX6_read_82 : decode cX6_read 82 = .ok (.ifCond .ne 74, 3) := by decide +kernel
theorem dX6_read_85 : decode cX6_read 85 = .ok (.iload_n 3, 1) := by decide +kernel
theorem dX6_read_86 : decode cX6_read 86 = .ok (.i2l, 1) := by decide +kernel
theorem dX6_read_87 : decode cX6_read 87 = .ok (.ldc2_w 279, 3) := by decide +kernel
theorem dX6_read_90 : decode cX6_read 90 = .ok (.iload 8, 2) := by decide +kernel
theorem dX6_read_92 : decode cX6_read 92 = .ok (.i2l, 1) := by decide +kernel
theorem dX6_read_93 : decode cX6_read 93 = .ok (.lmul, 1) := by decide +kernel
theorem dX6_read_94 : decode cX6_read 94 = .ok (.ladd, 1) := by decide +kernel
theorem dX6_read_95 : decode cX6_read 95 = .ok (.lstore 9, 2) := by decide +kernel
theorem dX6_read_97 : decode cX6_read 97 = .ok (.lload 9, 2) := by decide +kernel
theorem dX6_read_99 : decode cX6_read 99 = .ok (.lconst 0, 1) := by decide +kernel
theorem dX6_read_100 : decode cX6_read 100 = .ok (.lcmp, 1) := by decide +kernel
theorem dX6_read_101 : decode cX6_read 101 = .ok (.ifCond .lt 19, 3) := by decide +kernel
theorem dX6_read_104 : decode cX6_read 104 = .ok (.lload 9, 2) := by decide +kernel
theorem dX6_read_106 : decode cX6_read 106 = .ok (.ldc2_w 281, 3) := by decide +kernel
theorem dX6_read_109 : decode cX6_read 109 = .ok (.ladd, 1) := by decide +kernel
theorem dX6_read_110 : decode cX6_read 110 = .ok (.aload 5, 2) := by decide +kernel
theorem dX6_read_112 : decode cX6_read 112 = .ok (.getfield 269, 3) := by decide +kernel
theorem dX6_read_115 : decode cX6_read 115 = .ok (.i2l, 1) := by decide +kernel
theorem dX6_read_116 : decode cX6_read 116 = .ok (.lcmp, 1) := by decide +kernel
theorem dX6_read_117 : decode cX6_read 117 = .ok (.ifCond .lt 9, 3) := by decide +kernel
theorem dX6_read_120 : decode cX6_read 120 = .ok (.iconst 2, 1) := by decide +kernel
theorem dX6_read_121 : decode cX6_read 121 = .ok (.istore 6, 2) := by decide +kernel
theorem dX6_read_123 : decode cX6_read 123 = .ok (.goto 27, 3) := by decide +kernel
theorem dX6_read_126 : decode cX6_read 126 = .ok (.aload_n 0, 1) := by decide +kernel
theorem dX6_read_127 : decode cX6_read 127 = .ok (.aload 5, 2) := by decide +kernel
theorem dX6_read_129 : decode cX6_read 129 = .ok (.getfield 270, 3) := by decide +kernel
theorem dX6_read_132 : decode cX6_read 132 = .ok (.lload 9, 2) := by decide +kernel
theorem dX6_read_134 : decode cX6_read 134 = .ok (.l2i, 1) := by decide +kernel
theorem dX6_read_135 : decode cX6_read 135 = .ok (.invokevirtual 283, 3) := by decide +kernel
theorem dX6_read_138 : decode cX6_read 138 = .ok (.ifCond .ne 9, 3) := by decide +kernel
theorem dX6_read_141 : decode cX6_read 141 = .ok (.bipush (-20), 2) := by decide +kernel
theorem dX6_read_143 : decode cX6_read 143 = .ok (.iload 8, 2) := by decide +kernel
theorem dX6_read_145 : decode cX6_read 145 = .ok (.isub, 1) := by decide +kernel
theorem dX6_read_146 : decode cX6_read 146 = .ok (.ireturn, 1) := by decide +kernel
theorem dX6_read_147 : decode cX6_read 147 = .ok (.iinc 7 1, 3) := by decide +kernel
theorem dX6_read_150 : decode cX6_read 150 = .ok (.iinc 8 1, 3) := by decide +kernel
theorem dX6_read_153 : decode cX6_read 153 = .ok (.goto (-80), 3) := by decide +kernel
theorem dX6_read_156 : decode cX6_read 156 = .ok (.aload_n 0, 1) := by decide +kernel
theorem dX6_read_157 : decode cX6_read 157 = .ok (.getfield 10, 3) := by decide +kernel
theorem dX6_read_160 : decode cX6_read 160 = .ok (.aload_n 0, 1) := by decide +kernel
theorem dX6_read_161 : decode cX6_read 161 = .ok (.getfield 16, 3) := by decide +kernel
theorem dX6_read_164 : decode cX6_read 164 = .ok (.invokevirtual 96, 3) := by decide +kernel
theorem dX6_read_167 : decode cX6_read 167 = .ok (.aload_n 0, 1) := by decide +kernel
theorem dX6_read_168 : decode cX6_read 168 = .ok (.iload 6, 2) := by decide +kernel
theorem dX6_read_170 : decode cX6_read 170 = .ok (.putfield 68, 3) := by decide +kernel
theorem dX6_read_173 : decode cX6_read 173 = .ok (.iload 7, 2) := by decide +kernel
theorem dX6_read_175 : decode cX6_read 175 = .ok (.ireturn, 1) := by decide +kernel
theorem dX6_torn_0 : decode cX6_torn 0 = .ok (.aload_n 0, 1) := by decide +kernel
theorem dX6_torn_1 : decode cX6_torn 1 = .ok (.getfield 68, 3) := by decide +kernel
theorem dX6_torn_4 : decode cX6_torn 4 = .ok (.ireturn, 1) := by decide +kernel
theorem dX6_count_0 : decode cX6_count 0 = .ok (.iload_n 1, 1) := by decide +kernel
theorem dX6_count_1 : decode cX6_count 1 = .ok (.tableswitch 150 0 5 #[39, 47, 77, 85, 112, 131], 39) := by decide +kernel
theorem dX6_count_40 : decode cX6_count 40 = .ok (.aload_n 0, 1) := by decide +kernel
theorem dX6_count_41 : decode cX6_count 41 = .ok (.getfield 44, 3) := by decide +kernel
theorem dX6_count_44 : decode cX6_count 44 = .ok (.getfield 100, 3) := by decide +kernel
theorem dX6_count_47 : decode cX6_count 47 = .ok (.ireturn, 1) := by decide +kernel
theorem dX6_count_48 : decode cX6_count 48 = .ok (.aload_n 0, 1) := by decide +kernel
theorem dX6_count_49 : decode cX6_count 49 = .ok (.getfield 23, 3) := by decide +kernel
theorem dX6_count_52 : decode cX6_count 52 = .ok (.iconst 0, 1) := by decide +kernel
theorem dX6_count_53 : decode cX6_count 53 = .ok (.baload, 1) := by decide +kernel
theorem dX6_count_54 : decode cX6_count 54 = .ok (.ifCond .eq 7, 3) := by decide +kernel
theorem dX6_count_57 : decode cX6_count 57 = .ok (.iconst 1, 1) := by decide +kernel
theorem dX6_count_58 : decode cX6_count 58 = .ok (.goto 4, 3) := by decide +kernel
theorem dX6_count_61 : decode cX6_count 61 = .ok (.iconst 0, 1) := by decide +kernel
theorem dX6_count_62 : decode cX6_count 62 = .ok (.aload_n 0, 1) := by decide +kernel
theorem dX6_count_63 : decode cX6_count 63 = .ok (.getfield 23, 3) := by decide +kernel
theorem dX6_count_66 : decode cX6_count 66 = .ok (.iconst 1, 1) := by decide +kernel
theorem dX6_count_67 : decode cX6_count 67 = .ok (.baload, 1) := by decide +kernel
theorem dX6_count_68 : decode cX6_count 68 = .ok (.ifCond .eq 7, 3) := by decide +kernel
theorem dX6_count_71 : decode cX6_count 71 = .ok (.iconst 1, 1) := by decide +kernel
theorem dX6_count_72 : decode cX6_count 72 = .ok (.goto 4, 3) := by decide +kernel
theorem dX6_count_75 : decode cX6_count 75 = .ok (.iconst 0, 1) := by decide +kernel
theorem dX6_count_76 : decode cX6_count 76 = .ok (.iadd, 1) := by decide +kernel
theorem dX6_count_77 : decode cX6_count 77 = .ok (.ireturn, 1) := by decide +kernel
theorem dX6_count_78 : decode cX6_count 78 = .ok (.aload_n 0, 1) := by decide +kernel
theorem dX6_count_79 : decode cX6_count 79 = .ok (.getfield 37, 3) := by decide +kernel
theorem dX6_count_82 : decode cX6_count 82 = .ok (.getfield 77, 3) := by decide +kernel
theorem dX6_count_85 : decode cX6_count 85 = .ok (.ireturn, 1) := by decide +kernel
theorem dX6_count_86 : decode cX6_count 86 = .ok (.aload_n 0, 1) := by decide +kernel
theorem dX6_count_87 : decode cX6_count 87 = .ok (.getfield 64, 3) := by decide +kernel
theorem dX6_count_90 : decode cX6_count 90 = .ok (.iconst 0, 1) := by decide +kernel
theorem dX6_count_91 : decode cX6_count 91 = .ok (.aaload, 1) := by decide +kernel
theorem dX6_count_92 : decode cX6_count 92 = .ok (.getfield 269, 3) := by decide +kernel
theorem dX6_count_95 : decode cX6_count 95 = .ok (.ifCond .ge 8, 3) := by decide +kernel
theorem dX6_count_98 : decode cX6_count 98 = .ok (.bipush (-4), 2) := by decide +kernel
theorem dX6_count_100 : decode cX6_count 100 = .ok (.goto 12, 3) := by decide +kernel
theorem dX6_count_103 : decode cX6_count 103 = .ok (.aload_n 0, 1) := by decide +kernel
theorem dX6_count_104 : decode cX6_count 104 = .ok (.getfield 64, 3) := by decide +kernel
theorem dX6_count_107 : decode cX6_count 107 = .ok (.iconst 0, 1) := by decide +kernel
theorem dX6_count_108 : decode cX6_count 108 = .ok (.aaload, 1) := by decide +kernel
theorem dX6_count_109 : decode cX6_count 109 = .ok (.getfield 269, 3) := by decide +kernel
theorem dX6_count_112 : decode cX6_count 112 = .ok (.ireturn, 1) := by decide +kernel
theorem dX6_count_113 : decode cX6_count 113 = .ok (.aload_n 0, 1) := by decide +kernel
theorem dX6_count_114 : decode cX6_count 114 = .ok (.getfield 10, 3) := by decide +kernel
theorem dX6_count_117 : decode cX6_count 117 = .ok (.getfield 144, 3) := by decide +kernel
theorem dX6_count_120 : decode cX6_count 120 = .ok (.iconst 0, 1) := by decide +kernel
theorem dX6_count_121 : decode cX6_count 121 = .ok (.aload_n 0, 1) := by decide +kernel
theorem dX6_count_122 : decode cX6_count 122 = .ok (.getfield 10, 3) := by decide +kernel
theorem dX6_count_125 : decode cX6_count 125 = .ok (.getfield 106, 3) := by decide +kernel
theorem dX6_count_128 : decode cX6_count 128 = .ok (.invokestatic 287, 3) := by decide +kernel
theorem dX6_count_131 : decode cX6_count 131 = .ok (.ireturn, 1) := by decide +kernel
theorem dX6_count_132 : decode cX6_count 132 = .ok (.aload_n 0, 1) := by decide +kernel
theorem dX6_count_133 : decode cX6_count 133 = .ok (.getfield 10, 3) := by decide +kernel
theorem dX6_count_136 : decode cX6_count 136 = .ok (.getfield 147, 3) := by decide +kernel
theorem dX6_count_139 : decode cX6_count 139 = .ok (.iconst 0, 1) := by decide +kernel
theorem dX6_count_140 : decode cX6_count 140 = .ok (.aload_n 0, 1) := by decide +kernel
theorem dX6_count_141 : decode cX6_count 141 = .ok (.getfield 10, 3) := by decide +kernel
theorem dX6_count_144 : decode cX6_count 144 = .ok (.getfield 106, 3) := by decide +kernel
theorem dX6_count_147 : decode cX6_count 147 = .ok (.invokestatic 287, 3) := by decide +kernel
theorem dX6_count_150 : decode cX6_count 150 = .ok (.ireturn, 1) := by decide +kernel
theorem dX6_count_151 : decode cX6_count 151 = .ok (.iconst (-1), 1) := by decide +kernel
theorem dX6_count_152 : decode cX6_count 152 = .ok (.ireturn, 1) := by decide +kernel
theorem dX6_within_0 : decode cX6_within 0 = .ok (.iload_n 0, 1) := by decide +kernel
theorem dX6_within_1 : decode cX6_within 1 = .ok (.iload_n 1, 1) := by decide +kernel
theorem dX6_within_2 : decode cX6_within 2 = .ok (.if_icmp .lt 12, 3) := by decide +kernel
theorem dX6_within_5 : decode cX6_within 5 = .ok (.iload_n 0, 1) := by decide +kernel
theorem dX6_within_6 : decode cX6_within 6 = .ok (.iload_n 2, 1) := by decide +kernel
theorem dX6_within_7 : decode cX6_within 7 = .ok (.if_icmp .gt 7, 3) := by decide +kernel
theorem dX6_within_10 : decode cX6_within 10 = .ok (.iconst 1, 1) := by decide +kernel
theorem dX6_within_11 : decode cX6_within 11 = .ok (.goto 4, 3) := by decide +kernel
theorem dX6_within_14 : decode cX6_within 14 = .ok (.iconst 0, 1) := by decide +kernel
theorem dX6_within_15 : decode cX6_within 15 = .ok (.ireturn, 1) := by decide +kernel
theorem dX6_isHue_0 : decode cX6_isHue 0 = .ok (.iload_n 0, 1) := by decide +kernel
theorem dX6_isHue_1 : decode cX6_isHue 1 = .ok (.iconst 0, 1) := by decide +kernel
theorem dX6_isHue_2 : decode cX6_isHue 2 = .ok (.sipush 999, 3) := by decide +kernel
theorem dX6_isHue_5 : decode cX6_isHue 5 = .ok (.invokestatic 73, 3) := by decide +kernel
theorem dX6_isHue_8 : decode cX6_isHue 8 = .ok (.ireturn, 1) := by decide +kernel
theorem dX6_hasBit_0 : decode cX6_hasBit 0 = .ok (.iload_n 0, 1) := by decide +kernel
theorem dX6_hasBit_1 : decode cX6_hasBit 1 = .ok (.iconst 1, 1) := by decide +kernel
theorem dX6_hasBit_2 : decode cX6_hasBit 2 = .ok (.iload_n 1, 1) := by decide +kernel
theorem dX6_hasBit_3 : decode cX6_hasBit 3 = .ok (.ishl, 1) := by decide +kernel
theorem dX6_hasBit_4 : decode cX6_hasBit 4 = .ok (.iand, 1) := by decide +kernel
theorem dX6_hasBit_5 : decode cX6_hasBit 5 = .ok (.ifCond .eq 7, 3) := by decide +kernel
theorem dX6_hasBit_8 : decode cX6_hasBit 8 = .ok (.iconst 1, 1) := by decide +kernel
theorem dX6_hasBit_9 : decode cX6_hasBit 9 = .ok (.goto 4, 3) := by decide +kernel
theorem dX6_hasBit_12 : decode cX6_hasBit 12 = .ok (.iconst 0, 1) := by decide +kernel
theorem dX6_hasBit_13 : decode cX6_hasBit 13 = .ok (.ireturn, 1) := by decide +kernel
theorem dX6_offBetween_0 : decode cX6_offBetween 0 = .ok (.iload_n 0, 1) := by decide +kernel
theorem dX6_offBetween_1 : decode cX6_offBetween 1 = .ok (.bipush 100, 2) := by decide +kernel
theorem dX6_offBetween_3 : decode cX6_offBetween 3 = .ok (.idiv, 1) := by decide +kernel
theorem dX6_offBetween_4 : decode cX6_offBetween 4 = .ok (.iload_n 1, 1) := by decide +kernel
theorem dX6_offBetween_5 : decode cX6_offBetween 5 = .ok (.bipush 100, 2) := by decide +kernel
theorem dX6_offBetween_7 : decode cX6_offBetween 7 = .ok (.idiv, 1) := by decide +kernel
theorem dX6_offBetween_8 : decode cX6_offBetween 8 = .ok (.isub, 1) := by decide +kernel
theorem dX6_offBetween_9 : decode cX6_offBetween 9 = .ok (.invokestatic 291, 3) := by decide +kernel
theorem dX6_offBetween_12 : decode cX6_offBetween 12 = .ok (.iload_n 0, 1) := by decide +kernel
theorem dX6_offBetween_13 : decode cX6_offBetween 13 = .ok (.bipush 10, 2) := by decide +kernel
theorem dX6_offBetween_15 : decode cX6_offBetween 15 = .ok (.idiv, 1) := by decide +kernel
theorem dX6_offBetween_16 : decode cX6_offBetween 16 = .ok (.bipush 10, 2) := by decide +kernel
theorem dX6_offBetween_18 : decode cX6_offBetween 18 = .ok (.irem, 1) := by decide +kernel
theorem dX6_offBetween_19 : decode cX6_offBetween 19 = .ok (.iload_n 1, 1) := by decide +kernel
theorem dX6_offBetween_20 : decode cX6_offBetween 20 = .ok (.bipush 10, 2) := by decide +kernel
theorem dX6_offBetween_22 : decode cX6_offBetween 22 = .ok (.idiv, 1) := by decide +kernel
theorem dX6_offBetween_23 : decode cX6_offBetween 23 = .ok (.bipush 10, 2) := by decide +kernel
theorem dX6_offBetween_25 : decode cX6_offBetween 25 = .ok (.irem, 1) := by decide +kernel
theorem dX6_offBetween_26 : decode cX6_offBetween 26 = .ok (.isub, 1) := by decide +kernel
theorem dX6_offBetween_27 : decode cX6_offBetween 27 = .ok (.invokestatic 291, 3) := by decide +kernel
theorem dX6_offBetween_30 : decode cX6_offBetween 30 = .ok (.iadd, 1) := by decide +kernel
theorem dX6_offBetween_31 : decode cX6_offBetween 31 = .ok (.iload_n 0, 1) := by decide +kernel
theorem dX6_offBetween_32 : decode cX6_offBetween 32 = .ok (.bipush 10, 2) := by decide +kernel
theorem dX6_offBetween_34 : decode cX6_offBetween 34 = .ok (.irem, 1) := by decide +kernel
theorem dX6_offBetween_35 : decode cX6_offBetween 35 = .ok (.iload_n 1, 1) := by decide +kernel
theorem dX6_offBetween_36 : decode cX6_offBetween 36 = .ok (.bipush 10, 2) := by decide +kernel
theorem dX6_offBetween_38 : decode cX6_offBetween 38 = .ok (.irem, 1) := by decide +kernel
theorem dX6_offBetween_39 : decode cX6_offBetween 39 = .ok (.isub, 1) := by decide +kernel
theorem dX6_offBetween_40 : decode cX6_offBetween 40 = .ok (.invokestatic 291, 3) := by decide +kernel
theorem dX6_offBetween_43 : decode cX6_offBetween 43 = .ok (.iadd, 1) := by decide +kernel
theorem dX6_offBetween_44 : decode cX6_offBetween 44 = .ok (.ireturn, 1) := by decide +kernel
theorem dX6_sum_0 : decode cX6_sum 0 = .ok (.iconst 0, 1) := by decide +kernel
theorem dX6_sum_1 : decode cX6_sum 1 = .ok (.istore_n 3, 1) := by decide +kernel
theorem dX6_sum_2 : decode cX6_sum 2 = .ok (.iload_n 1, 1) := by decide +kernel
theorem dX6_sum_3 : decode cX6_sum 3 = .ok (.istore 4, 2) := by decide +kernel
theorem dX6_sum_5 : decode cX6_sum 5 = .ok (.iload 4, 2) := by decide +kernel
theorem dX6_sum_7 : decode cX6_sum 7 = .ok (.iload_n 1, 1) := by decide +kernel
theorem dX6_sum_8 : decode cX6_sum 8 = .ok (.iload_n 2, 1) := by decide +kernel
theorem dX6_sum_9 : decode cX6_sum 9 = .ok (.iadd, 1) := by decide +kernel
theorem dX6_sum_10 : decode cX6_sum 10 = .ok (.if_icmp .ge 23, 3) := by decide +kernel
theorem dX6_sum_13 : decode cX6_sum 13 = .ok (.iload 4, 2) := by decide +kernel
theorem dX6_sum_15 : decode cX6_sum 15 = .ok (.aload_n 0, 1) := by decide +kernel
theorem dX6_sum_16 : decode cX6_sum 16 = .ok (.arraylength, 1) := by decide +kernel
theorem dX6_sum_17 : decode cX6_sum 17 = .ok (.if_icmp .ge 16, 3) := by decide +kernel
theorem dX6_sum_20 : decode cX6_sum 20 = .ok (.iload_n 3, 1) := by decide +kernel
theorem dX6_sum_21 : decode cX6_sum 21 = .ok (.aload_n 0, 1) := by decide +kernel
theorem dX6_sum_22 : decode cX6_sum 22 = .ok (.iload 4, 2) := by decide +kernel
theorem dX6_sum_24 : decode cX6_sum 24 = .ok (.iaload, 1) := by decide +kernel
theorem dX6_sum_25 : decode cX6_sum 25 = .ok (.iadd, 1) := by decide +kernel
theorem dX6_sum_26 : decode cX6_sum 26 = .ok (.istore_n 3, 1) := by decide +kernel
theorem dX6_sum_27 : decode cX6_sum 27 = .ok (.iinc 4 1, 3) := by decide +kernel
theorem dX6_sum_30 : decode cX6_sum 30 = .ok (.goto (-25), 3) := by decide +kernel
theorem dX6_sum_33 : decode cX6_sum 33 = .ok (.iload_n 3, 1) := by decide +kernel
theorem dX6_sum_34 : decode cX6_sum 34 = .ok (.ireturn, 1) := by decide +kernel
theorem dX6_mostToAlter_0 : decode cX6_mostToAlter 0 = .ok (.iload_n 0, 1) := by decide +kernel
theorem dX6_mostToAlter_1 : decode cX6_mostToAlter 1 = .ok (.ifCond .ne 5, 3) := by decide +kernel
theorem dX6_mostToAlter_4 : decode cX6_mostToAlter 4 = .ok (.iconst 3, 1) := by decide +kernel
theorem dX6_mostToAlter_5 : decode cX6_mostToAlter 5 = .ok (.ireturn, 1) := by decide +kernel
theorem dX6_mostToAlter_6 : decode cX6_mostToAlter 6 = .ok (.iload_n 0, 1) := by decide +kernel
theorem dX6_mostToAlter_7 : decode cX6_mostToAlter 7 = .ok (.iconst 4, 1) := by decide +kernel
theorem dX6_mostToAlter_8 : decode cX6_mostToAlter 8 = .ok (.if_icmp .ne 8, 3) := by decide +kernel
theorem dX6_mostToAlter_11 : decode cX6_mostToAlter 11 = .ok (.bipush 99, 2) := by decide +kernel
theorem dX6_mostToAlter_13 : decode cX6_mostToAlter 13 = .ok (.goto 5, 3) := by decide +kernel
theorem dX6_mostToAlter_16 : decode cX6_mostToAlter 16 = .ok (.bipush 9, 2) := by decide +kernel
theorem dX6_mostToAlter_18 : decode cX6_mostToAlter 18 = .ok (.ireturn, 1) := by decide +kernel
theorem dX6_seizuresIfLent_0 : decode cX6_seizuresIfLent 0 = .ok (.aload_n 0, 1) := by decide +kernel
theorem dX6_seizuresIfLent_1 : decode cX6_seizuresIfLent 1 = .ok (.getfield 16, 3) := by decide +kernel
theorem dX6_seizuresIfLent_4 : decode cX6_seizuresIfLent 4 = .ok (.aload_n 0, 1) := by decide +kernel
theorem dX6_seizuresIfLent_5 : decode cX6_seizuresIfLent 5 = .ok (.getfield 10, 3) := by decide +kernel
theorem dX6_seizuresIfLent_8 : decode cX6_seizuresIfLent 8 = .ok (.invokevirtual 96, 3) := by decide +kernel
theorem dX6_seizuresIfLent_11 : decode cX6_seizuresIfLent 11 = .ok (.aload_n 0, 1) := by decide +kernel
theorem dX6_seizuresIfLent_12 : decode cX6_seizuresIfLent 12 = .ok (.getfield 16, 3) := by decide +kernel
theorem dX6_seizuresIfLent_15 : decode cX6_seizuresIfLent 15 = .ok (.getfield 156, 3) := by decide +kernel
theorem dX6_seizuresIfLent_18 : decode cX6_seizuresIfLent 18 = .ok (.iload_n 1, 1) := by decide +kernel
theorem dX6_seizuresIfLent_19 : decode cX6_seizuresIfLent 19 = .ok (.iconst 5, 1) := by decide +kernel
theorem dX6_seizuresIfLent_20 : decode cX6_seizuresIfLent 20 = .ok (.imul, 1) := by decide +kernel
theorem dX6_seizuresIfLent_21 : decode cX6_seizuresIfLent 21 = .ok (.iload_n 2, 1) := by decide +kernel
theorem dX6_seizuresIfLent_22 : decode cX6_seizuresIfLent 22 = .ok (.iadd, 1) := by decide +kernel
theorem dX6_seizuresIfLent_23 : decode cX6_seizuresIfLent 23 = .ok (.dup2, 1) := by decide +kernel
theorem dX6_seizuresIfLent_24 : decode cX6_seizuresIfLent 24 = .ok (.iaload, 1) := by decide +kernel
theorem dX6_seizuresIfLent_25 : decode cX6_seizuresIfLent 25 = .ok (.iload_n 3, 1) := by decide +kernel
theorem dX6_seizuresIfLent_26 : decode cX6_seizuresIfLent 26 = .ok (.iadd, 1) := by decide +kernel
theorem dX6_seizuresIfLent_27 : decode cX6_seizuresIfLent 27 = .ok (.iastore, 1) := by decide +kernel
theorem dX6_seizuresIfLent_28 : decode cX6_seizuresIfLent 28 = .ok (.aload_n 0, 1) := by decide +kernel
theorem dX6_seizuresIfLent_29 : decode cX6_seizuresIfLent 29 = .ok (.getfield 16, 3) := by decide +kernel
theorem dX6_seizuresIfLent_32 : decode cX6_seizuresIfLent 32 = .ok (.iload_n 1, 1) := by decide +kernel
theorem dX6_seizuresIfLent_33 : decode cX6_seizuresIfLent 33 = .ok (.bipush 10, 2) := by decide +kernel
theorem dX6_seizuresIfLent_35 : decode cX6_seizuresIfLent 35 = .ok (.invokevirtual 197, 3) := by decide +kernel
theorem dX6_seizuresIfLent_38 : decode cX6_seizuresIfLent 38 = .ok (.aload_n 0, 1) := by decide +kernel
theorem dX6_seizuresIfLent_39 : decode cX6_seizuresIfLent 39 = .ok (.getfield 16, 3) := by decide +kernel
theorem dX6_seizuresIfLent_42 : decode cX6_seizuresIfLent 42 = .ok (.getfield 112, 3) := by decide +kernel
theorem dX6_seizuresIfLent_45 : decode cX6_seizuresIfLent 45 = .ok (.aload_n 0, 1) := by decide +kernel
theorem dX6_seizuresIfLent_46 : decode cX6_seizuresIfLent 46 = .ok (.getfield 10, 3) := by decide +kernel
theorem dX6_seizuresIfLent_49 : decode cX6_seizuresIfLent 49 = .ok (.getfield 112, 3) := by decide +kernel
theorem dX6_seizuresIfLent_52 : decode cX6_seizuresIfLent 52 = .ok (.isub, 1) := by decide +kernel
theorem dX6_seizuresIfLent_53 : decode cX6_seizuresIfLent 53 = .ok (.ireturn, 1) := by decide +kernel
theorem dX6_seizuresIfExchanged_0 : decode cX6_seizuresIfExchanged 0 = .ok (.aload_n 0, 1) := by decide +kernel
theorem dX6_seizuresIfExchanged_1 : decode cX6_seizuresIfExchanged 1 = .ok (.getfield 16, 3) := by decide +kernel
theorem dX6_seizuresIfExchanged_4 : decode cX6_seizuresIfExchanged 4 = .ok (.aload_n 0, 1) := by decide +kernel
theorem dX6_seizuresIfExchanged_5 : decode cX6_seizuresIfExchanged 5 = .ok (.getfield 10, 3) := by decide +kernel
theorem dX6_seizuresIfExchanged_8 : decode cX6_seizuresIfExchanged 8 = .ok (.invokevirtual 96, 3) := by decide +kernel
theorem dX6_seizuresIfExchanged_11 : decode cX6_seizuresIfExchanged 11 = .ok (.iconst 0, 1) := by decide +kernel
theorem dX6_seizuresIfExchanged_12 : decode cX6_seizuresIfExchanged 12 = .ok (.istore_n 3, 1) := by decide +kernel
theorem dX6_seizuresIfExchanged_13 : decode cX6_seizuresIfExchanged 13 = .ok (.iload_n 3, 1) := by decide +kernel
theorem dX6_seizuresIfExchanged_14 : decode cX6_seizuresIfExchanged 14 = .ok (.iconst 5, 1) := by decide +kernel
theorem dX6_seizuresIfExchanged_15 : decode cX6_seizuresIfExchanged 15 = .ok (.if_icmp .ge 61, 3) := by decide +kernel
theorem dX6_seizuresIfExchanged_18 : decode cX6_seizuresIfExchanged 18 = .ok (.aload_n 0, 1) := by decide +kernel
theorem dX6_seizuresIfExchanged_19 : decode cX6_seizuresIfExchanged 19 = .ok (.getfield 16, 3) := by decide +kernel
theorem dX6_seizuresIfExchanged_22 : decode cX6_seizuresIfExchanged 22 = .ok (.getfield 156, 3) := by decide +kernel
theorem dX6_seizuresIfExchanged_25 : decode cX6_seizuresIfExchanged 25 = .ok (.iload_n 1, 1) := by decide +kernel
theorem dX6_seizuresIfExchanged_26 : decode cX6_seizuresIfExchanged 26 = .ok (.iconst 5, 1) := by decide +kernel
theorem dX6_seizuresIfExchanged_27 : decode cX6_seizuresIfExchanged 27 = .ok (.imul, 1) := by decide +kernel
theorem dX6_seizuresIfExchanged_28 : decode cX6_seizuresIfExchanged 28 = .ok (.iload_n 3, 1) := by decide +kernel
theorem dX6_seizuresIfExchanged_29 : decode cX6_seizuresIfExchanged 29 = .ok (.iadd, 1) := by decide +kernel
theorem dX6_seizuresIfExchanged_30 : decode cX6_seizuresIfExchanged 30 = .ok (.aload_n 0, 1) := by decide +kernel
theorem dX6_seizuresIfExchanged_31 : decode cX6_seizuresIfExchanged 31 = .ok (.getfield 10, 3) := by decide +kernel
theorem dX6_seizuresIfExchanged_34 : decode cX6_seizuresIfExchanged 34 = .ok (.getfield 156, 3) := by decide +kernel
theorem dX6_seizuresIfExchanged_37 : decode cX6_seizuresIfExchanged 37 = .ok (.iload_n 2, 1) := by decide +kernel
theorem dX6_seizuresIfExchanged_38 : decode cX6_seizuresIfExchanged 38 = .ok (.iconst 5, 1) := by decide +kernel
theorem dX6_seizuresIfExchanged_39 : decode cX6_seizuresIfExchanged 39 = .ok (.imul, 1) := by decide +kernel
theorem dX6_seizuresIfExchanged_40 : decode cX6_seizuresIfExchanged 40 = .ok (.iload_n 3, 1) := by decide +kernel
theorem dX6_seizuresIfExchanged_41 : decode cX6_seizuresIfExchanged 41 = .ok (.iadd, 1) := by decide +kernel
theorem dX6_seizuresIfExchanged_42 : decode cX6_seizuresIfExchanged 42 = .ok (.iaload, 1) := by decide +kernel
theorem dX6_seizuresIfExchanged_43 : decode cX6_seizuresIfExchanged 43 = .ok (.iastore, 1) := by decide +kernel
theorem dX6_seizuresIfExchanged_44 : decode cX6_seizuresIfExchanged 44 = .ok (.aload_n 0, 1) := by decide +kernel
theorem dX6_seizuresIfExchanged_45 : decode cX6_seizuresIfExchanged 45 = .ok (.getfield 16, 3) := by decide +kernel
theorem dX6_seizuresIfExchanged_48 : decode cX6_seizuresIfExchanged 48 = .ok (.getfield 156, 3) := by decide +kernel
theorem dX6_seizuresIfExchanged_51 : decode cX6_seizuresIfExchanged 51 = .ok (.iload_n 2, 1) := by decide +kernel
theorem dX6_seizuresIfExchanged_52 : decode cX6_seizuresIfExchanged 52 = .ok (.iconst 5, 1) := by decide +kernel
theorem dX6_seizuresIfExchanged_53 : decode cX6_seizuresIfExchanged 53 = .ok (.imul, 1) := by decide +kernel
theorem dX6_seizuresIfExchanged_54 : decode cX6_seizuresIfExchanged 54 = .ok (.iload_n 3, 1) := by decide +kernel
theorem dX6_seizuresIfExchanged_55 : decode cX6_seizuresIfExchanged 55 = .ok (.iadd, 1) := by decide +kernel
theorem dX6_seizuresIfExchanged_56 : decode cX6_seizuresIfExchanged 56 = .ok (.aload_n 0, 1) := by decide +kernel
theorem dX6_seizuresIfExchanged_57 : decode cX6_seizuresIfExchanged 57 = .ok (.getfield 10, 3) := by decide +kernel
theorem dX6_seizuresIfExchanged_60 : decode cX6_seizuresIfExchanged 60 = .ok (.getfield 156, 3) := by decide +kernel
theorem dX6_seizuresIfExchanged_63 : decode cX6_seizuresIfExchanged 63 = .ok (.iload_n 1, 1) := by decide +kernel
theorem dX6_seizuresIfExchanged_64 : decode cX6_seizuresIfExchanged 64 = .ok (.iconst 5, 1) := by decide +kernel
theorem dX6_seizuresIfExchanged_65 : decode cX6_seizuresIfExchanged 65 = .ok (.imul, 1) := by decide +kernel
theorem dX6_seizuresIfExchanged_66 : decode cX6_seizuresIfExchanged 66 = .ok (.iload_n 3, 1) := by decide +kernel
theorem dX6_seizuresIfExchanged_67 : decode cX6_seizuresIfExchanged 67 = .ok (.iadd, 1) := by decide +kernel
theorem dX6_seizuresIfExchanged_68 : decode cX6_seizuresIfExchanged 68 = .ok (.iaload, 1) := by decide +kernel
theorem dX6_seizuresIfExchanged_69 : decode cX6_seizuresIfExchanged 69 = .ok (.iastore, 1) := by decide +kernel
theorem dX6_seizuresIfExchanged_70 : decode cX6_seizuresIfExchanged 70 = .ok (.iinc 3 1, 3) := by decide +kernel
theorem dX6_seizuresIfExchanged_73 : decode cX6_seizuresIfExchanged 73 = .ok (.goto (-60), 3) := by decide +kernel
theorem dX6_seizuresIfExchanged_76 : decode cX6_seizuresIfExchanged 76 = .ok (.aload_n 0, 1) := by decide +kernel
theorem dX6_seizuresIfExchanged_77 : decode cX6_seizuresIfExchanged 77 = .ok (.getfield 16, 3) := by decide +kernel
theorem dX6_seizuresIfExchanged_80 : decode cX6_seizuresIfExchanged 80 = .ok (.bipush 20, 2) := by decide +kernel
theorem dX6_seizuresIfExchanged_82 : decode cX6_seizuresIfExchanged 82 = .ok (.invokevirtual 187, 3) := by decide +kernel
theorem dX6_seizuresIfExchanged_85 : decode cX6_seizuresIfExchanged 85 = .ok (.aload_n 0, 1) := by decide +kernel
theorem dX6_seizuresIfExchanged_86 : decode cX6_seizuresIfExchanged 86 = .ok (.getfield 16, 3) := by decide +kernel
theorem dX6_seizuresIfExchanged_89 : decode cX6_seizuresIfExchanged 89 = .ok (.getfield 112, 3) := by decide +kernel
theorem dX6_seizuresIfExchanged_92 : decode cX6_seizuresIfExchanged 92 = .ok (.aload_n 0, 1) := by decide +kernel
theorem dX6_seizuresIfExchanged_93 : decode cX6_seizuresIfExchanged 93 = .ok (.getfield 10, 3) := by decide +kernel
theorem dX6_seizuresIfExchanged_96 : decode cX6_seizuresIfExchanged 96 = .ok (.getfield 112, 3) := by decide +kernel
theorem dX6_seizuresIfExchanged_99 : decode cX6_seizuresIfExchanged 99 = .ok (.isub, 1) := by decide +kernel
theorem dX6_seizuresIfExchanged_100 : decode cX6_seizuresIfExchanged 100 = .ok (.ireturn, 1) := by decide +kernel
theorem dX6_keepsAll_0 : decode cX6_keepsAll 0 = .ok (.aload_n 0, 1) := by decide +kernel
theorem dX6_keepsAll_1 : decode cX6_keepsAll 1 = .ok (.getfield 16, 3) := by decide +kernel
theorem dX6_keepsAll_4 : decode cX6_keepsAll 4 = .ok (.aload_n 0, 1) := by decide +kernel
theorem dX6_keepsAll_5 : decode cX6_keepsAll 5 = .ok (.getfield 10, 3) := by decide +kernel
theorem dX6_keepsAll_8 : decode cX6_keepsAll 8 = .ok (.invokevirtual 96, 3) := by decide +kernel
theorem dX6_keepsAll_11 : decode cX6_keepsAll 11 = .ok (.aload_n 0, 1) := by decide +kernel
theorem dX6_keepsAll_12 : decode cX6_keepsAll 12 = .ok (.getfield 16, 3) := by decide +kernel
theorem dX6_keepsAll_15 : decode cX6_keepsAll 15 = .ok (.getfield 147, 3) := by decide +kernel
theorem dX6_keepsAll_18 : decode cX6_keepsAll 18 = .ok (.iload_n 1, 1) := by decide +kernel
theorem dX6_keepsAll_19 : decode cX6_keepsAll 19 = .ok (.iload_n 3, 1) := by decide +kernel
theorem dX6_keepsAll_20 : decode cX6_keepsAll 20 = .ok (.iastore, 1) := by decide +kernel
theorem dX6_keepsAll_21 : decode cX6_keepsAll 21 = .ok (.iconst 0, 1) := by decide +kernel
theorem dX6_keepsAll_22 : decode cX6_keepsAll 22 = .ok (.istore 4, 2) := by decide +kernel
theorem dX6_keepsAll_24 : decode cX6_keepsAll 24 = .ok (.iload 4, 2) := by decide +kernel
theorem dX6_keepsAll_26 : decode cX6_keepsAll 26 = .ok (.iload_n 2, 1) := by decide +kernel
theorem dX6_keepsAll_27 : decode cX6_keepsAll 27 = .ok (.if_icmp .ge 37, 3) := by decide +kernel
theorem dX6_keepsAll_30 : decode cX6_keepsAll 30 = .ok (.aload_n 0, 1) := by decide +kernel
theorem dX6_keepsAll_31 : decode cX6_keepsAll 31 = .ok (.getfield 16, 3) := by decide +kernel
theorem dX6_keepsAll_34 : decode cX6_keepsAll 34 = .ok (.iload_n 1, 1) := by decide +kernel
theorem dX6_keepsAll_35 : decode cX6_keepsAll 35 = .ok (.iconst 1, 1) := by decide +kernel
theorem dX6_keepsAll_36 : decode cX6_keepsAll 36 = .ok (.invokevirtual 201, 3) := by decide +kernel
theorem dX6_keepsAll_39 : decode cX6_keepsAll 39 = .ok (.aload_n 0, 1) := by decide +kernel
theorem dX6_keepsAll_40 : decode cX6_keepsAll 40 = .ok (.getfield 16, 3) := by decide +kernel
theorem dX6_keepsAll_43 : decode cX6_keepsAll 43 = .ok (.getfield 112, 3) := by decide +kernel
theorem dX6_keepsAll_46 : decode cX6_keepsAll 46 = .ok (.aload_n 0, 1) := by decide +kernel
theorem dX6_keepsAll_47 : decode cX6_keepsAll 47 = .ok (.getfield 10, 3) := by decide +kernel
theorem dX6_keepsAll_50 : decode cX6_keepsAll 50 = .ok (.getfield 112, 3) := by decide +kernel
theorem dX6_keepsAll_53 : decode cX6_keepsAll 53 = .ok (.if_icmp .le 5, 3) := by decide +kernel
theorem dX6_keepsAll_56 : decode cX6_keepsAll 56 = .ok (.iconst 0, 1) := by decide +kernel
theorem dX6_keepsAll_57 : decode cX6_keepsAll 57 = .ok (.ireturn, 1) := by decide +kernel
theorem dX6_keepsAll_58 : decode cX6_keepsAll 58 = .ok (.iinc 4 1, 3) := by decide +kernel
theorem dX6_keepsAll_61 : decode cX6_keepsAll 61 = .ok (.goto (-37), 3) := by decide +kernel
theorem dX6_keepsAll_64 : decode cX6_keepsAll 64 = .ok (.iconst 1, 1) := by decide +kernel
theorem dX6_keepsAll_65 : decode cX6_keepsAll 65 = .ok (.ireturn, 1) := by decide +kernel
theorem dX6_kindsLeft_0 : decode cX6_kindsLeft 0 = .ok (.iconst 0, 1) := by decide +kernel
theorem dX6_kindsLeft_1 : decode cX6_kindsLeft 1 = .ok (.istore_n 2, 1) := by decide +kernel
theorem dX6_kindsLeft_2 : decode cX6_kindsLeft 2 = .ok (.iconst 0, 1) := by decide +kernel
theorem dX6_kindsLeft_3 : decode cX6_kindsLeft 3 = .ok (.istore_n 3, 1) := by decide +kernel
theorem dX6_kindsLeft_4 : decode cX6_kindsLeft 4 = .ok (.iload_n 3, 1) := by decide +kernel
theorem dX6_kindsLeft_5 : decode cX6_kindsLeft 5 = .ok (.iconst 4, 1) := by decide +kernel
theorem dX6_kindsLeft_6 : decode cX6_kindsLeft 6 = .ok (.if_icmp .ge 50, 3) := by decide +kernel
theorem dX6_kindsLeft_9 : decode cX6_kindsLeft 9 = .ok (.aload_n 0, 1) := by decide +kernel
theorem dX6_kindsLeft_10 : decode cX6_kindsLeft 10 = .ok (.getfield 16, 3) := by decide +kernel
theorem dX6_kindsLeft_13 : decode cX6_kindsLeft 13 = .ok (.aload_n 0, 1) := by decide +kernel
theorem dX6_kindsLeft_14 : decode cX6_kindsLeft 14 = .ok (.getfield 10, 3) := by decide +kernel
theorem dX6_kindsLeft_17 : decode cX6_kindsLeft 17 = .ok (.invokevirtual 96, 3) := by decide +kernel
theorem dX6_kindsLeft_20 : decode cX6_kindsLeft 20 = .ok (.aload_n 0, 1) := by decide +kernel
theorem dX6_kindsLeft_21 : decode cX6_kindsLeft 21 = .ok (.getfield 16, 3) := by decide +kernel
theorem dX6_kindsLeft_24 : decode cX6_kindsLeft 24 = .ok (.getfield 125, 3) := by decide +kernel
theorem dX6_kindsLeft_27 : decode cX6_kindsLeft 27 = .ok (.iload_n 1, 1) := by decide +kernel
theorem dX6_kindsLeft_28 : decode cX6_kindsLeft 28 = .ok (.iload_n 3, 1) := by decide +kernel
theorem dX6_kindsLeft_29 : decode cX6_kindsLeft 29 = .ok (.iastore, 1) := by decide +kernel
theorem dX6_kindsLeft_30 : decode cX6_kindsLeft 30 = .ok (.aload_n 0, 1) := by decide +kernel
theorem dX6_kindsLeft_31 : decode cX6_kindsLeft 31 = .ok (.getfield 44, 3) := by decide +kernel
theorem dX6_kindsLeft_34 : decode cX6_kindsLeft 34 = .ok (.aload_n 0, 1) := by decide +kernel
theorem dX6_kindsLeft_35 : decode cX6_kindsLeft 35 = .ok (.getfield 16, 3) := by decide +kernel
theorem dX6_kindsLeft_38 : decode cX6_kindsLeft 38 = .ok (.invokevirtual 253, 3) := by decide +kernel
theorem dX6_kindsLeft_41 : decode cX6_kindsLeft 41 = .ok (.ifCond .eq 9, 3) := by decide +kernel
theorem dX6_kindsLeft_44 : decode cX6_kindsLeft 44 = .ok (.iload_n 2, 1) := by decide +kernel
theorem dX6_kindsLeft_45 : decode cX6_kindsLeft 45 = .ok (.iconst 1, 1) := by decide +kernel
theorem dX6_kindsLeft_46 : decode cX6_kindsLeft 46 = .ok (.iload_n 3, 1) := by decide +kernel
theorem dX6_kindsLeft_47 : decode cX6_kindsLeft 47 = .ok (.ishl, 1) := by decide +kernel
theorem dX6_kindsLeft_48 : decode cX6_kindsLeft 48 = .ok (.ior, 1) := by decide +kernel
theorem dX6_kindsLeft_49 : decode cX6_kindsLeft 49 = .ok (.istore_n 2, 1) := by decide +kernel
theorem dX6_kindsLeft_50 : decode cX6_kindsLeft 50 = .ok (.iinc 3 1, 3) := by decide +kernel
theorem dX6_kindsLeft_53 : decode cX6_kindsLeft 53 = .ok (.goto (-49), 3) := by decide +kernel
theorem dX6_kindsLeft_56 : decode cX6_kindsLeft 56 = .ok (.iload_n 2, 1) := by decide +kernel
theorem dX6_kindsLeft_57 : decode cX6_kindsLeft 57 = .ok (.ireturn, 1) := by decide +kernel
theorem dX6_worstLeft_0 : decode cX6_worstLeft 0 = .ok (.iconst 0, 1) := by decide +kernel
theorem dX6_worstLeft_1 : decode cX6_worstLeft 1 = .ok (.istore_n 3, 1) := by decide +kernel
theorem dX6_worstLeft_2 : decode cX6_worstLeft 2 = .ok (.iload_n 3, 1) := by decide +kernel
theorem dX6_worstLeft_3 : decode cX6_worstLeft 3 = .ok (.iconst 4, 1) := by decide +kernel
theorem dX6_worstLeft_4 : decode cX6_worstLeft 4 = .ok (.if_icmp .ge 25, 3) := by decide +kernel
theorem dX6_worstLeft_7 : decode cX6_worstLeft 7 = .ok (.aload_n 0, 1) := by decide +kernel
theorem dX6_worstLeft_8 : decode cX6_worstLeft 8 = .ok (.getfield 30, 3) := by decide +kernel
theorem dX6_worstLeft_11 : decode cX6_worstLeft 11 = .ok (.iload_n 3, 1) := by decide +kernel
theorem dX6_worstLeft_12 : decode cX6_worstLeft 12 = .ok (.aload_n 0, 1) := by decide +kernel
theorem dX6_worstLeft_13 : decode cX6_worstLeft 13 = .ok (.getfield 27, 3) := by decide +kernel
theorem dX6_worstLeft_16 : decode cX6_worstLeft 16 = .ok (.iload_n 3, 1) := by decide +kernel
theorem dX6_worstLeft_17 : decode cX6_worstLeft 17 = .ok (.aaload, 1) := by decide +kernel
theorem dX6_worstLeft_18 : decode cX6_worstLeft 18 = .ok (.iload_n 2, 1) := by decide +kernel
theorem dX6_worstLeft_19 : decode cX6_worstLeft 19 = .ok (.invokevirtual 150, 3) := by decide +kernel
theorem dX6_worstLeft_22 : decode cX6_worstLeft 22 = .ok (.iastore, 1) := by decide +kernel
theorem dX6_worstLeft_23 : decode cX6_worstLeft 23 = .ok (.iinc 3 1, 3) := by decide +kernel
theorem dX6_worstLeft_26 : decode cX6_worstLeft 26 = .ok (.goto (-24), 3) := by decide +kernel
theorem dX6_worstLeft_29 : decode cX6_worstLeft 29 = .ok (.iconst 0, 1) := by decide +kernel
theorem dX6_worstLeft_30 : decode cX6_worstLeft 30 = .ok (.istore_n 3, 1) := by decide +kernel
theorem dX6_worstLeft_31 : decode cX6_worstLeft 31 = .ok (.iconst 0, 1) := by decide +kernel
theorem dX6_worstLeft_32 : decode cX6_worstLeft 32 = .ok (.istore 4, 2) := by decide +kernel
theorem dX6_worstLeft_34 : decode cX6_worstLeft 34 = .ok (.iload 4, 2) := by decide +kernel
theorem dX6_worstLeft_36 : decode cX6_worstLeft 36 = .ok (.iconst 4, 1) := by decide +kernel
theorem dX6_worstLeft_37 : decode cX6_worstLeft 37 = .ok (.if_icmp .ge 72, 3) := by decide +kernel
theorem dX6_worstLeft_40 : decode cX6_worstLeft 40 = .ok (.iconst 0, 1) := by decide +kernel
theorem dX6_worstLeft_41 : decode cX6_worstLeft 41 = .ok (.istore 5, 2) := by decide +kernel
theorem dX6_worstLeft_43 : decode cX6_worstLeft 43 = .ok (.iconst 0, 1) := by decide +kernel
theorem dX6_worstLeft_44 : decode cX6_worstLeft 44 = .ok (.istore 6, 2) := by decide +kernel
theorem dX6_worstLeft_46 : decode cX6_worstLeft 46 = .ok (.iload 6, 2) := by decide +kernel
theorem dX6_worstLeft_48 : decode cX6_worstLeft 48 = .ok (.iconst 4, 1) := by decide +kernel
theorem dX6_worstLeft_49 : decode cX6_worstLeft 49 = .ok (.if_icmp .ge 47, 3) := by decide +kernel
theorem dX6_worstLeft_52 : decode cX6_worstLeft 52 = .ok (.iload_n 1, 1) := by decide +kernel
theorem dX6_worstLeft_53 : decode cX6_worstLeft 53 = .ok (.iload 4, 2) := by decide +kernel
theorem dX6_worstLeft_55 : decode cX6_worstLeft 55 = .ok (.invokestatic 294, 3) := by decide +kernel
theorem dX6_worstLeft_58 : decode cX6_worstLeft 58 = .ok (.ifCond .eq 32, 3) := by decide +kernel
theorem dX6_worstLeft_61 : decode cX6_worstLeft 61 = .ok (.iload_n 1, 1) := by decide +kernel
theorem dX6_worstLeft_62 : decode cX6_worstLeft 62 = .ok (.iload 6, 2) := by decide +kernel
theorem dX6_worstLeft_64 : decode cX6_worstLeft 64 = .ok (.invokestatic 294, 3) := by decide +kernel
theorem dX6_worstLeft_67 : decode cX6_worstLeft 67 = .ok (.ifCond .eq 23, 3) := by decide +kernel
theorem dX6_worstLeft_70 : decode cX6_worstLeft 70 = .ok (.aload_n 0, 1) := by decide +kernel
theorem dX6_worstLeft_71 : decode cX6_worstLeft 71 = .ok (.getfield 30, 3) := by decide +kernel
theorem dX6_worstLeft_74 : decode cX6_worstLeft 74 = .ok (.iload 6, 2) := by decide +kernel
theorem dX6_worstLeft_76 : decode cX6_worstLeft 76 = .ok (.iaload, 1) := by decide +kernel
theorem dX6_worstLeft_77 : decode cX6_worstLeft 77 = .ok (.aload_n 0, 1) := by decide +kernel
theorem dX6_worstLeft_78 : decode cX6_worstLeft 78 = .ok (.getfield 30, 3) := by decide +kernel
theorem dX6_worstLeft_81 : decode cX6_worstLeft 81 = .ok (.iload 4, 2) := by decide +kernel
theorem dX6_worstLeft_83 : decode cX6_worstLeft 83 = .ok (.iaload, 1) := by decide +kernel
theorem dX6_worstLeft_84 : decode cX6_worstLeft 84 = .ok (.if_icmp .ne 6, 3) := by decide +kernel
theorem dX6_worstLeft_87 : decode cX6_worstLeft 87 = .ok (.iinc 5 1, 3) := by decide +kernel
theorem dX6_worstLeft_90 : decode cX6_worstLeft 90 = .ok (.iinc 6 1, 3) := by decide +kernel
theorem dX6_worstLeft_93 : decode cX6_worstLeft 93 = .ok (.goto (-47), 3) := by decide +kernel
theorem dX6_worstLeft_96 : decode cX6_worstLeft 96 = .ok (.iload_n 3, 1) := by decide +kernel
theorem dX6_worstLeft_97 : decode cX6_worstLeft 97 = .ok (.iload 5, 2) := by decide +kernel
theorem dX6_worstLeft_99 : decode cX6_worstLeft 99 = .ok (.invokestatic 298, 3) := by decide +kernel
theorem dX6_worstLeft_102 : decode cX6_worstLeft 102 = .ok (.istore_n 3, 1) := by decide +kernel
theorem dX6_worstLeft_103 : decode cX6_worstLeft 103 = .ok (.iinc 4 1, 3) := by decide +kernel
theorem dX6_worstLeft_106 : decode cX6_worstLeft 106 = .ok (.goto (-72), 3) := by decide +kernel
theorem dX6_worstLeft_109 : decode cX6_worstLeft 109 = .ok (.iload_n 3, 1) := by decide +kernel
theorem dX6_worstLeft_110 : decode cX6_worstLeft 110 = .ok (.ireturn, 1) := by decide +kernel
theorem dX6_lendOnTrial_0 : decode cX6_lendOnTrial 0 = .ok (.iload_n 2, 1) := by decide +kernel
theorem dX6_lendOnTrial_1 : decode cX6_lendOnTrial 1 = .ok (.ifCond .lt 11, 3) := by decide +kernel
theorem dX6_lendOnTrial_4 : decode cX6_lendOnTrial 4 = .ok (.iload_n 2, 1) := by decide +kernel
theorem dX6_lendOnTrial_5 : decode cX6_lendOnTrial 5 = .ok (.aload_n 1, 1) := by decide +kernel
theorem dX6_lendOnTrial_6 : decode cX6_lendOnTrial 6 = .ok (.arraylength, 1) := by decide +kernel
theorem dX6_lendOnTrial_7 : decode cX6_lendOnTrial 7 = .ok (.iconst 3, 1) := by decide +kernel
theorem dX6_lendOnTrial_8 : decode cX6_lendOnTrial 8 = .ok (.isub, 1) := by decide +kernel
theorem dX6_lendOnTrial_9 : decode cX6_lendOnTrial 9 = .ok (.if_icmp .le 5, 3) := by decide +kernel
theorem dX6_lendOnTrial_12 : decode cX6_lendOnTrial 12 = .ok (.iconst 0, 1) := by decide +kernel
theorem dX6_lendOnTrial_13 : decode cX6_lendOnTrial 13 = .ok (.ireturn, 1) := by decide +kernel
theorem dX6_lendOnTrial_14 : decode cX6_lendOnTrial 14 = .ok (.aload_n 0, 1) := by decide +kernel
theorem dX6_lendOnTrial_15 : decode cX6_lendOnTrial 15 = .ok (.getfield 16, 3) := by decide +kernel
theorem dX6_lendOnTrial_18 : decode cX6_lendOnTrial 18 = .ok (.aload_n 1, 1) := by decide +kernel
theorem dX6_lendOnTrial_19 : decode cX6_lendOnTrial 19 = .ok (.iload_n 2, 1) := by decide +kernel
theorem dX6_lendOnTrial_20 : decode cX6_lendOnTrial 20 = .ok (.iaload, 1) := by decide +kernel
theorem dX6_lendOnTrial_21 : decode cX6_lendOnTrial 21 = .ok (.aload_n 1, 1) := by decide +kernel
theorem dX6_lendOnTrial_22 : decode cX6_lendOnTrial 22 = .ok (.iload_n 2, 1) := by decide +kernel
theorem dX6_lendOnTrial_23 : decode cX6_lendOnTrial 23 = .ok (.iconst 1, 1) := by decide +kernel
theorem dX6_lendOnTrial_24 : decode cX6_lendOnTrial 24 = .ok (.iadd, 1) := by decide +kernel
theorem dX6_lendOnTrial_25 : decode cX6_lendOnTrial 25 = .ok (.iaload, 1) := by decide +kernel
theorem dX6_lendOnTrial_26 : decode cX6_lendOnTrial 26 = .ok (.aload_n 1, 1) := by decide +kernel
theorem dX6_lendOnTrial_27 : decode cX6_lendOnTrial 27 = .ok (.iload_n 2, 1) := by decide +kernel
theorem dX6_lendOnTrial_28 : decode cX6_lendOnTrial 28 = .ok (.iconst 2, 1) := by decide +kernel
theorem dX6_lendOnTrial_29 : decode cX6_lendOnTrial 29 = .ok (.iadd, 1) := by decide +kernel
theorem dX6_lendOnTrial_30 : decode cX6_lendOnTrial 30 = .ok (.iaload, 1) := by decide +kernel
theorem dX6_lendOnTrial_31 : decode cX6_lendOnTrial 31 = .ok (.invokevirtual 179, 3) := by decide +kernel
theorem dX6_lendOnTrial_34 : decode cX6_lendOnTrial 34 = .ok (.ifCond .lt 7, 3) := by decide +kernel
theorem dX6_lendOnTrial_37 : decode cX6_lendOnTrial 37 = .ok (.iconst 1, 1) := by decide +kernel
theorem dX6_lendOnTrial_38 : decode cX6_lendOnTrial 38 = .ok (.goto 4, 3) := by decide +kernel
theorem dX6_lendOnTrial_41 : decode cX6_lendOnTrial 41 = .ok (.iconst 0, 1) := by decide +kernel
theorem dX6_lendOnTrial_42 : decode cX6_lendOnTrial 42 = .ok (.ireturn, 1) := by decide +kernel
end
section
theorem dX7_init_0 : decode cX7_init 0 = .ok (.aload_n 0, 1) := by decide +kernel
theorem dX7_init_1 : decode cX7_init 1 = .ok (.invokespecial 1, 3) := by decide +kernel
theorem dX7_init_4 : decode cX7_init 4 = .ok (.aload_n 0, 1) := by decide +kernel
theorem dX7_init_5 : decode cX7_init 5 = .ok (.sipush 330, 3) := by decide +kernel
theorem dX7_init_8 : decode cX7_init 8 = .ok (.newarray .int, 2) := by decide +kernel
theorem dX7_init_10 : decode cX7_init 10 = .ok (.putfield 7, 3) := by decide +kernel
theorem dX7_init_13 : decode cX7_init 13 = .ok (.aload_n 0, 1) := by decide +kernel
theorem dX7_init_14 : decode cX7_init 14 = .ok (.bipush 55, 2) := by decide +kernel
theorem dX7_init_16 : decode cX7_init 16 = .ok (.newarray .int, 2) := by decide +kernel
theorem dX7_init_18 : decode cX7_init 18 = .ok (.putfield 13, 3) := by decide +kernel
theorem dX7_init_21 : decode cX7_init 21 = .ok (.aload_n 0, 1) := by decide +kernel
theorem dX7_init_22 : decode cX7_init 22 = .ok (.sipush 160, 3) := by decide +kernel
theorem dX7_init_25 : decode cX7_init 25 = .ok (.newarray .int, 2) := by decide +kernel
theorem dX7_init_27 : decode cX7_init 27 = .ok (.putfield 16, 3) := by decide +kernel
theorem dX7_init_30 : decode cX7_init 30 = .ok (.aload_n 0, 1) := by decide +kernel
theorem dX7_init_31 : decode cX7_init 31 = .ok (.bipush 7, 2) := by decide +kernel
theorem dX7_init_33 : decode cX7_init 33 = .ok (.newarray .int, 2) := by decide +kernel
theorem dX7_init_35 : decode cX7_init 35 = .ok (.dup, 1) := by decide +kernel
theorem dX7_init_36 : decode cX7_init 36 = .ok (.iconst 0, 1) := by decide +kernel
theorem dX7_init_37 : decode cX7_init 37 = .ok (.iconst 0, 1) := by decide +kernel
theorem dX7_init_38 : decode cX7_init 38 = .ok (.iastore, 1) := by decide +kernel
theorem dX7_init_39 : decode cX7_init 39 = .ok (.dup, 1) := by decide +kernel
theorem dX7_init_40 : decode cX7_init 40 = .ok (.iconst 1, 1) := by decide +kernel
theorem dX7_init_41 : decode cX7_init 41 = .ok (.iconst 5, 1) := by decide +kernel
theorem dX7_init_42 : decode cX7_init 42 = .ok (.iastore, 1) := by decide +kernel
theorem dX7_init_43 : decode cX7_init 43 = .ok (.dup, 1) := by decide +kernel
theorem dX7_init_44 : decode cX7_init 44 = .ok (.iconst 2, 1) := by decide +kernel
theorem dX7_init_45 : decode cX7_init 45 = .ok (.bipush 12, 2) := by decide +kernel
theorem dX7_init_47 : decode cX7_init 47 = .ok (.iastore, 1) := by decide +kernel
theorem dX7_init_48 : decode cX7_init 48 = .ok (.dup, 1) := by decide +kernel
theorem dX7_init_49 : decode cX7_init 49 = .ok (.iconst 3, 1) := by decide +kernel
theorem dX7_init_50 : decode cX7_init 50 = .ok (.bipush 17, 2) := by decide +kernel
theorem dX7_init_52 : decode cX7_init 52 = .ok (.iastore, 1) := by decide +kernel
theorem dX7_init_53 : decode cX7_init 53 = .ok (.dup, 1) := by decide +kernel
theorem dX7_init_54 : decode cX7_init 54 = .ok (.iconst 4, 1) := by decide +kernel
theorem dX7_init_55 : decode cX7_init 55 = .ok (.bipush 25, 2) := by decide +kernel
theorem dX7_init_57 : decode cX7_init 57 = .ok (.iastore, 1) := by decide +kernel
theorem dX7_init_58 : decode cX7_init 58 = .ok (.dup, 1) := by decide +kernel
theorem dX7_init_59 : decode cX7_init 59 = .ok (.iconst 5, 1) := by decide +kernel
theorem dX7_init_60 : decode cX7_init 60 = .ok (.bipush 28, 2) := by decide +kernel
theorem dX7_init_62 : decode cX7_init 62 = .ok (.iastore, 1) := by decide +kernel
theorem dX7_init_63 : decode cX7_init 63 = .ok (.dup, 1) := by decide +kernel
theorem dX7_init_64 : decode cX7_init 64 = .ok (.bipush 6, 2) := by decide +kernel
theorem dX7_init_66 : decode cX7_init 66 = .ok (.bipush 32, 2) := by decide +kernel
theorem dX7_init_68 : decode cX7_init 68 = .ok (.iastore, 1) := by decide +kernel
theorem dX7_init_69 : decode cX7_init 69 = .ok (.putfield 19, 3) := by decide +kernel
theorem dX7_init_72 : decode cX7_init 72 = .ok (.aload_n 0, 1) := by decide +kernel
theorem dX7_init_73 : decode cX7_init 73 = .ok (.bipush 32, 2) := by decide +kernel
theorem dX7_init_75 : decode cX7_init 75 = .ok (.newarray .int, 2) := by decide +kernel
theorem dX7_init_77 : decode cX7_init 77 = .ok (.dup, 1) := by decide +kernel
theorem dX7_init_78 : decode cX7_init 78 = .ok (.iconst 0, 1) := by decide +kernel
theorem dX7_init_79 : decode cX7_init 79 = .ok (.bipush 112, 2) := by decide +kernel
theorem dX7_init_81 : decode cX7_init 81 = .ok (.iastore, 1) := by decide +kernel
theorem dX7_init_82 : decode cX7_init 82 = .ok (.dup, 1) := by decide +kernel
theorem dX7_init_83 : decode cX7_init 83 = .ok (.iconst 1, 1) := by decide +kernel
theorem dX7_init_84 : decode cX7_init 84 = .ok (.bipush 108, 2) := by decide +kernel
theorem dX7_init_86 : decode cX7_init 86 = .ok (.iastore, 1) := by decide +kernel
theorem dX7_init_87 : decode cX7_init 87 = .ok (.dup, 1) := by decide +kernel
theorem dX7_init_88 : decode cX7_init 88 = .ok (.iconst 2, 1) := by decide +kernel
theorem dX7_init_89 : decode cX7_init 89 = .ok (.bipush 97, 2) := by decide +kernel
theorem dX7_init_91 : decode cX7_init 91 = .ok (.iastore, 1) := by decide +kernel
theorem dX7_init_92 : decode cX7_init 92 = .ok (.dup, 1) := by decide +kernel
theorem dX7_init_93 : decode cX7_init 93 = .ok (.iconst 3, 1) := by decide +kernel
theorem dX7_init_94 : decode cX7_init 94 = .ok (.bipush 105, 2) := by decide +kernel
theorem dX7_init_96 : decode cX7_init 96 = .ok (.iastore, 1) := by decide +kernel
theorem dX7_init_97 : decode cX7_init 97 = .ok (.dup, 1) := by decide +kernel
theorem dX7_init_98 : decode cX7_init 98 = .ok (.iconst 4, 1) := by decide +kernel
theorem dX7_init_99 : decode cX7_init 99 = .ok (.bipush 110, 2) := by decide +kernel
theorem dX7_init_101 : decode cX7_init 101 = .ok (.iastore, 1) := by decide +kernel
theorem dX7_init_102 : decode cX7_init 102 = .ok (.dup, 1) := by decide +kernel
theorem dX7_init_103 : decode cX7_init 103 = .ok (.iconst 5, 1) := by decide +kernel
theorem dX7_init_104 : decode cX7_init 104 = .ok (.bipush 108, 2) := by decide +kernel
theorem dX7_init_106 : decode cX7_init 106 = .ok (.iastore, 1) := by decide +kernel
theorem dX7_init_107 : decode cX7_init 107 = .ok (.dup, 1) := by decide +kernel
theorem dX7_init_108 : decode cX7_init 108 = .ok (.bipush 6, 2) := by decide +kernel
theorem dX7_init_110 : decode cX7_init 110 = .ok (.bipush 97, 2) := by decide +kernel
theorem dX7_init_112 : decode cX7_init 112 = .ok (.iastore, 1) := by decide +kernel
theorem dX7_init_113 : decode cX7_init 113 = .ok (.dup, 1) := by decide +kernel
theorem dX7_init_114 : decode cX7_init 114 = .ok (.bipush 7, 2) := by decide +kernel
theorem dX7_init_116 : decode cX7_init 116 = .ok (.bipush 115, 2) := by decide +kernel
theorem dX7_init_118 : decode cX7_init 118 = .ok (.iastore, 1) := by decide +kernel
theorem dX7_init_119 : decode cX7_init 119 = .ok (.dup, 1) := by decide +kernel
theorem dX7_init_120 : decode cX7_init 120 = .ok (.bipush 8, 2) := by decide +kernel
theorem dX7_init_122 : decode cX7_init 122 = .ok (.bipush 116, 2) := by decide +kernel
theorem dX7_init_124 : decode cX7_init 124 = .ok (.iastore, 1) := by decide +kernel
theorem dX7_init_125 : decode cX7_init 125 = .ok (.dup, 1) := by decide +kernel
theorem dX7_init_126 : decode cX7_init 126 = .ok (.bipush 9, 2) := by decide +kernel
theorem dX7_init_128 : decode cX7_init 128 = .ok (.bipush 105, 2) := by decide +kernel
theorem dX7_init_130 : decode cX7_init 130 = .ok (.iastore, 1) := by decide +kernel
theorem dX7_init_131 : decode cX7_init 131 = .ok (.dup, 1) := by decide +kernel
theorem dX7_init_132 : decode cX7_init 132 = .ok (.bipush 10, 2) := by decide +kernel
theorem dX7_init_134 : decode cX7_init 134 = .ok (.bipush 110, 2) := by decide +kernel
theorem dX7_init_136 : decode cX7_init 136 = .ok (.iastore, 1) := by decide +kernel
theorem dX7_init_137 : decode cX7_init 137 = .ok (.dup, 1) := by decide +kernel
theorem dX7_init_138 : decode cX7_init 138 = .ok (.bipush 11, 2) := by decide +kernel
theorem dX7_init_140 : decode cX7_init 140 = .ok (.bipush 103, 2) := by decide +kernel
theorem dX7_init_142 : decode cX7_init 142 = .ok (.iastore, 1) := by decide +kernel
theorem dX7_init_143 : decode cX7_init 143 = .ok (.dup, 1) := by decide +kernel
theorem dX7_init_144 : decode cX7_init 144 = .ok (.bipush 12, 2) := by decide +kernel
theorem dX7_init_146 : decode cX7_init 146 = .ok (.bipush 114, 2) := by decide +kernel
theorem dX7_init_148 : decode cX7_init 148 = .ok (.iastore, 1) := by decide +kernel
theorem dX7_init_149 : decode cX7_init 149 = .ok (.dup, 1) := by decide +kernel
theorem dX7_init_150 : decode cX7_init 150 = .ok (.bipush 13, 2) := by decide +kernel
theorem dX7_init_152 : decode cX7_init 152 = .ok (.bipush 111, 2) := by decide +kernel
theorem dX7_init_154 : decode cX7_init 154 = .ok (.iastore, 1) := by decide +kernel
theorem dX7_init_155 : decode cX7_init 155 = .ok (.dup, 1) := by decide +kernel
theorem dX7_init_156 : decode cX7_init 156 = .ok (.bipush 14, 2) := by decide +kernel
theorem dX7_init_158 : decode cX7_init 158 = .ok (.bipush 121, 2) := by decide +kernel
theorem dX7_init_160 : decode cX7_init 160 = .ok (.iastore, 1) := by decide +kernel
theorem dX7_init_161 : decode cX7_init 161 = .ok (.dup, 1) := by decide +kernel
theorem dX7_init_162 : decode cX7_init 162 = .ok (.bipush 15, 2) := by decide +kernel
theorem dX7_init_164 : decode cX7_init 164 = .ok (.bipush 97, 2) := by decide +kernel
theorem dX7_init_166 : decode cX7_init 166 = .ok (.iastore, 1) := by decide +kernel
theorem dX7_init_167 : decode cX7_init 167 = .ok (.dup, 1) := by decide +kernel
theorem dX7_init_168 : decode cX7_init 168 = .ok (.bipush 16, 2) := by decide +kernel
theorem dX7_init_170 : decode cX7_init 170 = .ok (.bipush 108, 2) := by decide +kernel
theorem dX7_init_172 : decode cX7_init 172 = .ok (.iastore, 1) := by decide +kernel
theorem dX7_init_173 : decode cX7_init 173 = .ok (.dup, 1) := by decide +kernel
theorem dX7_init_174 : decode cX7_init 174 = .ok (.bipush 17, 2) := by decide +kernel
theorem dX7_init_176 : decode cX7_init 176 = .ok (.bipush 102, 2) := by decide +kernel
theorem dX7_init_178 : decode cX7_init 178 = .ok (.iastore, 1) := by decide +kernel
theorem dX7_init_179 : decode cX7_init 179 = .ok (.dup, 1) := by decide +kernel
theorem dX7_init_180 : decode cX7_init 180 = .ok (.bipush 18, 2) := by decide +kernel
theorem dX7_init_182 : decode cX7_init 182 = .ok (.bipush 117, 2) := by decide +kernel
theorem dX7_init_184 : decode cX7_init 184 = .ok (.iastore, 1) := by decide +kernel
theorem dX7_init_185 : decode cX7_init 185 = .ok (.dup, 1) := by decide +kernel
theorem dX7_init_186 : decode cX7_init 186 = .ok (.bipush 19, 2) := by decide +kernel
theorem dX7_init_188 : decode cX7_init 188 = .ok (.bipush 103, 2) := by decide +kernel
theorem dX7_init_190 : decode cX7_init 190 = .ok (.iastore, 1) := by decide +kernel
theorem dX7_init_191 : decode cX7_init 191 = .ok (.dup, 1) := by decide +kernel
theorem dX7_init_192 : decode cX7_init 192 = .ok (.bipush 20, 2) := by decide +kernel
theorem dX7_init_194 : decode cX7_init 194 = .ok (.bipush 105, 2) := by decide +kernel
theorem dX7_init_196 : decode cX7_init 196 = .ok (.iastore, 1) := by decide +kernel
theorem dX7_init_197 : decode cX7_init 197 = .ok (.dup, 1) := by decide +kernel
theorem dX7_init_198 : decode cX7_init 198 = .ok (.bipush 21, 2) := by decide +kernel
theorem dX7_init_200 : decode cX7_init 200 = .ok (.bipush 116, 2) := by decide +kernel
theorem dX7_init_202 : decode cX7_init 202 = .ok (.iastore, 1) := by decide +kernel
theorem dX7_init_203 : decode cX7_init 203 = .ok (.dup, 1) := by decide +kernel
theorem dX7_init_204 : decode cX7_init 204 = .ok (.bipush 22, 2) := by decide +kernel
theorem dX7_init_206 : decode cX7_init 206 = .ok (.bipush 105, 2) := by decide +kernel
theorem dX7_init_208 : decode cX7_init 208 = .ok (.iastore, 1) := by decide +kernel
theorem dX7_init_209 : decode cX7_init 209 = .ok (.dup, 1) := by decide +kernel
theorem dX7_init_210 : decode cX7_init 210 = .ok (.bipush 23, 2) := by decide +kernel
theorem dX7_init_212 : decode cX7_init 212 = .ok (.bipush 118, 2) := by decide +kernel
theorem dX7_init_214 : decode cX7_init 214 = .ok (.iastore, 1) := by decide +kernel
theorem dX7_init_215 : decode cX7_init 215 = .ok (.dup, 1) := by decide +kernel
theorem dX7_init_216 : decode cX7_init 216 = .ok (.bipush 24, 2) := by decide +kernel
theorem dX7_init_218 : decode cX7_init 218 = .ok (.bipush 101, 2) := by decide +kernel
theorem dX7_init_220 : decode cX7_init 220 = .ok (.iastore, 1) := by decide +kernel
theorem dX7_init_221 : decode cX7_init 221 = .ok (.dup, 1) := by decide +kernel
theorem dX7_init_222 : decode cX7_init 222 = .ok (.bipush 25, 2) := by decide +kernel
theorem dX7_init_224 : decode cX7_init 224 = .ok (.bipush 111, 2) := by decide +kernel
theorem dX7_init_226 : decode cX7_init 226 = .ok (.iastore, 1) := by decide +kernel
theorem dX7_init_227 : decode cX7_init 227 = .ok (.dup, 1) := by decide +kernel
theorem dX7_init_228 : decode cX7_init 228 = .ok (.bipush 26, 2) := by decide +kernel
theorem dX7_init_230 : decode cX7_init 230 = .ok (.bipush 110, 2) := by decide +kernel
theorem dX7_init_232 : decode cX7_init 232 = .ok (.iastore, 1) := by decide +kernel
theorem dX7_init_233 : decode cX7_init 233 = .ok (.dup, 1) := by decide +kernel
theorem dX7_init_234 : decode cX7_init 234 = .ok (.bipush 27, 2) := by decide +kernel
theorem dX7_init_236 : decode cX7_init 236 = .ok (.bipush 101, 2) := by decide +kernel
theorem dX7_init_238 : decode cX7_init 238 = .ok (.iastore, 1) := by decide +kernel
theorem dX7_init_239 : decode cX7_init 239 = .ok (.dup, 1) := by decide +kernel
theorem dX7_init_240 : decode cX7_init 240 = .ok (.bipush 28, 2) := by decide +kernel
theorem dX7_init_242 : decode cX7_init 242 = .ok (.bipush 108, 2) := by decide +kernel
theorem dX7_init_244 : decode cX7_init 244 = .ok (.iastore, 1) := by decide +kernel
theorem dX7_init_245 : decode cX7_init 245 = .ok (.dup, 1) := by decide +kernel
theorem dX7_init_246 : decode cX7_init 246 = .ok (.bipush 29, 2) := by decide +kernel
theorem dX7_init_248 : decode cX7_init 248 = .ok (.bipush 101, 2) := by decide +kernel
theorem dX7_init_250 : decode cX7_init 250 = .ok (.iastore, 1) := by decide +kernel
theorem dX7_init_251 : decode cX7_init 251 = .ok (.dup, 1) := by decide +kernel
theorem dX7_init_252 : decode cX7_init 252 = .ok (.bipush 30, 2) := by decide +kernel
theorem dX7_init_254 : decode cX7_init 254 = .ok (.bipush 110, 2) := by decide +kernel
theorem dX7_init_256 : decode cX7_init 256 = .ok (.iastore, 1) := by decide +kernel
theorem dX7_init_257 : decode cX7_init 257 = .ok (.dup, 1) := by decide +kernel
theorem dX7_init_258 : decode cX7_init 258 = .ok (.bipush 31, 2) := by decide +kernel
theorem dX7_init_260 : decode cX7_init 260 = .ok (.bipush 116, 2) := by decide +kernel
theorem dX7_init_262 : decode cX7_init 262 = .ok (.iastore, 1) := by decide +kernel
theorem dX7_init_263 : decode cX7_init 263 = .ok (.putfield 22, 3) := by decide +kernel
theorem dX7_init_266 : decode cX7_init 266 = .ok (.aload_n 0, 1) := by decide +kernel
theorem dX7_init_267 : decode cX7_init 267 = .ok (.iconst 4, 1) := by decide +kernel
theorem dX7_init_268 : decode cX7_init 268 = .ok (.newarray .int, 2) := by decide +kernel
theorem dX7_init_270 : decode cX7_init 270 = .ok (.putfield 25, 3) := by decide +kernel
theorem dX7_init_273 : decode cX7_init 273 = .ok (.aload_n 0, 1) := by decide +kernel
theorem dX7_init_274 : decode cX7_init 274 = .ok (.iconst 5, 1) := by decide +kernel
theorem dX7_init_275 : decode cX7_init 275 = .ok (.newarray .int, 2) := by decide +kernel
theorem dX7_init_277 : decode cX7_init 277 = .ok (.putfield 28, 3) := by decide +kernel
theorem dX7_init_280 : decode cX7_init 280 = .ok (.aload_n 0, 1) := by decide +kernel
theorem dX7_init_281 : decode cX7_init 281 = .ok (.iconst 5, 1) := by decide +kernel
theorem dX7_init_282 : decode cX7_init 282 = .ok (.newarray .int, 2) := by decide +kernel
theorem dX7_init_284 : decode cX7_init 284 = .ok (.putfield 31, 3) := by decide +kernel
theorem dX7_init_287 : decode cX7_init 287 = .ok (.aload_n 0, 1) := by decide +kernel
theorem dX7_init_288 : decode cX7_init 288 = .ok (.bipush 18, 2) := by decide +kernel
theorem dX7_init_290 : decode cX7_init 290 = .ok (.newarray .int, 2) := by decide +kernel
theorem dX7_init_292 : decode cX7_init 292 = .ok (.putfield 34, 3) := by decide +kernel
theorem dX7_init_295 : decode cX7_init 295 = .ok (.aload_n 0, 1) := by decide +kernel
theorem dX7_init_296 : decode cX7_init 296 = .ok (.sipush 336, 3) := by decide +kernel
theorem dX7_init_299 : decode cX7_init 299 = .ok (.newarray .int, 2) := by decide +kernel
theorem dX7_init_301 : decode cX7_init 301 = .ok (.putfield 37, 3) := by decide +kernel
theorem dX7_init_304 : decode cX7_init 304 = .ok (.aload_n 0, 1) := by decide +kernel
theorem dX7_init_305 : decode cX7_init 305 = .ok (.iconst 2, 1) := by decide +kernel
theorem dX7_init_306 : decode cX7_init 306 = .ok (.newarray .boolean, 2) := by decide +kernel
theorem dX7_init_308 : decode cX7_init 308 = .ok (.putfield 40, 3) := by decide +kernel
theorem dX7_init_311 : decode cX7_init 311 = .ok (.aload_n 0, 1) := by decide +kernel
theorem dX7_init_312 : decode cX7_init 312 = .ok (.iconst 4, 1) := by decide +kernel
theorem dX7_init_313 : decode cX7_init 313 = .ok (.newarray .int, 2) := by decide +kernel
theorem dX7_init_315 : decode cX7_init 315 = .ok (.dup, 1) := by decide +kernel
theorem dX7_init_316 : decode cX7_init 316 = .ok (.iconst 0, 1) := by decide +kernel
theorem dX7_init_317 : decode cX7_init 317 = .ok (.bipush (-4), 2) := by decide +kernel
theorem dX7_init_319 : decode cX7_init 319 = .ok (.iastore, 1) := by decide +kernel
theorem dX7_init_320 : decode cX7_init 320 = .ok (.dup, 1) := by decide +kernel
theorem dX7_init_321 : decode cX7_init 321 = .ok (.iconst 1, 1) := by decide +kernel
theorem dX7_init_322 : decode cX7_init 322 = .ok (.bipush (-4), 2) := by decide +kernel
theorem dX7_init_324 : decode cX7_init 324 = .ok (.iastore, 1) := by decide +kernel
theorem dX7_init_325 : decode cX7_init 325 = .ok (.dup, 1) := by decide +kernel
theorem dX7_init_326 : decode cX7_init 326 = .ok (.iconst 2, 1) := by decide +kernel
theorem dX7_init_327 : decode cX7_init 327 = .ok (.bipush (-4), 2) := by decide +kernel
theorem dX7_init_329 : decode cX7_init 329 = .ok (.iastore, 1) := by decide +kernel
theorem dX7_init_330 : decode cX7_init 330 = .ok (.dup, 1) := by decide +kernel
theorem dX7_init_331 : decode cX7_init 331 = .ok (.iconst 3, 1) := by decide +kernel
theorem dX7_init_332 : decode cX7_init 332 = .ok (.bipush (-4), 2) := by decide +kernel
theorem dX7_init_334 : decode cX7_init 334 = .ok (.iastore, 1) := by decide +kernel
theorem dX7_init_335 : decode cX7_init 335 = .ok (.putfield 44, 3) := by decide +kernel
theorem dX7_init_338 : decode cX7_init 338 = .ok (.aload_n 0, 1) := by decide +kernel
theorem dX7_init_339 : decode cX7_init 339 = .ok (.iconst 4, 1) := by decide +kernel
theorem dX7_init_340 : decode cX7_init 340 = .ok (.newarray .int, 2) := by decide +kernel
theorem dX7_init_342 : decode cX7_init 342 = .ok (.putfield 47, 3) := by decide +kernel
theorem dX7_init_345 : decode cX7_init 345 = .ok (.aload_n 0, 1) := by decide +kernel
theorem dX7_init_346 : decode cX7_init 346 = .ok (.sipush 160, 3) := by decide +kernel
theorem dX7_init_349 : decode cX7_init 349 = .ok (.newarray .int, 2) := by decide +kernel
theorem dX7_init_351 : decode cX7_init 351 = .ok (.putfield 50, 3) := by decide +kernel
theorem dX7_init_354 : decode cX7_init 354 = .ok (.return_, 1) := by decide +kernel
theorem dX7_in_0 : decode cX7_in 0 = .ok (.lload_n 0, 1) := by decide +kernel
theorem dX7_in_1 : decode cX7_in 1 = .ok (.lload_n 2, 1) := by decide +kernel
theorem dX7_in_2 : decode cX7_in 2 = .ok (.lcmp, 1) := by decide +kernel
theorem dX7_in_3 : decode cX7_in 3 = .ok (.ifCond .lt 14, 3) := by decide +kernel
theorem dX7_in_6 : decode cX7_in 6 = .ok (.lload_n 0, 1) := by decide +kernel
theorem dX7_in_7 : decode cX7_in 7 = .ok (.lload 4, 2) := by decide +kernel
theorem dX7_in_9 : decode cX7_in 9 = .ok (.lcmp, 1) := by decide +kernel
theorem dX7_in_10 : decode cX7_in 10 = .ok (.ifCond .gt 7, 3) := by decide +kernel
theorem dX7_in_13 : decode cX7_in 13 = .ok (.iconst 1, 1) := by decide +kernel
theorem dX7_in_14 : decode cX7_in 14 = .ok (.goto 4, 3) := by decide +kernel
theorem dX7_in_17 : decode cX7_in 17 = .ok (.iconst 0, 1) := by decide +kernel
theorem dX7_in_18 : decode cX7_in 18 = .ok (.ireturn, 1) := by decide +kernel
theorem dX7_feed_0 : decode cX7_feed 0 = .ok (.iload_n 1, 1) := by decide +kernel
theorem dX7_feed_1 : decode cX7_feed 1 = .ok (.i2l, 1) := by decide +kernel
theorem dX7_feed_2 : decode cX7_feed 2 = .ok (.lconst 0, 1) := by decide +kernel
theorem dX7_feed_3 : decode cX7_feed 3 = .ok (.ldc2_w 53, 3) := by decide +kernel
theorem dX7_feed_6 : decode cX7_feed 6 = .ok (.invokestatic 55, 3) := by decide +kernel
theorem dX7_feed_9 : decode cX7_feed 9 = .ok (.ifCond .ne 5, 3) := by decide +kernel
theorem dX7_feed_12 : decode cX7_feed 12 = .ok (.iconst (-1), 1) := by decide +kernel
theorem dX7_feed_13 : decode cX7_feed 13 = .ok (.ireturn, 1) := by decide +kernel
theorem dX7_feed_14 : decode cX7_feed 14 = .ok (.aload_n 0, 1) := by decide +kernel
theorem dX7_feed_15 : decode cX7_feed 15 = .ok (.getfield 59, 3) := by decide +kernel
theorem dX7_feed_18 : decode cX7_feed 18 = .ok (.sipush 160, 3) := by decide +kernel
theorem dX7_feed_21 : decode cX7_feed 21 = .ok (.if_icmp .ne 6, 3) := by decide +kernel
theorem dX7_feed_24 : decode cX7_feed 24 = .ok (.bipush (-3), 2) := by decide +kernel
theorem dX7_feed_26 : decode cX7_feed 26 = .ok (.ireturn, 1) := by decide +kernel
theorem dX7_feed_27 : decode cX7_feed 27 = .ok (.aload_n 0, 1) := by decide +kernel
theorem dX7_feed_28 : decode cX7_feed 28 = .ok (.getfield 16, 3) := by decide +kernel
theorem dX7_feed_31 : decode cX7_feed 31 = .ok (.aload_n 0, 1) := by decide +kernel
theorem dX7_feed_32 : decode cX7_feed 32 = .ok (.getfield 59, 3) := by decide +kernel
theorem dX7_feed_35 : decode cX7_feed 35 = .ok (.iload_n 1, 1) := by decide +kernel
theorem dX7_feed_36 : decode cX7_feed 36 = .ok (.iastore, 1) := by decide +kernel
theorem dX7_feed_37 : decode cX7_feed 37 = .ok (.aload_n 0, 1) := by decide +kernel
theorem dX7_feed_38 : decode cX7_feed 38 = .ok (.dup, 1) := by decide +kernel
theorem dX7_feed_39 : decode cX7_feed 39 = .ok (.getfield 59, 3) := by decide +kernel
theorem dX7_feed_42 : decode cX7_feed 42 = .ok (.iconst 1, 1) := by decide +kernel
theorem dX7_feed_43 : decode cX7_feed 43 = .ok (.iadd, 1) := by decide +kernel
theorem dX7_feed_44 : decode cX7_feed 44 = .ok (.putfield 59, 3) := by decide +kernel
theorem dX7_feed_47 : decode cX7_feed 47 = .ok (.aload_n 0, 1) := by decide +kernel
theorem dX7_feed_48 : decode cX7_feed 48 = .ok (.getfield 59, 3) := by decide +kernel
theorem dX7_feed_51 : decode cX7_feed 51 = .ok (.ireturn, 1) := by decide +kernel
theorem dX7_end_0 : decode cX7_end 0 = .ok (.iload_n 1, 1) := by decide +kernel
theorem dX7_end_1 : decode cX7_end 1 = .ok (.i2l, 1) := by decide +kernel
theorem dX7_end_2 : decode cX7_end 2 = .ok (.lconst 0, 1) := by decide +kernel
theorem dX7_end_3 : decode cX7_end 3 = .ok (.aload_n 0, 1) := by decide +kernel
theorem dX7_end_4 : decode cX7_end 4 = .ok (.getfield 59, 3) := by decide +kernel
theorem dX7_end_7 : decode cX7_end 7 = .ok (.i2l, 1) := by decide +kernel
theorem dX7_end_8 : decode cX7_end 8 = .ok (.invokestatic 55, 3) := by decide +kernel
theorem dX7_end_11 : decode cX7_end 11 = .ok (.ifCond .ne 5, 3) := by decide +kernel
theorem dX7_end_14 : decode cX7_end 14 = .ok (.iconst (-1), 1) := by decide +kernel
theorem dX7_end_15 : decode cX7_end 15 = .ok (.ireturn, 1) := by decide +kernel
theorem dX7_end_16 : decode cX7_end 16 = .ok (.aload_n 0, 1) := by decide +kernel
theorem dX7_end_17 : decode cX7_end 17 = .ok (.getfield 59, 3) := by decide +kernel
theorem dX7_end_20 : decode cX7_end 20 = .ok (.istore_n 2, 1) := by decide +kernel
theorem dX7_end_21 : decode cX7_end 21 = .ok (.aload_n 0, 1) := by decide +kernel
theorem dX7_end_22 : decode cX7_end 22 = .ok (.iload_n 1, 1) := by decide +kernel
theorem dX7_end_23 : decode cX7_end 23 = .ok (.putfield 59, 3) := by decide +kernel
theorem dX7_end_26 : decode cX7_end 26 = .ok (.iload_n 2, 1) := by decide +kernel
theorem dX7_end_27 : decode cX7_end 27 = .ok (.ireturn, 1) := by decide +kernel
theorem dX7_byteAt_0 : decode cX7_byteAt 0 = .ok (.iload_n 1, 1) := by decide +kernel
theorem dX7_byteAt_1 : decode cX7_byteAt 1 = .ok (.aload_n 0, 1) := by decide +kernel
theorem dX7_byteAt_2 : decode cX7_byteAt 2 = .ok (.getfield 59, 3) := by decide +kernel
theorem dX7_byteAt_5 : decode cX7_byteAt 5 = .ok (.if_icmp .ge 12, 3) := by decide +kernel
theorem dX7_byteAt_8 : decode cX7_byteAt 8 = .ok (.aload_n 0, 1) := by decide +kernel
theorem dX7_byteAt_9 : decode cX7_byteAt 9 = .ok (.getfield 16, 3) := by decide +kernel
theorem dX7_byteAt_12 : decode cX7_byteAt 12 = .ok (.iload_n 1, 1) := by decide +kernel
theorem dX7_byteAt_13 : decode cX7_byteAt 13 = .ok (.iaload, 1) := by decide +kernel
theorem dX7_byteAt_14 : decode cX7_byteAt 14 = .ok (.goto 5, 3) := by decide +kernel
theorem dX7_byteAt_17 : decode cX7_byteAt 17 = .ok (.bipush (-4), 2) := by decide +kernel
theorem dX7_byteAt_19 : decode cX7_byteAt 19 = .ok (.ireturn, 1) := by decide +kernel
theorem dX7_fails_0 : decode cX7_fails 0 = .ok (.aload_n 0, 1) := by decide +kernel
theorem dX7_fails_1 : decode cX7_fails 1 = .ok (.getfield 63, 3) := by decide +kernel
theorem dX7_fails_4 : decode cX7_fails 4 = .ok (.ifCond .ne 16, 3) := by decide +kernel
theorem dX7_fails_7 : decode cX7_fails 7 = .ok (.aload_n 0, 1) := by decide +kernel
theorem dX7_fails_8 : decode cX7_fails 8 = .ok (.iload_n 1, 1) := by decide +kernel
theorem dX7_fails_9 : decode cX7_fails 9 = .ok (.putfield 63, 3) := by decide +kernel
theorem dX7_fails_12 : decode cX7_fails 12 = .ok (.aload_n 0, 1) := by decide +kernel
theorem dX7_fails_13 : decode cX7_fails 13 = .ok (.aload_n 0, 1) := by decide +kernel
theorem dX7_fails_14 : decode cX7_fails 14 = .ok (.getfield 66, 3) := by decide +kernel
theorem dX7_fails_17 : decode cX7_fails 17 = .ok (.putfield 69, 3) := by decide +kernel
theorem dX7_fails_20 : decode cX7_fails 20 = .ok (.return_, 1) := by decide +kernel
theorem dX7_nameHere_0 : decode cX7_nameHere 0 = .ok (.iconst 0, 1) := by decide +kernel
theorem dX7_nameHere_1 : decode cX7_nameHere 1 = .ok (.istore_n 1, 1) := by decide +kernel
theorem dX7_nameHere_2 : decode cX7_nameHere 2 = .ok (.iload_n 1, 1) := by decide +kernel
theorem dX7_nameHere_3 : decode cX7_nameHere 3 = .ok (.bipush 6, 2) := by decide +kernel
theorem dX7_nameHere_5 : decode cX7_nameHere 5 = .ok (.if_icmp .ge 113, 3) := by decide +kernel
theorem dX7_nameHere_8 : decode cX7_nameHere 8 = .ok (.aload_n 0, 1) := by decide +kernel
theorem dX7_nameHere_9 : decode cX7_nameHere 9 = .ok (.getfield 72, 3) := by decide +kernel
theorem dX7_nameHere_12 : decode cX7_nameHere 12 = .ok (.iconst 1, 1) := by decide +kernel
theorem dX7_nameHere_13 : decode cX7_nameHere 13 = .ok (.if_icmp .ne 105, 3) := by decide +kernel
theorem dX7_nameHere_16 : decode cX7_nameHere 16 = .ok (.aload_n 0, 1) := by decide +kernel
theorem dX7_nameHere_17 : decode cX7_nameHere 17 = .ok (.getfield 75, 3) := by decide +kernel
theorem dX7_nameHere_20 : decode cX7_nameHere 20 = .ok (.aload_n 0, 1) := by decide +kernel
theorem dX7_nameHere_21 : decode cX7_nameHere 21 = .ok (.getfield 66, 3) := by decide +kernel
theorem dX7_nameHere_24 : decode cX7_nameHere 24 = .ok (.isub, 1) := by decide +kernel
theorem dX7_nameHere_25 : decode cX7_nameHere 25 = .ok (.aload_n 0, 1) := by decide +kernel
theorem dX7_nameHere_26 : decode cX7_nameHere 26 = .ok (.getfield 19, 3) := by decide +kernel
theorem dX7_nameHere_29 : decode cX7_nameHere 29 = .ok (.iload_n 1, 1) := by decide +kernel
theorem dX7_nameHere_30 : decode cX7_nameHere 30 = .ok (.iconst 1, 1) := by decide +kernel
theorem dX7_nameHere_31 : decode cX7_nameHere 31 = .ok (.iadd, 1) := by decide +kernel
theorem dX7_nameHere_32 : decode cX7_nameHere 32 = .ok (.iaload, 1) := by decide +kernel
theorem dX7_nameHere_33 : decode cX7_nameHere 33 = .ok (.aload_n 0, 1) := by decide +kernel
theorem dX7_nameHere_34 : decode cX7_nameHere 34 = .ok (.getfield 19, 3) := by decide +kernel
theorem dX7_nameHere_37 : decode cX7_nameHere 37 = .ok (.iload_n 1, 1) := by decide +kernel
theorem dX7_nameHere_38 : decode cX7_nameHere 38 = .ok (.iaload, 1) := by decide +kernel
theorem dX7_nameHere_39 : decode cX7_nameHere 39 = .ok (.isub, 1) := by decide +kernel
theorem dX7_nameHere_40 : decode cX7_nameHere 40 = .ok (.if_icmp .ne 7, 3) := by decide +kernel
theorem dX7_nameHere_43 : decode cX7_nameHere 43 = .ok (.iconst 1, 1) := by decide +kernel
theorem dX7_nameHere_44 : decode cX7_nameHere 44 = .ok (.goto 4, 3) := by decide +kernel
theorem dX7_nameHere_47 : decode cX7_nameHere 47 = .ok (.iconst 0, 1) := by decide +kernel
theorem dX7_nameHere_48 : decode cX7_nameHere 48 = .ok (.istore_n 2, 1) := by decide +kernel
theorem dX7_nameHere_49 : decode cX7_nameHere 49 = .ok (.iconst 0, 1) := by decide +kernel
theorem dX7_nameHere_50 : decode cX7_nameHere 50 = .ok (.istore_n 3, 1) := by decide +kernel
theorem dX7_nameHere_51 : decode cX7_nameHere 51 = .ok (.iload_n 2, 1) := by decide +kernel
theorem dX7_nameHere_52 : decode cX7_nameHere 52 = .ok (.ifCond .eq 54, 3) := by decide +kernel
theorem dX7_nameHere_55 : decode cX7_nameHere 55 = .ok (.iload_n 3, 1) := by decide +kernel
theorem dX7_nameHere_56 : decode cX7_nameHere 56 = .ok (.aload_n 0, 1) := by decide +kernel
theorem dX7_nameHere_57 : decode cX7_nameHere 57 = .ok (.getfield 75, 3) := by decide +kernel
theorem dX7_nameHere_60 : decode cX7_nameHere 60 = .ok (.aload_n 0, 1) := by decide +kernel
theorem dX7_nameHere_61 : decode cX7_nameHere 61 = .ok (.getfield 66, 3) := by decide +kernel
theorem dX7_nameHere_64 : decode cX7_nameHere 64 = .ok (.isub, 1) := by decide +kernel
theorem dX7_nameHere_65 : decode cX7_nameHere 65 = .ok (.if_icmp .ge 41, 3) := by decide +kernel
theorem dX7_nameHere_68 : decode cX7_nameHere 68 = .ok (.aload_n 0, 1) := by decide +kernel
theorem dX7_nameHere_69 : decode cX7_nameHere 69 = .ok (.aload_n 0, 1) := by decide +kernel
theorem dX7_nameHere_70 : decode cX7_nameHere 70 = .ok (.getfield 66, 3) := by decide +kernel
theorem dX7_nameHere_73 : decode cX7_nameHere 73 = .ok (.iload_n 3, 1) := by decide +kernel
theorem dX7_nameHere_74 : decode cX7_nameHere 74 = .ok (.iadd, 1) := by decide +kernel
theorem dX7_nameHere_75 : decode cX7_nameHere 75 = .ok (.invokevirtual 78, 3) := by decide +kernel
theorem dX7_nameHere_78 : decode cX7_nameHere 78 = .ok (.aload_n 0, 1) := by decide +kernel
theorem dX7_nameHere_79 : decode cX7_nameHere 79 = .ok (.getfield 22, 3) := by decide +kernel
theorem dX7_nameHere_82 : decode cX7_nameHere 82 = .ok (.aload_n 0, 1) := by decide +kernel
theorem dX7_nameHere_83 : decode cX7_nameHere 83 = .ok (.getfield 19, 3) := by decide +kernel
theorem dX7_nameHere_86 : decode cX7_nameHere 86 = .ok (.iload_n 1, 1) := by decide +kernel
theorem dX7_nameHere_87 : decode cX7_nameHere 87 = .ok (.iaload, 1) := by decide +kernel
theorem dX7_nameHere_88 : decode cX7_nameHere 88 = .ok (.iload_n 3, 1) := by decide +kernel
theorem dX7_nameHere_89 : decode cX7_nameHere 89 = .ok (.iadd, 1) := by decide +kernel
theorem dX7_nameHere_90 : decode cX7_nameHere 90 = .ok (.iaload, 1) := by decide +kernel
theorem dX7_nameHere_91 : decode cX7_nameHere 91 = .ok (.if_icmp .ne 7, 3) := by decide +kernel
theorem dX7_nameHere_94 : decode cX7_nameHere 94 = .ok (.iconst 1, 1) := by decide +kernel
theorem dX7_nameHere_95 : decode cX7_nameHere 95 = .ok (.goto 4, 3) := by decide +kernel
theorem dX7_nameHere_98 : decode cX7_nameHere 98 = .ok (.iconst 0, 1) := by decide +kernel
theorem dX7_nameHere_99 : decode cX7_nameHere 99 = .ok (.istore_n 2, 1) := by decide +kernel
theorem dX7_nameHere_100 : decode cX7_nameHere 100 = .ok (.iinc 3 1, 3) := by decide +kernel
theorem dX7_nameHere_103 : decode cX7_nameHere 103 = .ok (.goto (-52), 3) := by decide +kernel
theorem dX7_nameHere_106 : decode cX7_nameHere 106 = .ok (.iload_n 2, 1) := by decide +kernel
theorem dX7_nameHere_107 : decode cX7_nameHere 107 = .ok (.ifCond .eq 5, 3) := by decide +kernel
theorem dX7_nameHere_110 : decode cX7_nameHere 110 = .ok (.iload_n 1, 1) := by decide +kernel
theorem dX7_nameHere_111 : decode cX7_nameHere 111 = .ok (.ireturn, 1) := by decide +kernel
theorem dX7_nameHere_112 : decode cX7_nameHere 112 = .ok (.iinc 1 1, 3) := by decide +kernel
theorem dX7_nameHere_115 : decode cX7_nameHere 115 = .ok (.goto (-113), 3) := by decide +kernel
theorem dX7_nameHere_118 : decode cX7_nameHere 118 = .ok (.bipush (-4), 2) := by decide +kernel
theorem dX7_nameHere_120 : decode cX7_nameHere 120 = .ok (.ireturn, 1) := by decide +kernel
theorem dX7_step_0 : decode cX7_step 0 = .ok (.aload_n 0, 1) := by decide +kernel
theorem dX7_step_1 : decode cX7_step 1 = .ok (.getfield 63, 3) := by decide +kernel
theorem dX7_step_4 : decode cX7_step 4 = .ok (.ifCond .le 4, 3) := by decide +kernel
theorem dX7_step_7 : decode cX7_step 7 = .ok (.return_, 1) := by decide +kernel
theorem dX7_step_8 : decode cX7_step 8 = .ok (.aload_n 0, 1) := by decide +kernel
theorem dX7_step_9 : decode cX7_step 9 = .ok (.aload_n 0, 1) := by decide +kernel
theorem dX7_step_10 : decode cX7_step 10 = .ok (.getfield 75, 3) := by decide +kernel
theorem dX7_step_13 : decode cX7_step 13 = .ok (.invokevirtual 78, 3) := by decide +kernel
theorem dX7_step_16 : decode cX7_step 16 = .ok (.bipush 32, 2) := by decide +kernel
theorem dX7_step_18 : decode cX7_step 18 = .ok (.if_icmp .ne 16, 3) := by decide +kernel
theorem dX7_step_21 : decode cX7_step 21 = .ok (.aload_n 0, 1) := by decide +kernel
theorem dX7_step_22 : decode cX7_step 22 = .ok (.dup, 1) := by decide +kernel
theorem dX7_step_23 : decode cX7_step 23 = .ok (.getfield 75, 3) := by decide +kernel
theorem dX7_step_26 : decode cX7_step 26 = .ok (.iconst 1, 1) := by decide +kernel
theorem dX7_step_27 : decode cX7_step 27 = .ok (.iadd, 1) := by decide +kernel
theorem dX7_step_28 : decode cX7_step 28 = .ok (.putfield 75, 3) := by decide +kernel
theorem dX7_step_31 : decode cX7_step 31 = .ok (.goto (-23), 3) := by decide +kernel
theorem dX7_step_34 : decode cX7_step 34 = .ok (.aload_n 0, 1) := by decide +kernel
theorem dX7_step_35 : decode cX7_step 35 = .ok (.aload_n 0, 1) := by decide +kernel
theorem dX7_step_36 : decode cX7_step 36 = .ok (.getfield 75, 3) := by decide +kernel
theorem dX7_step_39 : decode cX7_step 39 = .ok (.putfield 66, 3) := by decide +kernel
theorem dX7_step_42 : decode cX7_step 42 = .ok (.aload_n 0, 1) := by decide +kernel
theorem dX7_step_43 : decode cX7_step 43 = .ok (.aload_n 0, 1) := by decide +kernel
theorem dX7_step_44 : decode cX7_step 44 = .ok (.getfield 75, 3) := by decide +kernel
theorem dX7_step_47 : decode cX7_step 47 = .ok (.invokevirtual 78, 3) := by decide +kernel
theorem dX7_step_50 : decode cX7_step 50 = .ok (.istore_n 1, 1) := by decide +kernel
theorem dX7_step_51 : decode cX7_step 51 = .ok (.aload_n 0, 1) := by decide +kernel
theorem dX7_step_52 : decode cX7_step 52 = .ok (.iconst 0, 1) := by decide +kernel
theorem dX7_step_53 : decode cX7_step 53 = .ok (.putfield 82, 3) := by decide +kernel
theorem dX7_step_56 : decode cX7_step 56 = .ok (.iload_n 1, 1) := by decide +kernel
theorem dX7_step_57 : decode cX7_step 57 = .ok (.bipush (-4), 2) := by decide +kernel
theorem dX7_step_59 : decode cX7_step 59 = .ok (.if_icmp .ne 11, 3) := by decide +kernel
theorem dX7_step_62 : decode cX7_step 62 = .ok (.aload_n 0, 1) := by decide +kernel
theorem dX7_step_63 : decode cX7_step 63 = .ok (.iconst 0, 1) := by decide +kernel
theorem dX7_step_64 : decode cX7_step 64 = .ok (.putfield 72, 3) := by decide +kernel
theorem dX7_step_67 : decode cX7_step 67 = .ok (.goto 202, 3) := by decide +kernel
theorem dX7_step_70 : decode cX7_step 70 = .ok (.iload_n 1, 1) := by decide +kernel
theorem dX7_step_71 : decode cX7_step 71 = .ok (.i2l, 1) := by decide +kernel
theorem dX7_step_72 : decode cX7_step 72 = .ok (.ldc2_w 85, 3) := by decide +kernel
theorem dX7_step_75 : decode cX7_step 75 = .ok (.ldc2_w 87, 3) := by decide +kernel
theorem dX7_step_78 : decode cX7_step 78 = .ok (.invokestatic 55, 3) := by decide +kernel
theorem dX7_step_81 : decode cX7_step 81 = .ok (.ifCond .eq 45, 3) := by decide +kernel
theorem dX7_step_84 : decode cX7_step 84 = .ok (.aload_n 0, 1) := by decide +kernel
theorem dX7_step_85 : decode cX7_step 85 = .ok (.aload_n 0, 1) := by decide +kernel
theorem dX7_step_86 : decode cX7_step 86 = .ok (.getfield 75, 3) := by decide +kernel
theorem dX7_step_89 : decode cX7_step 89 = .ok (.invokevirtual 78, 3) := by decide +kernel
theorem dX7_step_92 : decode cX7_step 92 = .ok (.i2l, 1) := by decide +kernel
theorem dX7_step_93 : decode cX7_step 93 = .ok (.ldc2_w 85, 3) := by decide +kernel
theorem dX7_step_96 : decode cX7_step 96 = .ok (.ldc2_w 87, 3) := by decide +kernel
theorem dX7_step_99 : decode cX7_step 99 = .ok (.invokestatic 55, 3) := by decide +kernel
theorem dX7_step_102 : decode cX7_step 102 = .ok (.ifCond .eq 16, 3) := by decide +kernel
theorem dX7_step_105 : decode cX7_step 105 = .ok (.aload_n 0, 1) := by decide +kernel
theorem dX7_step_106 : decode cX7_step 106 = .ok (.dup, 1) := by decide +kernel
theorem dX7_step_107 : decode cX7_step 107 = .ok (.getfield 75, 3) := by decide +kernel
theorem dX7_step_110 : decode cX7_step 110 = .ok (.iconst 1, 1) := by decide +kernel
theorem dX7_step_111 : decode cX7_step 111 = .ok (.iadd, 1) := by decide +kernel
theorem dX7_step_112 : decode cX7_step 112 = .ok (.putfield 75, 3) := by decide +kernel
theorem dX7_step_115 : decode cX7_step 115 = .ok (.goto (-31), 3) := by decide +kernel
theorem dX7_step_118 : decode cX7_step 118 = .ok (.aload_n 0, 1) := by decide +kernel
theorem dX7_step_119 : decode cX7_step 119 = .ok (.iconst 1, 1) := by decide +kernel
theorem dX7_step_120 : decode cX7_step 120 = .ok (.putfield 72, 3) := by decide +kernel
theorem dX7_step_123 : decode cX7_step 123 = .ok (.goto 146, 3) := by decide +kernel
theorem dX7_step_126 : decode cX7_step 126 = .ok (.iload_n 1, 1) := by decide +kernel
theorem dX7_step_127 : decode cX7_step 127 = .ok (.i2l, 1) := by decide +kernel
theorem dX7_step_128 : decode cX7_step 128 = .ok (.ldc2_w 89, 3) := by decide +kernel
theorem dX7_step_131 : decode cX7_step 131 = .ok (.ldc2_w 91, 3) := by decide +kernel
theorem dX7_step_134 : decode cX7_step 134 = .ok (.invokestatic 55, 3) := by decide +kernel
theorem dX7_step_137 : decode cX7_step 137 = .ok (.ifCond .eq 106, 3) := by decide +kernel
theorem dX7_step_140 : decode cX7_step 140 = .ok (.aload_n 0, 1) := by decide +kernel
theorem dX7_step_141 : decode cX7_step 141 = .ok (.aload_n 0, 1) := by decide +kernel
theorem dX7_step_142 : decode cX7_step 142 = .ok (.getfield 75, 3) := by decide +kernel
theorem dX7_step_145 : decode cX7_step 145 = .ok (.invokevirtual 78, 3) := by decide +kernel
theorem dX7_step_148 : decode cX7_step 148 = .ok (.i2l, 1) := by decide +kernel
theorem dX7_step_149 : decode cX7_step 149 = .ok (.ldc2_w 89, 3) := by decide +kernel
theorem dX7_step_152 : decode cX7_step 152 = .ok (.ldc2_w 91, 3) := by decide +kernel
theorem dX7_step_155 : decode cX7_step 155 = .ok (.invokestatic 55, 3) := by decide +kernel
theorem dX7_step_158 : decode cX7_step 158 = .ok (.ifCond .eq 59, 3) := by decide +kernel
theorem dX7_step_161 : decode cX7_step 161 = .ok (.aload_n 0, 1) := by decide +kernel
theorem dX7_step_162 : decode cX7_step 162 = .ok (.aload_n 0, 1) := by decide +kernel
theorem dX7_step_163 : decode cX7_step 163 = .ok (.getfield 75, 3) := by decide +kernel
theorem dX7_step_166 : decode cX7_step 166 = .ok (.aload_n 0, 1) := by decide +kernel
theorem dX7_step_167 : decode cX7_step 167 = .ok (.getfield 66, 3) := by decide +kernel
theorem dX7_step_170 : decode cX7_step 170 = .ok (.isub, 1) := by decide +kernel
theorem dX7_step_171 : decode cX7_step 171 = .ok (.iconst 2, 1) := by decide +kernel
theorem dX7_step_172 : decode cX7_step 172 = .ok (.if_icmp .ge 25, 3) := by decide +kernel
theorem dX7_step_175 : decode cX7_step 175 = .ok (.bipush 10, 2) := by decide +kernel
theorem dX7_step_177 : decode cX7_step 177 = .ok (.aload_n 0, 1) := by decide +kernel
theorem dX7_step_178 : decode cX7_step 178 = .ok (.getfield 82, 3) := by decide +kernel
theorem dX7_step_181 : decode cX7_step 181 = .ok (.imul, 1) := by decide +kernel
theorem dX7_step_182 : decode cX7_step 182 = .ok (.aload_n 0, 1) := by decide +kernel
theorem dX7_step_183 : decode cX7_step 183 = .ok (.aload_n 0, 1) := by decide +kernel
theorem dX7_step_184 : decode cX7_step 184 = .ok (.getfield 75, 3) := by decide +kernel
theorem dX7_step_187 : decode cX7_step 187 = .ok (.invokevirtual 78, 3) := by decide +kernel
theorem dX7_step_190 : decode cX7_step 190 = .ok (.iadd, 1) := by decide +kernel
theorem dX7_step_191 : decode cX7_step 191 = .ok (.bipush 48, 2) := by decide +kernel
theorem dX7_step_193 : decode cX7_step 193 = .ok (.isub, 1) := by decide +kernel
theorem dX7_step_194 : decode cX7_step 194 = .ok (.goto 7, 3) := by decide +kernel
theorem dX7_step_197 : decode cX7_step 197 = .ok (.aload_n 0, 1) := by decide +kernel
theorem dX7_step_198 : decode cX7_step 198 = .ok (.getfield 82, 3) := by decide +kernel
theorem dX7_step_201 : decode cX7_step 201 = .ok (.putfield 82, 3) := by decide +kernel
theorem dX7_step_204 : decode cX7_step 204 = .ok (.aload_n 0, 1) := by decide +kernel
theorem dX7_step_205 : decode cX7_step 205 = .ok (.dup, 1) := by decide +kernel
theorem dX7_step_206 : decode cX7_step 206 = .ok (.getfield 75, 3) := by decide +kernel
theorem dX7_step_209 : decode cX7_step 209 = .ok (.iconst 1, 1) := by decide +kernel
theorem dX7_step_210 : decode cX7_step 210 = .ok (.iadd, 1) := by decide +kernel
theorem dX7_step_211 : decode cX7_step 211 = .ok (.putfield 75, 3) := by decide +kernel
theorem dX7_step_214 : decode cX7_step 214 = .ok (.goto (-74), 3) := by decide +kernel
theorem dX7_step_217 : decode cX7_step 217 = .ok (.aload_n 0, 1) := by decide +kernel
theorem dX7_step_218 : decode cX7_step 218 = .ok (.iconst 2, 1) := by decide +kernel
theorem dX7_step_219 : decode cX7_step 219 = .ok (.putfield 72, 3) := by decide +kernel
theorem dX7_step_222 : decode cX7_step 222 = .ok (.aload_n 0, 1) := by decide +kernel
theorem dX7_step_223 : decode cX7_step 223 = .ok (.getfield 75, 3) := by decide +kernel
theorem dX7_step_226 : decode cX7_step 226 = .ok (.aload_n 0, 1) := by decide +kernel
theorem dX7_step_227 : decode cX7_step 227 = .ok (.getfield 66, 3) := by decide +kernel
theorem dX7_step_230 : decode cX7_step 230 = .ok (.isub, 1) := by decide +kernel
theorem dX7_step_231 : decode cX7_step 231 = .ok (.iconst 2, 1) := by decide +kernel
theorem dX7_step_232 : decode cX7_step 232 = .ok (.if_icmp .le 37, 3) := by decide +kernel
theorem dX7_step_235 : decode cX7_step 235 = .ok (.aload_n 0, 1) := by decide +kernel
theorem dX7_step_236 : decode cX7_step 236 = .ok (.iconst 1, 1) := by decide +kernel
theorem dX7_step_237 : decode cX7_step 237 = .ok (.invokevirtual 93, 3) := by decide +kernel
theorem dX7_step_240 : decode cX7_step 240 = .ok (.goto 29, 3) := by decide +kernel
theorem dX7_step_243 : decode cX7_step 243 = .ok (.aload_n 0, 1) := by decide +kernel
theorem dX7_step_244 : decode cX7_step 244 = .ok (.iconst 3, 1) := by decide +kernel
theorem dX7_step_245 : decode cX7_step 245 = .ok (.putfield 72, 3) := by decide +kernel
theorem dX7_step_248 : decode cX7_step 248 = .ok (.aload_n 0, 1) := by decide +kernel
theorem dX7_step_249 : decode cX7_step 249 = .ok (.dup, 1) := by decide +kernel
theorem dX7_step_250 : decode cX7_step 250 = .ok (.getfield 75, 3) := by decide +kernel
theorem dX7_step_253 : decode cX7_step 253 = .ok (.iconst 1, 1) := by decide +kernel
theorem dX7_step_254 : decode cX7_step 254 = .ok (.iadd, 1) := by decide +kernel
theorem dX7_step_255 : decode cX7_step 255 = .ok (.putfield 75, 3) := by decide +kernel
theorem dX7_step_258 : decode cX7_step 258 = .ok (.iload_n 1, 1) := by decide +kernel
theorem dX7_step_259 : decode cX7_step 259 = .ok (.bipush 59, 2) := by decide +kernel
theorem dX7_step_261 : decode cX7_step 261 = .ok (.if_icmp .eq 8, 3) := by decide +kernel
theorem dX7_step_264 : decode cX7_step 264 = .ok (.aload_n 0, 1) := by decide +kernel
theorem dX7_step_265 : decode cX7_step 265 = .ok (.iconst 1, 1) := by decide +kernel
theorem dX7_step_266 : decode cX7_step 266 = .ok (.invokevirtual 93, 3) := by decide +kernel
theorem dX7_step_269 : decode cX7_step 269 = .ok (.return_, 1) := by decide +kernel
theorem dX7_number_0 : decode cX7_number 0 = .ok (.aload_n 0, 1) := by decide +kernel
theorem dX7_number_1 : decode cX7_number 1 = .ok (.getfield 63, 3) := by decide +kernel
theorem dX7_number_4 : decode cX7_number 4 = .ok (.ifCond .ne 16, 3) := by decide +kernel
theorem dX7_number_7 : decode cX7_number 7 = .ok (.aload_n 0, 1) := by decide +kernel
theorem dX7_number_8 : decode cX7_number 8 = .ok (.getfield 72, 3) := by decide +kernel
theorem dX7_number_11 : decode cX7_number 11 = .ok (.iconst 2, 1) := by decide +kernel
theorem dX7_number_12 : decode cX7_number 12 = .ok (.if_icmp .eq 8, 3) := by decide +kernel
theorem dX7_number_15 : decode cX7_number 15 = .ok (.aload_n 0, 1) := by decide +kernel
theorem dX7_number_16 : decode cX7_number 16 = .ok (.iconst 2, 1) := by decide +kernel
theorem dX7_number_17 : decode cX7_number 17 = .ok (.invokevirtual 93, 3) := by decide +kernel
theorem dX7_number_20 : decode cX7_number 20 = .ok (.aload_n 0, 1) := by decide +kernel
theorem dX7_number_21 : decode cX7_number 21 = .ok (.getfield 63, 3) := by decide +kernel
theorem dX7_number_24 : decode cX7_number 24 = .ok (.ifCond .ne 23, 3) := by decide +kernel
theorem dX7_number_27 : decode cX7_number 27 = .ok (.aload_n 0, 1) := by decide +kernel
theorem dX7_number_28 : decode cX7_number 28 = .ok (.getfield 82, 3) := by decide +kernel
theorem dX7_number_31 : decode cX7_number 31 = .ok (.i2l, 1) := by decide +kernel
theorem dX7_number_32 : decode cX7_number 32 = .ok (.iload_n 1, 1) := by decide +kernel
theorem dX7_number_33 : decode cX7_number 33 = .ok (.i2l, 1) := by decide +kernel
theorem dX7_number_34 : decode cX7_number 34 = .ok (.iload_n 2, 1) := by decide +kernel
theorem dX7_number_35 : decode cX7_number 35 = .ok (.i2l, 1) := by decide +kernel
theorem dX7_number_36 : decode cX7_number 36 = .ok (.invokestatic 55, 3) := by decide +kernel
theorem dX7_number_39 : decode cX7_number 39 = .ok (.ifCond .ne 8, 3) := by decide +kernel
theorem dX7_number_42 : decode cX7_number 42 = .ok (.aload_n 0, 1) := by decide +kernel
theorem dX7_number_43 : decode cX7_number 43 = .ok (.iconst 3, 1) := by decide +kernel
theorem dX7_number_44 : decode cX7_number 44 = .ok (.invokevirtual 93, 3) := by decide +kernel
theorem dX7_number_47 : decode cX7_number 47 = .ok (.aload_n 0, 1) := by decide +kernel
theorem dX7_number_48 : decode cX7_number 48 = .ok (.getfield 63, 3) := by decide +kernel
theorem dX7_number_51 : decode cX7_number 51 = .ok (.ifCond .ne 10, 3) := by decide +kernel
theorem dX7_number_54 : decode cX7_number 54 = .ok (.aload_n 0, 1) := by decide +kernel
theorem dX7_number_55 : decode cX7_number 55 = .ok (.getfield 82, 3) := by decide +kernel
theorem dX7_number_58 : decode cX7_number 58 = .ok (.goto 4, 3) := by decide +kernel
theorem dX7_number_61 : decode cX7_number 61 = .ok (.iload_n 1, 1) := by decide +kernel
theorem dX7_number_62 : decode cX7_number 62 = .ok (.istore_n 3, 1) := by decide +kernel
theorem dX7_number_63 : decode cX7_number 63 = .ok (.aload_n 0, 1) := by decide +kernel
theorem dX7_number_64 : decode cX7_number 64 = .ok (.invokevirtual 97, 3) := by decide +kernel
theorem dX7_number_67 : decode cX7_number 67 = .ok (.iload_n 3, 1) := by decide +kernel
theorem dX7_number_68 : decode cX7_number 68 = .ok (.ireturn, 1) := by decide +kernel
theorem dX7_readColour_0 : decode cX7_readColour 0 = .ok (.aload_n 0, 1) := by decide +kernel
theorem dX7_readColour_1 : decode cX7_readColour 1 = .ok (.getfield 100, 3) := by decide +kernel
theorem dX7_readColour_4 : decode cX7_readColour 4 = .ok (.istore_n 2, 1) := by decide +kernel
theorem dX7_readColour_5 : decode cX7_readColour 5 = .ok (.aload_n 0, 1) := by decide +kernel
theorem dX7_readColour_6 : decode cX7_readColour 6 = .ok (.getfield 13, 3) := by decide +kernel
theorem dX7_readColour_9 : decode cX7_readColour 9 = .ok (.iload_n 2, 1) := by decide +kernel
theorem dX7_readColour_10 : decode cX7_readColour 10 = .ok (.iload_n 1, 1) := by decide +kernel
theorem dX7_readColour_11 : decode cX7_readColour 11 = .ok (.iastore, 1) := by decide +kernel
theorem dX7_readColour_12 : decode cX7_readColour 12 = .ok (.aload_n 0, 1) := by decide +kernel
theorem dX7_readColour_13 : decode cX7_readColour 13 = .ok (.getfield 13, 3) := by decide +kernel
theorem dX7_readColour_16 : decode cX7_readColour 16 = .ok (.iconst 5, 1) := by decide +kernel
theorem dX7_readColour_17 : decode cX7_readColour 17 = .ok (.iload_n 2, 1) := by decide +kernel
theorem dX7_readColour_18 : decode cX7_readColour 18 = .ok (.iadd, 1) := by decide +kernel
theorem dX7_readColour_19 : decode cX7_readColour 19 = .ok (.aload_n 0, 1) := by decide +kernel
theorem dX7_readColour_20 : decode cX7_readColour 20 = .ok (.iconst 0, 1) := by decide +kernel
theorem dX7_readColour_21 : decode cX7_readColour 21 = .ok (.bipush 9, 2) := by decide +kernel
theorem dX7_readColour_23 : decode cX7_readColour 23 = .ok (.invokevirtual 103, 3) := by decide +kernel
theorem dX7_readColour_26 : decode cX7_readColour 26 = .ok (.iastore, 1) := by decide +kernel
theorem dX7_readColour_27 : decode cX7_readColour 27 = .ok (.aload_n 0, 1) := by decide +kernel
theorem dX7_readColour_28 : decode cX7_readColour 28 = .ok (.getfield 13, 3) := by decide +kernel
theorem dX7_readColour_31 : decode cX7_readColour 31 = .ok (.bipush 10, 2) := by decide +kernel
theorem dX7_readColour_33 : decode cX7_readColour 33 = .ok (.iload_n 2, 1) := by decide +kernel
theorem dX7_readColour_34 : decode cX7_readColour 34 = .ok (.iadd, 1) := by decide +kernel
theorem dX7_readColour_35 : decode cX7_readColour 35 = .ok (.aload_n 0, 1) := by decide +kernel
theorem dX7_readColour_36 : decode cX7_readColour 36 = .ok (.iconst 0, 1) := by decide +kernel
theorem dX7_readColour_37 : decode cX7_readColour 37 = .ok (.bipush 9, 2) := by decide +kernel
theorem dX7_readColour_39 : decode cX7_readColour 39 = .ok (.invokevirtual 103, 3) := by decide +kernel
theorem dX7_readColour_42 : decode cX7_readColour 42 = .ok (.iastore, 1) := by decide +kernel
theorem dX7_readColour_43 : decode cX7_readColour 43 = .ok (.aload_n 0, 1) := by decide +kernel
theorem dX7_readColour_44 : decode cX7_readColour 44 = .ok (.getfield 13, 3) := by decide +kernel
theorem dX7_readColour_47 : decode cX7_readColour 47 = .ok (.bipush 15, 2) := by decide +kernel
theorem dX7_readColour_49 : decode cX7_readColour 49 = .ok (.iload_n 2, 1) := by decide +kernel
theorem dX7_readColour_50 : decode cX7_readColour 50 = .ok (.iadd, 1) := by decide +kernel
theorem dX7_readColour_51 : decode cX7_readColour 51 = .ok (.aload_n 0, 1) := by decide +kernel
theorem dX7_readColour_52 : decode cX7_readColour 52 = .ok (.iconst 0, 1) := by decide +kernel
theorem dX7_readColour_53 : decode cX7_readColour 53 = .ok (.bipush 9, 2) := by decide +kernel
theorem dX7_readColour_55 : decode cX7_readColour 55 = .ok (.invokevirtual 103, 3) := by decide +kernel
theorem dX7_readColour_58 : decode cX7_readColour 58 = .ok (.iastore, 1) := by decide +kernel
theorem dX7_readColour_59 : decode cX7_readColour 59 = .ok (.aload_n 0, 1) := by decide +kernel
theorem dX7_readColour_60 : decode cX7_readColour 60 = .ok (.getfield 13, 3) := by decide +kernel
theorem dX7_readColour_63 : decode cX7_readColour 63 = .ok (.bipush 20, 2) := by decide +kernel
theorem dX7_readColour_65 : decode cX7_readColour 65 = .ok (.iload_n 2, 1) := by decide +kernel
theorem dX7_readColour_66 : decode cX7_readColour 66 = .ok (.iadd, 1) := by decide +kernel
theorem dX7_readColour_67 : decode cX7_readColour 67 = .ok (.aload_n 0, 1) := by decide +kernel
theorem dX7_readColour_68 : decode cX7_readColour 68 = .ok (.iconst 0, 1) := by decide +kernel
theorem dX7_readColour_69 : decode cX7_readColour 69 = .ok (.bipush 99, 2) := by decide +kernel
theorem dX7_readColour_71 : decode cX7_readColour 71 = .ok (.invokevirtual 103, 3) := by decide +kernel
theorem dX7_readColour_74 : decode cX7_readColour 74 = .ok (.iastore, 1) := by decide +kernel
theorem dX7_readColour_75 : decode cX7_readColour 75 = .ok (.aload_n 0, 1) := by decide +kernel
theorem dX7_readColour_76 : decode cX7_readColour 76 = .ok (.dup, 1) := by decide +kernel
theorem dX7_readColour_77 : decode cX7_readColour 77 = .ok (.getfield 100, 3) := by decide +kernel
theorem dX7_readColour_80 : decode cX7_readColour 80 = .ok (.iconst 1, 1) := by decide +kernel
theorem dX7_readColour_81 : decode cX7_readColour 81 = .ok (.iadd, 1) := by decide +kernel
theorem dX7_readColour_82 : decode cX7_readColour 82 = .ok (.putfield 100, 3) := by decide +kernel
theorem dX7_readColour_85 : decode cX7_readColour 85 = .ok (.return_, 1) := by decide +kernel
theorem dX7_readLent_0 : decode cX7_readLent 0 = .ok (.aload_n 0, 1) := by decide +kernel
theorem dX7_readLent_1 : decode cX7_readLent 1 = .ok (.iconst 0, 1) := by decide +kernel
theorem dX7_readLent_2 : decode cX7_readLent 2 = .ok (.iconst 3, 1) := by decide +kernel
theorem dX7_readLent_3 : decode cX7_readLent 3 = .ok (.invokevirtual 103, 3) := by decide +kernel
theorem dX7_readLent_6 : decode cX7_readLent 6 = .ok (.istore_n 1, 1) := by decide +kernel
theorem dX7_readLent_7 : decode cX7_readLent 7 = .ok (.aload_n 0, 1) := by decide +kernel
theorem dX7_readLent_8 : decode cX7_readLent 8 = .ok (.iload_n 1, 1) := by decide +kernel
theorem dX7_readLent_9 : decode cX7_readLent 9 = .ok (.aload_n 0, 1) := by decide +kernel
theorem dX7_readLent_10 : decode cX7_readLent 10 = .ok (.getfield 107, 3) := by decide +kernel
theorem dX7_readLent_13 : decode cX7_readLent 13 = .ok (.if_icmp .le 7, 3) := by decide +kernel
theorem dX7_readLent_16 : decode cX7_readLent 16 = .ok (.iload_n 1, 1) := by decide +kernel
theorem dX7_readLent_17 : decode cX7_readLent 17 = .ok (.goto 7, 3) := by decide +kernel
theorem dX7_readLent_20 : decode cX7_readLent 20 = .ok (.aload_n 0, 1) := by decide +kernel
theorem dX7_readLent_21 : decode cX7_readLent 21 = .ok (.getfield 107, 3) := by decide +kernel
theorem dX7_readLent_24 : decode cX7_readLent 24 = .ok (.putfield 107, 3) := by decide +kernel
theorem dX7_readLent_27 : decode cX7_readLent 27 = .ok (.aload_n 0, 1) := by decide +kernel
theorem dX7_readLent_28 : decode cX7_readLent 28 = .ok (.getfield 63, 3) := by decide +kernel
theorem dX7_readLent_31 : decode cX7_readLent 31 = .ok (.ifCond .ne 50, 3) := by decide +kernel
theorem dX7_readLent_34 : decode cX7_readLent 34 = .ok (.aload_n 0, 1) := by decide +kernel
theorem dX7_readLent_35 : decode cX7_readLent 35 = .ok (.getfield 72, 3) := by decide +kernel
theorem dX7_readLent_38 : decode cX7_readLent 38 = .ok (.iconst 2, 1) := by decide +kernel
theorem dX7_readLent_39 : decode cX7_readLent 39 = .ok (.if_icmp .ne 42, 3) := by decide +kernel
theorem dX7_readLent_42 : decode cX7_readLent 42 = .ok (.aload_n 0, 1) := by decide +kernel
theorem dX7_readLent_43 : decode cX7_readLent 43 = .ok (.getfield 82, 3) := by decide +kernel
theorem dX7_readLent_46 : decode cX7_readLent 46 = .ok (.i2l, 1) := by decide +kernel
theorem dX7_readLent_47 : decode cX7_readLent 47 = .ok (.lconst 0, 1) := by decide +kernel
theorem dX7_readLent_48 : decode cX7_readLent 48 = .ok (.ldc2_w 110, 3) := by decide +kernel
theorem dX7_readLent_51 : decode cX7_readLent 51 = .ok (.invokestatic 55, 3) := by decide +kernel
theorem dX7_readLent_54 : decode cX7_readLent 54 = .ok (.ifCond .eq 27, 3) := by decide +kernel
theorem dX7_readLent_57 : decode cX7_readLent 57 = .ok (.aload_n 0, 1) := by decide +kernel
theorem dX7_readLent_58 : decode cX7_readLent 58 = .ok (.getfield 112, 3) := by decide +kernel
theorem dX7_readLent_61 : decode cX7_readLent 61 = .ok (.iconst 5, 1) := by decide +kernel
theorem dX7_readLent_62 : decode cX7_readLent 62 = .ok (.iload_n 1, 1) := by decide +kernel
theorem dX7_readLent_63 : decode cX7_readLent 63 = .ok (.imul, 1) := by decide +kernel
theorem dX7_readLent_64 : decode cX7_readLent 64 = .ok (.aload_n 0, 1) := by decide +kernel
theorem dX7_readLent_65 : decode cX7_readLent 65 = .ok (.getfield 82, 3) := by decide +kernel
theorem dX7_readLent_68 : decode cX7_readLent 68 = .ok (.iadd, 1) := by decide +kernel
theorem dX7_readLent_69 : decode cX7_readLent 69 = .ok (.ishr, 1) := by decide +kernel
theorem dX7_readLent_70 : decode cX7_readLent 70 = .ok (.iconst 1, 1) := by decide +kernel
theorem dX7_readLent_71 : decode cX7_readLent 71 = .ok (.iand, 1) := by decide +kernel
theorem dX7_readLent_72 : decode cX7_readLent 72 = .ok (.iconst 1, 1) := by decide +kernel
theorem dX7_readLent_73 : decode cX7_readLent 73 = .ok (.if_icmp .ne 8, 3) := by decide +kernel
theorem dX7_readLent_76 : decode cX7_readLent 76 = .ok (.aload_n 0, 1) := by decide +kernel
theorem dX7_readLent_77 : decode cX7_readLent 77 = .ok (.iconst 4, 1) := by decide +kernel
theorem dX7_readLent_78 : decode cX7_readLent 78 = .ok (.invokevirtual 93, 3) := by decide +kernel
theorem dX7_readLent_81 : decode cX7_readLent 81 = .ok (.aload_n 0, 1) := by decide +kernel
theorem dX7_readLent_82 : decode cX7_readLent 82 = .ok (.iconst 0, 1) := by decide +kernel
theorem dX7_readLent_83 : decode cX7_readLent 83 = .ok (.iconst 4, 1) := by decide +kernel
theorem dX7_readLent_84 : decode cX7_readLent 84 = .ok (.invokevirtual 103, 3) := by decide +kernel
theorem dX7_readLent_87 : decode cX7_readLent 87 = .ok (.istore_n 2, 1) := by decide +kernel
theorem dX7_readLent_88 : decode cX7_readLent 88 = .ok (.aload_n 0, 1) := by decide +kernel
theorem dX7_readLent_89 : decode cX7_readLent 89 = .ok (.iload_n 2, 1) := by decide +kernel
theorem dX7_readLent_90 : decode cX7_readLent 90 = .ok (.aload_n 0, 1) := by decide +kernel
theorem dX7_readLent_91 : decode cX7_readLent 91 = .ok (.getfield 115, 3) := by decide +kernel
theorem dX7_readLent_94 : decode cX7_readLent 94 = .ok (.if_icmp .le 7, 3) := by decide +kernel
theorem dX7_readLent_97 : decode cX7_readLent 97 = .ok (.iload_n 2, 1) := by decide +kernel
theorem dX7_readLent_98 : decode cX7_readLent 98 = .ok (.goto 7, 3) := by decide +kernel
theorem dX7_readLent_101 : decode cX7_readLent 101 = .ok (.aload_n 0, 1) := by decide +kernel
theorem dX7_readLent_102 : decode cX7_readLent 102 = .ok (.getfield 115, 3) := by decide +kernel
theorem dX7_readLent_105 : decode cX7_readLent 105 = .ok (.putfield 115, 3) := by decide +kernel
theorem dX7_readLent_108 : decode cX7_readLent 108 = .ok (.aload_n 0, 1) := by decide +kernel
theorem dX7_readLent_109 : decode cX7_readLent 109 = .ok (.dup, 1) := by decide +kernel
theorem dX7_readLent_110 : decode cX7_readLent 110 = .ok (.getfield 112, 3) := by decide +kernel
theorem dX7_readLent_113 : decode cX7_readLent 113 = .ok (.iconst 1, 1) := by decide +kernel
theorem dX7_readLent_114 : decode cX7_readLent 114 = .ok (.iconst 5, 1) := by decide +kernel
theorem dX7_readLent_115 : decode cX7_readLent 115 = .ok (.iload_n 1, 1) := by decide +kernel
theorem dX7_readLent_116 : decode cX7_readLent 116 = .ok (.imul, 1) := by decide +kernel
theorem dX7_readLent_117 : decode cX7_readLent 117 = .ok (.iload_n 2, 1) := by decide +kernel
theorem dX7_readLent_118 : decode cX7_readLent 118 = .ok (.iadd, 1) := by decide +kernel
theorem dX7_readLent_119 : decode cX7_readLent 119 = .ok (.ishl, 1) := by decide +kernel
theorem dX7_readLent_120 : decode cX7_readLent 120 = .ok (.ior, 1) := by decide +kernel
theorem dX7_readLent_121 : decode cX7_readLent 121 = .ok (.putfield 112, 3) := by decide +kernel
theorem dX7_readLent_124 : decode cX7_readLent 124 = .ok (.aload_n 0, 1) := by decide +kernel
theorem dX7_readLent_125 : decode cX7_readLent 125 = .ok (.getfield 13, 3) := by decide +kernel
theorem dX7_readLent_128 : decode cX7_readLent 128 = .ok (.bipush 33, 2) := by decide +kernel
theorem dX7_readLent_130 : decode cX7_readLent 130 = .ok (.iconst 5, 1) := by decide +kernel
theorem dX7_readLent_131 : decode cX7_readLent 131 = .ok (.iload_n 1, 1) := by decide +kernel
theorem dX7_readLent_132 : decode cX7_readLent 132 = .ok (.imul, 1) := by decide +kernel
theorem dX7_readLent_133 : decode cX7_readLent 133 = .ok (.iadd, 1) := by decide +kernel
theorem dX7_readLent_134 : decode cX7_readLent 134 = .ok (.iload_n 2, 1) := by decide +kernel
theorem dX7_readLent_135 : decode cX7_readLent 135 = .ok (.iadd, 1) := by decide +kernel
theorem dX7_readLent_136 : decode cX7_readLent 136 = .ok (.aload_n 0, 1) := by decide +kernel
theorem dX7_readLent_137 : decode cX7_readLent 137 = .ok (.iconst 0, 1) := by decide +kernel
theorem dX7_readLent_138 : decode cX7_readLent 138 = .ok (.bipush 99, 2) := by decide +kernel
theorem dX7_readLent_140 : decode cX7_readLent 140 = .ok (.invokevirtual 103, 3) := by decide +kernel
theorem dX7_readLent_143 : decode cX7_readLent 143 = .ok (.iastore, 1) := by decide +kernel
theorem dX7_readLent_144 : decode cX7_readLent 144 = .ok (.return_, 1) := by decide +kernel
theorem dX7_readMore_0 : decode cX7_readMore 0 = .ok (.iload_n 1, 1) := by decide +kernel
theorem dX7_readMore_1 : decode cX7_readMore 1 = .ok (.iconst 3, 1) := by decide +kernel
theorem dX7_readMore_2 : decode cX7_readMore 2 = .ok (.if_icmp .gt 11, 3) := by decide +kernel
theorem dX7_readMore_5 : decode cX7_readMore 5 = .ok (.aload_n 0, 1) := by decide +kernel
theorem dX7_readMore_6 : decode cX7_readMore 6 = .ok (.iload_n 1, 1) := by decide +kernel
theorem dX7_readMore_7 : decode cX7_readMore 7 = .ok (.invokevirtual 118, 3) := by decide +kernel
theorem dX7_readMore_10 : decode cX7_readMore 10 = .ok (.goto 63, 3) := by decide +kernel
theorem dX7_readMore_13 : decode cX7_readMore 13 = .ok (.iload_n 1, 1) := by decide +kernel
theorem dX7_readMore_14 : decode cX7_readMore 14 = .ok (.iconst 4, 1) := by decide +kernel
theorem dX7_readMore_15 : decode cX7_readMore 15 = .ok (.if_icmp .ne 54, 3) := by decide +kernel
theorem dX7_readMore_18 : decode cX7_readMore 18 = .ok (.aload_n 0, 1) := by decide +kernel
theorem dX7_readMore_19 : decode cX7_readMore 19 = .ok (.getfield 13, 3) := by decide +kernel
theorem dX7_readMore_22 : decode cX7_readMore 22 = .ok (.bipush 25, 2) := by decide +kernel
theorem dX7_readMore_24 : decode cX7_readMore 24 = .ok (.aload_n 0, 1) := by decide +kernel
theorem dX7_readMore_25 : decode cX7_readMore 25 = .ok (.getfield 121, 3) := by decide +kernel
theorem dX7_readMore_28 : decode cX7_readMore 28 = .ok (.iadd, 1) := by decide +kernel
theorem dX7_readMore_29 : decode cX7_readMore 29 = .ok (.aload_n 0, 1) := by decide +kernel
theorem dX7_readMore_30 : decode cX7_readMore 30 = .ok (.iconst 0, 1) := by decide +kernel
theorem dX7_readMore_31 : decode cX7_readMore 31 = .ok (.bipush 99, 2) := by decide +kernel
theorem dX7_readMore_33 : decode cX7_readMore 33 = .ok (.invokevirtual 103, 3) := by decide +kernel
theorem dX7_readMore_36 : decode cX7_readMore 36 = .ok (.iastore, 1) := by decide +kernel
theorem dX7_readMore_37 : decode cX7_readMore 37 = .ok (.aload_n 0, 1) := by decide +kernel
theorem dX7_readMore_38 : decode cX7_readMore 38 = .ok (.getfield 13, 3) := by decide +kernel
theorem dX7_readMore_41 : decode cX7_readMore 41 = .ok (.bipush 29, 2) := by decide +kernel
theorem dX7_readMore_43 : decode cX7_readMore 43 = .ok (.aload_n 0, 1) := by decide +kernel
theorem dX7_readMore_44 : decode cX7_readMore 44 = .ok (.getfield 121, 3) := by decide +kernel
theorem dX7_readMore_47 : decode cX7_readMore 47 = .ok (.iadd, 1) := by decide +kernel
theorem dX7_readMore_48 : decode cX7_readMore 48 = .ok (.aload_n 0, 1) := by decide +kernel
theorem dX7_readMore_49 : decode cX7_readMore 49 = .ok (.iconst 0, 1) := by decide +kernel
theorem dX7_readMore_50 : decode cX7_readMore 50 = .ok (.bipush 99, 2) := by decide +kernel
theorem dX7_readMore_52 : decode cX7_readMore 52 = .ok (.invokevirtual 103, 3) := by decide +kernel
theorem dX7_readMore_55 : decode cX7_readMore 55 = .ok (.iastore, 1) := by decide +kernel
theorem dX7_readMore_56 : decode cX7_readMore 56 = .ok (.aload_n 0, 1) := by decide +kernel
theorem dX7_readMore_57 : decode cX7_readMore 57 = .ok (.dup, 1) := by decide +kernel
theorem dX7_readMore_58 : decode cX7_readMore 58 = .ok (.getfield 121, 3) := by decide +kernel
theorem dX7_readMore_61 : decode cX7_readMore 61 = .ok (.iconst 1, 1) := by decide +kernel
theorem dX7_readMore_62 : decode cX7_readMore 62 = .ok (.iadd, 1) := by decide +kernel
theorem dX7_readMore_63 : decode cX7_readMore 63 = .ok (.putfield 121, 3) := by decide +kernel
theorem dX7_readMore_66 : decode cX7_readMore 66 = .ok (.goto 7, 3) := by decide +kernel
theorem dX7_readMore_69 : decode cX7_readMore 69 = .ok (.aload_n 0, 1) := by decide +kernel
theorem dX7_readMore_70 : decode cX7_readMore 70 = .ok (.invokevirtual 124, 3) := by decide +kernel
theorem dX7_readMore_73 : decode cX7_readMore 73 = .ok (.return_, 1) := by decide +kernel
theorem dX7_readLine_0 : decode cX7_readLine 0 = .ok (.aload_n 0, 1) := by decide +kernel
theorem dX7_readLine_1 : decode cX7_readLine 1 = .ok (.invokevirtual 127, 3) := by decide +kernel
theorem dX7_readLine_4 : decode cX7_readLine 4 = .ok (.istore_n 1, 1) := by decide +kernel
theorem dX7_readLine_5 : decode cX7_readLine 5 = .ok (.iload_n 1, 1) := by decide +kernel
theorem dX7_readLine_6 : decode cX7_readLine 6 = .ok (.i2l, 1) := by decide +kernel
theorem dX7_readLine_7 : decode cX7_readLine 7 = .ok (.lconst 0, 1) := by decide +kernel
theorem dX7_readLine_8 : decode cX7_readLine 8 = .ok (.ldc2_w 131, 3) := by decide +kernel
theorem dX7_readLine_11 : decode cX7_readLine 11 = .ok (.invokestatic 55, 3) := by decide +kernel
theorem dX7_readLine_14 : decode cX7_readLine 14 = .ok (.ifCond .ne 9, 3) := by decide +kernel
theorem dX7_readLine_17 : decode cX7_readLine 17 = .ok (.aload_n 0, 1) := by decide +kernel
theorem dX7_readLine_18 : decode cX7_readLine 18 = .ok (.iconst 2, 1) := by decide +kernel
theorem dX7_readLine_19 : decode cX7_readLine 19 = .ok (.invokevirtual 93, 3) := by decide +kernel
theorem dX7_readLine_22 : decode cX7_readLine 22 = .ok (.return_, 1) := by decide +kernel
theorem dX7_readLine_23 : decode cX7_readLine 23 = .ok (.iload_n 1, 1) := by decide +kernel
theorem dX7_readLine_24 : decode cX7_readLine 24 = .ok (.iconst 3, 1) := by decide +kernel
theorem dX7_readLine_25 : decode cX7_readLine 25 = .ok (.if_icmp .gt 11, 3) := by decide +kernel
theorem dX7_readLine_28 : decode cX7_readLine 28 = .ok (.aload_n 0, 1) := by decide +kernel
theorem dX7_readLine_29 : decode cX7_readLine 29 = .ok (.getfield 100, 3) := by decide +kernel
theorem dX7_readLine_32 : decode cX7_readLine 32 = .ok (.iconst 5, 1) := by decide +kernel
theorem dX7_readLine_33 : decode cX7_readLine 33 = .ok (.if_icmp .eq 16, 3) := by decide +kernel
theorem dX7_readLine_36 : decode cX7_readLine 36 = .ok (.iload_n 1, 1) := by decide +kernel
theorem dX7_readLine_37 : decode cX7_readLine 37 = .ok (.iconst 4, 1) := by decide +kernel
theorem dX7_readLine_38 : decode cX7_readLine 38 = .ok (.if_icmp .ne 16, 3) := by decide +kernel
theorem dX7_readLine_41 : decode cX7_readLine 41 = .ok (.aload_n 0, 1) := by decide +kernel
theorem dX7_readLine_42 : decode cX7_readLine 42 = .ok (.getfield 121, 3) := by decide +kernel
theorem dX7_readLine_45 : decode cX7_readLine 45 = .ok (.iconst 4, 1) := by decide +kernel
theorem dX7_readLine_46 : decode cX7_readLine 46 = .ok (.if_icmp .ne 8, 3) := by decide +kernel
theorem dX7_readLine_49 : decode cX7_readLine 49 = .ok (.aload_n 0, 1) := by decide +kernel
theorem dX7_readLine_50 : decode cX7_readLine 50 = .ok (.iconst 5, 1) := by decide +kernel
theorem dX7_readLine_51 : decode cX7_readLine 51 = .ok (.invokevirtual 93, 3) := by decide +kernel
theorem dX7_readLine_54 : decode cX7_readLine 54 = .ok (.aload_n 0, 1) := by decide +kernel
theorem dX7_readLine_55 : decode cX7_readLine 55 = .ok (.invokevirtual 97, 3) := by decide +kernel
theorem dX7_readLine_58 : decode cX7_readLine 58 = .ok (.aload_n 0, 1) := by decide +kernel
theorem dX7_readLine_59 : decode cX7_readLine 59 = .ok (.getfield 63, 3) := by decide +kernel
theorem dX7_readLine_62 : decode cX7_readLine 62 = .ok (.ifCond .le 4, 3) := by decide +kernel
theorem dX7_readLine_65 : decode cX7_readLine 65 = .ok (.return_, 1) := by decide +kernel
theorem dX7_readLine_66 : decode cX7_readLine 66 = .ok (.aload_n 0, 1) := by decide +kernel
theorem dX7_readLine_67 : decode cX7_readLine 67 = .ok (.iload_n 1, 1) := by decide +kernel
theorem dX7_readLine_68 : decode cX7_readLine 68 = .ok (.invokevirtual 133, 3) := by decide +kernel
theorem dX7_readLine_71 : decode cX7_readLine 71 = .ok (.aload_n 0, 1) := by decide +kernel
theorem dX7_readLine_72 : decode cX7_readLine 72 = .ok (.getfield 63, 3) := by decide +kernel
theorem dX7_readLine_75 : decode cX7_readLine 75 = .ok (.ifCond .ne 16, 3) := by decide +kernel
theorem dX7_readLine_78 : decode cX7_readLine 78 = .ok (.aload_n 0, 1) := by decide +kernel
theorem dX7_readLine_79 : decode cX7_readLine 79 = .ok (.getfield 72, 3) := by decide +kernel
theorem dX7_readLine_82 : decode cX7_readLine 82 = .ok (.iconst 3, 1) := by decide +kernel
theorem dX7_readLine_83 : decode cX7_readLine 83 = .ok (.if_icmp .eq 8, 3) := by decide +kernel
theorem dX7_readLine_86 : decode cX7_readLine 86 = .ok (.aload_n 0, 1) := by decide +kernel
theorem dX7_readLine_87 : decode cX7_readLine 87 = .ok (.iconst 2, 1) := by decide +kernel
theorem dX7_readLine_88 : decode cX7_readLine 88 = .ok (.invokevirtual 93, 3) := by decide +kernel
theorem dX7_readLine_91 : decode cX7_readLine 91 = .ok (.aload_n 0, 1) := by decide +kernel
theorem dX7_readLine_92 : decode cX7_readLine 92 = .ok (.invokevirtual 97, 3) := by decide +kernel
theorem dX7_readLine_95 : decode cX7_readLine 95 = .ok (.return_, 1) := by decide +kernel
theorem dX7_text_0 : decode cX7_text 0 = .ok (.aload_n 0, 1) := by decide +kernel
theorem dX7_text_1 : decode cX7_text 1 = .ok (.iconst 0, 1) := by decide +kernel
theorem dX7_text_2 : decode cX7_text 2 = .ok (.putfield 63, 3) := by decide +kernel
theorem dX7_text_5 : decode cX7_text 5 = .ok (.aload_n 0, 1) := by decide +kernel
theorem dX7_text_6 : decode cX7_text 6 = .ok (.iconst 0, 1) := by decide +kernel
theorem dX7_text_7 : decode cX7_text 7 = .ok (.putfield 75, 3) := by decide +kernel
theorem dX7_text_10 : decode cX7_text 10 = .ok (.aload_n 0, 1) := by decide +kernel
theorem dX7_text_11 : decode cX7_text 11 = .ok (.iconst 0, 1) := by decide +kernel
theorem dX7_text_12 : decode cX7_text 12 = .ok (.putfield 100, 3) := by decide +kernel
theorem dX7_text_15 : decode cX7_text 15 = .ok (.aload_n 0, 1) := by decide +kernel
theorem dX7_text_16 : decode cX7_text 16 = .ok (.iconst 0, 1) := by decide +kernel
theorem dX7_text_17 : decode cX7_text 17 = .ok (.putfield 121, 3) := by decide +kernel
theorem dX7_text_20 : decode cX7_text 20 = .ok (.aload_n 0, 1) := by decide +kernel
theorem dX7_text_21 : decode cX7_text 21 = .ok (.iconst 0, 1) := by decide +kernel
theorem dX7_text_22 : decode cX7_text 22 = .ok (.putfield 112, 3) := by decide +kernel
theorem dX7_text_25 : decode cX7_text 25 = .ok (.aload_n 0, 1) := by decide +kernel
theorem dX7_text_26 : decode cX7_text 26 = .ok (.iconst (-1), 1) := by decide +kernel
theorem dX7_text_27 : decode cX7_text 27 = .ok (.putfield 107, 3) := by decide +kernel
theorem dX7_text_30 : decode cX7_text 30 = .ok (.aload_n 0, 1) := by decide +kernel
theorem dX7_text_31 : decode cX7_text 31 = .ok (.iconst (-1), 1) := by decide +kernel
theorem dX7_text_32 : decode cX7_text 32 = .ok (.putfield 115, 3) := by decide +kernel
theorem dX7_text_35 : decode cX7_text 35 = .ok (.iconst 0, 1) := by decide +kernel
theorem dX7_text_36 : decode cX7_text 36 = .ok (.istore_n 1, 1) := by decide +kernel
theorem dX7_text_37 : decode cX7_text 37 = .ok (.iconst 0, 1) := by decide +kernel
theorem dX7_text_38 : decode cX7_text 38 = .ok (.istore_n 2, 1) := by decide +kernel
theorem dX7_text_39 : decode cX7_text 39 = .ok (.iload_n 2, 1) := by decide +kernel
theorem dX7_text_40 : decode cX7_text 40 = .ok (.bipush 55, 2) := by decide +kernel
theorem dX7_text_42 : decode cX7_text 42 = .ok (.if_icmp .ge 16, 3) := by decide +kernel
theorem dX7_text_45 : decode cX7_text 45 = .ok (.aload_n 0, 1) := by decide +kernel
theorem dX7_text_46 : decode cX7_text 46 = .ok (.getfield 13, 3) := by decide +kernel
theorem dX7_text_49 : decode cX7_text 49 = .ok (.iload_n 2, 1) := by decide +kernel
theorem dX7_text_50 : decode cX7_text 50 = .ok (.iconst 0, 1) := by decide +kernel
theorem dX7_text_51 : decode cX7_text 51 = .ok (.iastore, 1) := by decide +kernel
theorem dX7_text_52 : decode cX7_text 52 = .ok (.iinc 2 1, 3) := by decide +kernel
theorem dX7_text_55 : decode cX7_text 55 = .ok (.goto (-16), 3) := by decide +kernel
theorem dX7_text_58 : decode cX7_text 58 = .ok (.aload_n 0, 1) := by decide +kernel
theorem dX7_text_59 : decode cX7_text 59 = .ok (.invokevirtual 97, 3) := by decide +kernel
theorem dX7_text_62 : decode cX7_text 62 = .ok (.aload_n 0, 1) := by decide +kernel
theorem dX7_text_63 : decode cX7_text 63 = .ok (.getfield 63, 3) := by decide +kernel
theorem dX7_text_66 : decode cX7_text 66 = .ok (.ifCond .ne 20, 3) := by decide +kernel
theorem dX7_text_69 : decode cX7_text 69 = .ok (.aload_n 0, 1) := by decide +kernel
theorem dX7_text_70 : decode cX7_text 70 = .ok (.getfield 72, 3) := by decide +kernel
theorem dX7_text_73 : decode cX7_text 73 = .ok (.ifCond .eq 13, 3) := by decide +kernel
theorem dX7_text_76 : decode cX7_text 76 = .ok (.aload_n 0, 1) := by decide +kernel
theorem dX7_text_77 : decode cX7_text 77 = .ok (.invokevirtual 136, 3) := by decide +kernel
theorem dX7_text_80 : decode cX7_text 80 = .ok (.iinc 1 1, 3) := by decide +kernel
theorem dX7_text_83 : decode cX7_text 83 = .ok (.goto (-21), 3) := by decide +kernel
theorem dX7_text_86 : decode cX7_text 86 = .ok (.aload_n 0, 1) := by decide +kernel
theorem dX7_text_87 : decode cX7_text 87 = .ok (.getfield 63, 3) := by decide +kernel
theorem dX7_text_90 : decode cX7_text 90 = .ok (.ifCond .ne 31, 3) := by decide +kernel
theorem dX7_text_93 : decode cX7_text 93 = .ok (.aload_n 0, 1) := by decide +kernel
theorem dX7_text_94 : decode cX7_text 94 = .ok (.getfield 107, 3) := by decide +kernel
theorem dX7_text_97 : decode cX7_text 97 = .ok (.aload_n 0, 1) := by decide +kernel
theorem dX7_text_98 : decode cX7_text 98 = .ok (.getfield 121, 3) := by decide +kernel
theorem dX7_text_101 : decode cX7_text 101 = .ok (.if_icmp .ge 14, 3) := by decide +kernel
theorem dX7_text_104 : decode cX7_text 104 = .ok (.aload_n 0, 1) := by decide +kernel
theorem dX7_text_105 : decode cX7_text 105 = .ok (.getfield 115, 3) := by decide +kernel
theorem dX7_text_108 : decode cX7_text 108 = .ok (.aload_n 0, 1) := by decide +kernel
theorem dX7_text_109 : decode cX7_text 109 = .ok (.getfield 100, 3) := by decide +kernel
theorem dX7_text_112 : decode cX7_text 112 = .ok (.if_icmp .lt 9, 3) := by decide +kernel
theorem dX7_text_115 : decode cX7_text 115 = .ok (.aload_n 0, 1) := by decide +kernel
theorem dX7_text_116 : decode cX7_text 116 = .ok (.bipush 6, 2) := by decide +kernel
theorem dX7_text_118 : decode cX7_text 118 = .ok (.invokevirtual 93, 3) := by decide +kernel
theorem dX7_text_121 : decode cX7_text 121 = .ok (.aload_n 0, 1) := by decide +kernel
theorem dX7_text_122 : decode cX7_text 122 = .ok (.iconst 0, 1) := by decide +kernel
theorem dX7_text_123 : decode cX7_text 123 = .ok (.putfield 59, 3) := by decide +kernel
theorem dX7_text_126 : decode cX7_text 126 = .ok (.aload_n 0, 1) := by decide +kernel
theorem dX7_text_127 : decode cX7_text 127 = .ok (.aload_n 0, 1) := by decide +kernel
theorem dX7_text_128 : decode cX7_text 128 = .ok (.getfield 63, 3) := by decide +kernel
theorem dX7_text_131 : decode cX7_text 131 = .ok (.putfield 139, 3) := by decide +kernel
theorem dX7_text_134 : decode cX7_text 134 = .ok (.aload_n 0, 1) := by decide +kernel
theorem dX7_text_135 : decode cX7_text 135 = .ok (.getfield 63, 3) := by decide +kernel
theorem dX7_text_138 : decode cX7_text 138 = .ok (.ifCond .le 11, 3) := by decide +kernel
theorem dX7_text_141 : decode cX7_text 141 = .ok (.bipush (-10), 2) := by decide +kernel
theorem dX7_text_143 : decode cX7_text 143 = .ok (.aload_n 0, 1) := by decide +kernel
theorem dX7_text_144 : decode cX7_text 144 = .ok (.getfield 69, 3) := by decide +kernel
theorem dX7_text_147 : decode cX7_text 147 = .ok (.isub, 1) := by decide +kernel
theorem dX7_text_148 : decode cX7_text 148 = .ok (.ireturn, 1) := by decide +kernel
theorem dX7_text_149 : decode cX7_text 149 = .ok (.iconst 0, 1) := by decide +kernel
theorem dX7_text_150 : decode cX7_text 150 = .ok (.istore_n 2, 1) := by decide +kernel
theorem dX7_text_151 : decode cX7_text 151 = .ok (.iload_n 2, 1) := by decide +kernel
theorem dX7_text_152 : decode cX7_text 152 = .ok (.bipush 55, 2) := by decide +kernel
theorem dX7_text_154 : decode cX7_text 154 = .ok (.if_icmp .ge 21, 3) := by decide +kernel
theorem dX7_text_157 : decode cX7_text 157 = .ok (.aload_n 0, 1) := by decide +kernel
theorem dX7_text_158 : decode cX7_text 158 = .ok (.getfield 7, 3) := by decide +kernel
theorem dX7_text_161 : decode cX7_text 161 = .ok (.iload_n 2, 1) := by decide +kernel
theorem dX7_text_162 : decode cX7_text 162 = .ok (.aload_n 0, 1) := by decide +kernel
theorem dX7_text_163 : decode cX7_text 163 = .ok (.getfield 13, 3) := by decide +kernel
theorem dX7_text_166 : decode cX7_text 166 = .ok (.iload_n 2, 1) := by decide +kernel
theorem dX7_text_167 : decode cX7_text 167 = .ok (.iaload, 1) := by decide +kernel
theorem dX7_text_168 : decode cX7_text 168 = .ok (.iastore, 1) := by decide +kernel
theorem dX7_text_169 : decode cX7_text 169 = .ok (.iinc 2 1, 3) := by decide +kernel
theorem dX7_text_172 : decode cX7_text 172 = .ok (.goto (-21), 3) := by decide +kernel
theorem dX7_text_175 : decode cX7_text 175 = .ok (.aload_n 0, 1) := by decide +kernel
theorem dX7_text_176 : decode cX7_text 176 = .ok (.aload_n 0, 1) := by decide +kernel
theorem dX7_text_177 : decode cX7_text 177 = .ok (.getfield 100, 3) := by decide +kernel
theorem dX7_text_180 : decode cX7_text 180 = .ok (.putfield 142, 3) := by decide +kernel
theorem dX7_text_183 : decode cX7_text 183 = .ok (.aload_n 0, 1) := by decide +kernel
theorem dX7_text_184 : decode cX7_text 184 = .ok (.aload_n 0, 1) := by decide +kernel
theorem dX7_text_185 : decode cX7_text 185 = .ok (.getfield 121, 3) := by decide +kernel
theorem dX7_text_188 : decode cX7_text 188 = .ok (.putfield 145, 3) := by decide +kernel
theorem dX7_text_191 : decode cX7_text 191 = .ok (.aload_n 0, 1) := by decide +kernel
theorem dX7_text_192 : decode cX7_text 192 = .ok (.iconst 0, 1) := by decide +kernel
theorem dX7_text_193 : decode cX7_text 193 = .ok (.putfield 148, 3) := by decide +kernel
theorem dX7_text_196 : decode cX7_text 196 = .ok (.aload_n 0, 1) := by decide +kernel
theorem dX7_text_197 : decode cX7_text 197 = .ok (.getfield 40, 3) := by decide +kernel
theorem dX7_text_200 : decode cX7_text 200 = .ok (.iconst 0, 1) := by decide +kernel
theorem dX7_text_201 : decode cX7_text 201 = .ok (.iconst 0, 1) := by decide +kernel
theorem dX7_text_202 : decode cX7_text 202 = .ok (.bastore, 1) := by decide +kernel
theorem dX7_text_203 : decode cX7_text 203 = .ok (.aload_n 0, 1) := by decide +kernel
theorem dX7_text_204 : decode cX7_text 204 = .ok (.getfield 40, 3) := by decide +kernel
theorem dX7_text_207 : decode cX7_text 207 = .ok (.iconst 1, 1) := by decide +kernel
theorem dX7_text_208 : decode cX7_text 208 = .ok (.iconst 0, 1) := by decide +kernel
theorem dX7_text_209 : decode cX7_text 209 = .ok (.bastore, 1) := by decide +kernel
theorem dX7_text_210 : decode cX7_text 210 = .ok (.iload_n 1, 1) := by decide +kernel
theorem dX7_text_211 : decode cX7_text 211 = .ok (.ireturn, 1) := by decide +kernel
theorem dX7_fault_0 : decode cX7_fault 0 = .ok (.aload_n 0, 1) := by decide +kernel
theorem dX7_fault_1 : decode cX7_fault 1 = .ok (.getfield 139, 3) := by decide +kernel
theorem dX7_fault_4 : decode cX7_fault 4 = .ok (.ireturn, 1) := by decide +kernel
theorem dX7_isColour_0 : decode cX7_isColour 0 = .ok (.iload_n 1, 1) := by decide +kernel
theorem dX7_isColour_1 : decode cX7_isColour 1 = .ok (.i2l, 1) := by decide +kernel
theorem dX7_isColour_2 : decode cX7_isColour 2 = .ok (.lconst 0, 1) := by decide +kernel
theorem dX7_isColour_3 : decode cX7_isColour 3 = .ok (.aload_n 0, 1) := by decide +kernel
theorem dX7_isColour_4 : decode cX7_isColour 4 = .ok (.getfield 142, 3) := by decide +kernel
theorem dX7_isColour_7 : decode cX7_isColour 7 = .ok (.iconst 1, 1) := by decide +kernel
theorem dX7_isColour_8 : decode cX7_isColour 8 = .ok (.isub, 1) := by decide +kernel
theorem dX7_isColour_9 : decode cX7_isColour 9 = .ok (.i2l, 1) := by decide +kernel
theorem dX7_isColour_10 : decode cX7_isColour 10 = .ok (.invokestatic 55, 3) := by decide +kernel
theorem dX7_isColour_13 : decode cX7_isColour 13 = .ok (.ireturn, 1) := by decide +kernel
theorem dX7_isOne_0 : decode cX7_isOne 0 = .ok (.iload_n 1, 1) := by decide +kernel
theorem dX7_isOne_1 : decode cX7_isOne 1 = .ok (.i2l, 1) := by decide +kernel
theorem dX7_isOne_2 : decode cX7_isOne 2 = .ok (.lconst 0, 1) := by decide +kernel
theorem dX7_isOne_3 : decode cX7_isOne 3 = .ok (.aload_n 0, 1) := by decide +kernel
theorem dX7_isOne_4 : decode cX7_isOne 4 = .ok (.getfield 145, 3) := by decide +kernel
theorem dX7_isOne_7 : decode cX7_isOne 7 = .ok (.iconst 1, 1) := by decide +kernel
theorem dX7_isOne_8 : decode cX7_isOne 8 = .ok (.isub, 1) := by decide +kernel
theorem dX7_isOne_9 : decode cX7_isOne 9 = .ok (.i2l, 1) := by decide +kernel
theorem dX7_isOne_10 : decode cX7_isOne 10 = .ok (.invokestatic 55, 3) := by decide +kernel
theorem dX7_isOne_13 : decode cX7_isOne 13 = .ok (.ireturn, 1) := by decide +kernel
theorem dX7_rentOn_0 : decode cX7_rentOn 0 = .ok (.aload_n 0, 1) := by decide +kernel
theorem dX7_rentOn_1 : decode cX7_rentOn 1 = .ok (.getfield 7, 3) := by decide +kernel
theorem dX7_rentOn_4 : decode cX7_rentOn 4 = .ok (.iload_n 1, 1) := by decide +kernel
theorem dX7_rentOn_5 : decode cX7_rentOn 5 = .ok (.iload_n 2, 1) := by decide +kernel
theorem dX7_rentOn_6 : decode cX7_rentOn 6 = .ok (.iadd, 1) := by decide +kernel
theorem dX7_rentOn_7 : decode cX7_rentOn 7 = .ok (.iaload, 1) := by decide +kernel
theorem dX7_rentOn_8 : decode cX7_rentOn 8 = .ok (.istore_n 3, 1) := by decide +kernel
theorem dX7_rentOn_9 : decode cX7_rentOn 9 = .ok (.iload_n 3, 1) := by decide +kernel
theorem dX7_rentOn_10 : decode cX7_rentOn 10 = .ok (.ifCond .ne 7, 3) := by decide +kernel
theorem dX7_rentOn_13 : decode cX7_rentOn 13 = .ok (.iconst 2, 1) := by decide +kernel
theorem dX7_rentOn_14 : decode cX7_rentOn 14 = .ok (.goto 23, 3) := by decide +kernel
theorem dX7_rentOn_17 : decode cX7_rentOn 17 = .ok (.iload_n 3, 1) := by decide +kernel
theorem dX7_rentOn_18 : decode cX7_rentOn 18 = .ok (.iconst 1, 1) := by decide +kernel
theorem dX7_rentOn_19 : decode cX7_rentOn 19 = .ok (.if_icmp .ne 7, 3) := by decide +kernel
theorem dX7_rentOn_22 : decode cX7_rentOn 22 = .ok (.iconst 3, 1) := by decide +kernel
theorem dX7_rentOn_23 : decode cX7_rentOn 23 = .ok (.goto 14, 3) := by decide +kernel
theorem dX7_rentOn_26 : decode cX7_rentOn 26 = .ok (.iload_n 3, 1) := by decide +kernel
theorem dX7_rentOn_27 : decode cX7_rentOn 27 = .ok (.iconst 2, 1) := by decide +kernel
theorem dX7_rentOn_28 : decode cX7_rentOn 28 = .ok (.if_icmp .ne 8, 3) := by decide +kernel
theorem dX7_rentOn_31 : decode cX7_rentOn 31 = .ok (.bipush 6, 2) := by decide +kernel
theorem dX7_rentOn_33 : decode cX7_rentOn 33 = .ok (.goto 4, 3) := by decide +kernel
theorem dX7_rentOn_36 : decode cX7_rentOn 36 = .ok (.iconst 1, 1) := by decide +kernel
theorem dX7_rentOn_37 : decode cX7_rentOn 37 = .ok (.ireturn, 1) := by decide +kernel
theorem dX7_fadesOn_0 : decode cX7_fadesOn 0 = .ok (.aload_n 0, 1) := by decide +kernel
theorem dX7_fadesOn_1 : decode cX7_fadesOn 1 = .ok (.getfield 7, 3) := by decide +kernel
theorem dX7_fadesOn_4 : decode cX7_fadesOn 4 = .ok (.iload_n 1, 1) := by decide +kernel
theorem dX7_fadesOn_5 : decode cX7_fadesOn 5 = .ok (.iload_n 2, 1) := by decide +kernel
theorem dX7_fadesOn_6 : decode cX7_fadesOn 6 = .ok (.iadd, 1) := by decide +kernel
theorem dX7_fadesOn_7 : decode cX7_fadesOn 7 = .ok (.iaload, 1) := by decide +kernel
theorem dX7_fadesOn_8 : decode cX7_fadesOn 8 = .ok (.istore_n 3, 1) := by decide +kernel
theorem dX7_fadesOn_9 : decode cX7_fadesOn 9 = .ok (.iload_n 3, 1) := by decide +kernel
theorem dX7_fadesOn_10 : decode cX7_fadesOn 10 = .ok (.ifCond .ne 7, 3) := by decide +kernel
theorem dX7_fadesOn_13 : decode cX7_fadesOn 13 = .ok (.iconst 1, 1) := by decide +kernel
theorem dX7_fadesOn_14 : decode cX7_fadesOn 14 = .ok (.goto 13, 3) := by decide +kernel
theorem dX7_fadesOn_17 : decode cX7_fadesOn 17 = .ok (.iload_n 3, 1) := by decide +kernel
theorem dX7_fadesOn_18 : decode cX7_fadesOn 18 = .ok (.iconst 3, 1) := by decide +kernel
theorem dX7_fadesOn_19 : decode cX7_fadesOn 19 = .ok (.if_icmp .ne 7, 3) := by decide +kernel
theorem dX7_fadesOn_22 : decode cX7_fadesOn 22 = .ok (.iconst 3, 1) := by decide +kernel
theorem dX7_fadesOn_23 : decode cX7_fadesOn 23 = .ok (.goto 4, 3) := by decide +kernel
theorem dX7_fadesOn_26 : decode cX7_fadesOn 26 = .ok (.iconst 0, 1) := by decide +kernel
theorem dX7_fadesOn_27 : decode cX7_fadesOn 27 = .ok (.ireturn, 1) := by decide +kernel
theorem dX7_heldOn_0 : decode cX7_heldOn 0 = .ok (.iconst 0, 1) := by decide +kernel
theorem dX7_heldOn_1 : decode cX7_heldOn 1 = .ok (.istore_n 3, 1) := by decide +kernel
theorem dX7_heldOn_2 : decode cX7_heldOn 2 = .ok (.iconst 0, 1) := by decide +kernel
theorem dX7_heldOn_3 : decode cX7_heldOn 3 = .ok (.istore 4, 2) := by decide +kernel
theorem dX7_heldOn_5 : decode cX7_heldOn 5 = .ok (.iload 4, 2) := by decide +kernel
theorem dX7_heldOn_7 : decode cX7_heldOn 7 = .ok (.aload_n 0, 1) := by decide +kernel
theorem dX7_heldOn_8 : decode cX7_heldOn 8 = .ok (.getfield 142, 3) := by decide +kernel
theorem dX7_heldOn_11 : decode cX7_heldOn 11 = .ok (.if_icmp .ge 28, 3) := by decide +kernel
theorem dX7_heldOn_14 : decode cX7_heldOn 14 = .ok (.iload_n 3, 1) := by decide +kernel
theorem dX7_heldOn_15 : decode cX7_heldOn 15 = .ok (.aload_n 0, 1) := by decide +kernel
theorem dX7_heldOn_16 : decode cX7_heldOn 16 = .ok (.getfield 7, 3) := by decide +kernel
theorem dX7_heldOn_19 : decode cX7_heldOn 19 = .ok (.iload_n 1, 1) := by decide +kernel
theorem dX7_heldOn_20 : decode cX7_heldOn 20 = .ok (.bipush 33, 2) := by decide +kernel
theorem dX7_heldOn_22 : decode cX7_heldOn 22 = .ok (.iadd, 1) := by decide +kernel
theorem dX7_heldOn_23 : decode cX7_heldOn 23 = .ok (.iconst 5, 1) := by decide +kernel
theorem dX7_heldOn_24 : decode cX7_heldOn 24 = .ok (.iload_n 2, 1) := by decide +kernel
theorem dX7_heldOn_25 : decode cX7_heldOn 25 = .ok (.imul, 1) := by decide +kernel
theorem dX7_heldOn_26 : decode cX7_heldOn 26 = .ok (.iadd, 1) := by decide +kernel
theorem dX7_heldOn_27 : decode cX7_heldOn 27 = .ok (.iload 4, 2) := by decide +kernel
theorem dX7_heldOn_29 : decode cX7_heldOn 29 = .ok (.iadd, 1) := by decide +kernel
theorem dX7_heldOn_30 : decode cX7_heldOn 30 = .ok (.iaload, 1) := by decide +kernel
theorem dX7_heldOn_31 : decode cX7_heldOn 31 = .ok (.iadd, 1) := by decide +kernel
theorem dX7_heldOn_32 : decode cX7_heldOn 32 = .ok (.istore_n 3, 1) := by decide +kernel
theorem dX7_heldOn_33 : decode cX7_heldOn 33 = .ok (.iinc 4 1, 3) := by decide +kernel
theorem dX7_heldOn_36 : decode cX7_heldOn 36 = .ok (.goto (-31), 3) := by decide +kernel
theorem dX7_heldOn_39 : decode cX7_heldOn 39 = .ok (.iload_n 3, 1) := by decide +kernel
theorem dX7_heldOn_40 : decode cX7_heldOn 40 = .ok (.ireturn, 1) := by decide +kernel
theorem dX7_heldByAll_0 : decode cX7_heldByAll 0 = .ok (.iconst 0, 1) := by decide +kernel
theorem dX7_heldByAll_1 : decode cX7_heldByAll 1 = .ok (.istore_n 2, 1) := by decide +kernel
theorem dX7_heldByAll_2 : decode cX7_heldByAll 2 = .ok (.iconst 0, 1) := by decide +kernel
theorem dX7_heldByAll_3 : decode cX7_heldByAll 3 = .ok (.istore_n 3, 1) := by decide +kernel
theorem dX7_heldByAll_4 : decode cX7_heldByAll 4 = .ok (.iload_n 3, 1) := by decide +kernel
theorem dX7_heldByAll_5 : decode cX7_heldByAll 5 = .ok (.aload_n 0, 1) := by decide +kernel
theorem dX7_heldByAll_6 : decode cX7_heldByAll 6 = .ok (.getfield 145, 3) := by decide +kernel
theorem dX7_heldByAll_9 : decode cX7_heldByAll 9 = .ok (.if_icmp .ge 18, 3) := by decide +kernel
theorem dX7_heldByAll_12 : decode cX7_heldByAll 12 = .ok (.iload_n 2, 1) := by decide +kernel
theorem dX7_heldByAll_13 : decode cX7_heldByAll 13 = .ok (.aload_n 0, 1) := by decide +kernel
theorem dX7_heldByAll_14 : decode cX7_heldByAll 14 = .ok (.iload_n 1, 1) := by decide +kernel
theorem dX7_heldByAll_15 : decode cX7_heldByAll 15 = .ok (.iload_n 3, 1) := by decide +kernel
theorem dX7_heldByAll_16 : decode cX7_heldByAll 16 = .ok (.invokevirtual 151, 3) := by decide +kernel
theorem dX7_heldByAll_19 : decode cX7_heldByAll 19 = .ok (.iadd, 1) := by decide +kernel
theorem dX7_heldByAll_20 : decode cX7_heldByAll 20 = .ok (.istore_n 2, 1) := by decide +kernel
theorem dX7_heldByAll_21 : decode cX7_heldByAll 21 = .ok (.iinc 3 1, 3) := by decide +kernel
theorem dX7_heldByAll_24 : decode cX7_heldByAll 24 = .ok (.goto (-20), 3) := by decide +kernel
theorem dX7_heldByAll_27 : decode cX7_heldByAll 27 = .ok (.iload_n 2, 1) := by decide +kernel
theorem dX7_heldByAll_28 : decode cX7_heldByAll 28 = .ok (.ireturn, 1) := by decide +kernel
theorem dX7_hueOn_0 : decode cX7_hueOn 0 = .ok (.aload_n 0, 1) := by decide +kernel
theorem dX7_hueOn_1 : decode cX7_hueOn 1 = .ok (.iload_n 1, 1) := by decide +kernel
theorem dX7_hueOn_2 : decode cX7_hueOn 2 = .ok (.iload_n 2, 1) := by decide +kernel
theorem dX7_hueOn_3 : decode cX7_hueOn 3 = .ok (.invokevirtual 151, 3) := by decide +kernel
theorem dX7_hueOn_6 : decode cX7_hueOn 6 = .ok (.istore_n 3, 1) := by decide +kernel
theorem dX7_hueOn_7 : decode cX7_hueOn 7 = .ok (.iconst 0, 1) := by decide +kernel
theorem dX7_hueOn_8 : decode cX7_hueOn 8 = .ok (.istore 4, 2) := by decide +kernel
theorem dX7_hueOn_10 : decode cX7_hueOn 10 = .ok (.iconst 0, 1) := by decide +kernel
theorem dX7_hueOn_11 : decode cX7_hueOn 11 = .ok (.istore 5, 2) := by decide +kernel
theorem dX7_hueOn_13 : decode cX7_hueOn 13 = .ok (.iload 5, 2) := by decide +kernel
theorem dX7_hueOn_15 : decode cX7_hueOn 15 = .ok (.bipush 15, 2) := by decide +kernel
theorem dX7_hueOn_17 : decode cX7_hueOn 17 = .ok (.if_icmp .ge 86, 3) := by decide +kernel
theorem dX7_hueOn_20 : decode cX7_hueOn 20 = .ok (.iconst 0, 1) := by decide +kernel
theorem dX7_hueOn_21 : decode cX7_hueOn 21 = .ok (.istore 6, 2) := by decide +kernel
theorem dX7_hueOn_23 : decode cX7_hueOn 23 = .ok (.iconst 0, 1) := by decide +kernel
theorem dX7_hueOn_24 : decode cX7_hueOn 24 = .ok (.istore 7, 2) := by decide +kernel
theorem dX7_hueOn_26 : decode cX7_hueOn 26 = .ok (.iload 7, 2) := by decide +kernel
theorem dX7_hueOn_28 : decode cX7_hueOn 28 = .ok (.aload_n 0, 1) := by decide +kernel
theorem dX7_hueOn_29 : decode cX7_hueOn 29 = .ok (.getfield 142, 3) := by decide +kernel
theorem dX7_hueOn_32 : decode cX7_hueOn 32 = .ok (.if_icmp .ge 45, 3) := by decide +kernel
theorem dX7_hueOn_35 : decode cX7_hueOn 35 = .ok (.iload 6, 2) := by decide +kernel
theorem dX7_hueOn_37 : decode cX7_hueOn 37 = .ok (.aload_n 0, 1) := by decide +kernel
theorem dX7_hueOn_38 : decode cX7_hueOn 38 = .ok (.getfield 7, 3) := by decide +kernel
theorem dX7_hueOn_41 : decode cX7_hueOn 41 = .ok (.iload_n 1, 1) := by decide +kernel
theorem dX7_hueOn_42 : decode cX7_hueOn 42 = .ok (.bipush 33, 2) := by decide +kernel
theorem dX7_hueOn_44 : decode cX7_hueOn 44 = .ok (.iadd, 1) := by decide +kernel
theorem dX7_hueOn_45 : decode cX7_hueOn 45 = .ok (.iconst 5, 1) := by decide +kernel
theorem dX7_hueOn_46 : decode cX7_hueOn 46 = .ok (.iload_n 2, 1) := by decide +kernel
theorem dX7_hueOn_47 : decode cX7_hueOn 47 = .ok (.imul, 1) := by decide +kernel
theorem dX7_hueOn_48 : decode cX7_hueOn 48 = .ok (.iadd, 1) := by decide +kernel
theorem dX7_hueOn_49 : decode cX7_hueOn 49 = .ok (.iload 7, 2) := by decide +kernel
theorem dX7_hueOn_51 : decode cX7_hueOn 51 = .ok (.iadd, 1) := by decide +kernel
theorem dX7_hueOn_52 : decode cX7_hueOn 52 = .ok (.iaload, 1) := by decide +kernel
theorem dX7_hueOn_53 : decode cX7_hueOn 53 = .ok (.aload_n 0, 1) := by decide +kernel
theorem dX7_hueOn_54 : decode cX7_hueOn 54 = .ok (.getfield 7, 3) := by decide +kernel
theorem dX7_hueOn_57 : decode cX7_hueOn 57 = .ok (.iload_n 1, 1) := by decide +kernel
theorem dX7_hueOn_58 : decode cX7_hueOn 58 = .ok (.iconst 5, 1) := by decide +kernel
theorem dX7_hueOn_59 : decode cX7_hueOn 59 = .ok (.iadd, 1) := by decide +kernel
theorem dX7_hueOn_60 : decode cX7_hueOn 60 = .ok (.iload 5, 2) := by decide +kernel
theorem dX7_hueOn_62 : decode cX7_hueOn 62 = .ok (.iadd, 1) := by decide +kernel
theorem dX7_hueOn_63 : decode cX7_hueOn 63 = .ok (.iload 7, 2) := by decide +kernel
theorem dX7_hueOn_65 : decode cX7_hueOn 65 = .ok (.iadd, 1) := by decide +kernel
theorem dX7_hueOn_66 : decode cX7_hueOn 66 = .ok (.iaload, 1) := by decide +kernel
theorem dX7_hueOn_67 : decode cX7_hueOn 67 = .ok (.imul, 1) := by decide +kernel
theorem dX7_hueOn_68 : decode cX7_hueOn 68 = .ok (.iadd, 1) := by decide +kernel
theorem dX7_hueOn_69 : decode cX7_hueOn 69 = .ok (.istore 6, 2) := by decide +kernel
theorem dX7_hueOn_71 : decode cX7_hueOn 71 = .ok (.iinc 7 1, 3) := by decide +kernel
theorem dX7_hueOn_74 : decode cX7_hueOn 74 = .ok (.goto (-48), 3) := by decide +kernel
theorem dX7_hueOn_77 : decode cX7_hueOn 77 = .ok (.bipush 10, 2) := by decide +kernel
theorem dX7_hueOn_79 : decode cX7_hueOn 79 = .ok (.iload 4, 2) := by decide +kernel
theorem dX7_hueOn_81 : decode cX7_hueOn 81 = .ok (.imul, 1) := by decide +kernel
theorem dX7_hueOn_82 : decode cX7_hueOn 82 = .ok (.iload_n 3, 1) := by decide +kernel
theorem dX7_hueOn_83 : decode cX7_hueOn 83 = .ok (.ifCond .ne 7, 3) := by decide +kernel
theorem dX7_hueOn_86 : decode cX7_hueOn 86 = .ok (.iconst 0, 1) := by decide +kernel
theorem dX7_hueOn_87 : decode cX7_hueOn 87 = .ok (.goto 7, 3) := by decide +kernel
theorem dX7_hueOn_90 : decode cX7_hueOn 90 = .ok (.iload 6, 2) := by decide +kernel
theorem dX7_hueOn_92 : decode cX7_hueOn 92 = .ok (.iload_n 3, 1) := by decide +kernel
theorem dX7_hueOn_93 : decode cX7_hueOn 93 = .ok (.idiv, 1) := by decide +kernel
theorem dX7_hueOn_94 : decode cX7_hueOn 94 = .ok (.iadd, 1) := by decide +kernel
theorem dX7_hueOn_95 : decode cX7_hueOn 95 = .ok (.istore 4, 2) := by decide +kernel
theorem dX7_hueOn_97 : decode cX7_hueOn 97 = .ok (.iinc 5 5, 3) := by decide +kernel
theorem dX7_hueOn_100 : decode cX7_hueOn 100 = .ok (.goto (-87), 3) := by decide +kernel
theorem dX7_hueOn_103 : decode cX7_hueOn 103 = .ok (.iload 4, 2) := by decide +kernel
theorem dX7_hueOn_105 : decode cX7_hueOn 105 = .ok (.ireturn, 1) := by decide +kernel
theorem dX7_apart_0 : decode cX7_apart 0 = .ok (.iload_n 0, 1) := by decide +kernel
theorem dX7_apart_1 : decode cX7_apart 1 = .ok (.iload_n 1, 1) := by decide +kernel
theorem dX7_apart_2 : decode cX7_apart 2 = .ok (.if_icmp .le 9, 3) := by decide +kernel
theorem dX7_apart_5 : decode cX7_apart 5 = .ok (.iload_n 0, 1) := by decide +kernel
theorem dX7_apart_6 : decode cX7_apart 6 = .ok (.iload_n 1, 1) := by decide +kernel
theorem dX7_apart_7 : decode cX7_apart 7 = .ok (.isub, 1) := by decide +kernel
theorem dX7_apart_8 : decode cX7_apart 8 = .ok (.goto 6, 3) := by decide +kernel
theorem dX7_apart_11 : decode cX7_apart 11 = .ok (.iload_n 1, 1) := by decide +kernel
theorem dX7_apart_12 : decode cX7_apart 12 = .ok (.iload_n 0, 1) := by decide +kernel
theorem dX7_apart_13 : decode cX7_apart 13 = .ok (.isub, 1) := by decide +kernel
theorem dX7_apart_14 : decode cX7_apart 14 = .ok (.ireturn, 1) := by decide +kernel
theorem dX7_offOf_0 : decode cX7_offOf 0 = .ok (.iload_n 0, 1) := by decide +kernel
theorem dX7_offOf_1 : decode cX7_offOf 1 = .ok (.bipush 100, 2) := by decide +kernel
theorem dX7_offOf_3 : decode cX7_offOf 3 = .ok (.idiv, 1) := by decide +kernel
theorem dX7_offOf_4 : decode cX7_offOf 4 = .ok (.iload_n 1, 1) := by decide +kernel
theorem dX7_offOf_5 : decode cX7_offOf 5 = .ok (.bipush 100, 2) := by decide +kernel
theorem dX7_offOf_7 : decode cX7_offOf 7 = .ok (.idiv, 1) := by decide +kernel
theorem dX7_offOf_8 : decode cX7_offOf 8 = .ok (.invokestatic 154, 3) := by decide +kernel
theorem dX7_offOf_11 : decode cX7_offOf 11 = .ok (.iload_n 0, 1) := by decide +kernel
theorem dX7_offOf_12 : decode cX7_offOf 12 = .ok (.bipush 10, 2) := by decide +kernel
theorem dX7_offOf_14 : decode cX7_offOf 14 = .ok (.idiv, 1) := by decide +kernel
theorem dX7_offOf_15 : decode cX7_offOf 15 = .ok (.bipush 10, 2) := by decide +kernel
theorem dX7_offOf_17 : decode cX7_offOf 17 = .ok (.irem, 1) := by decide +kernel
theorem dX7_offOf_18 : decode cX7_offOf 18 = .ok (.iload_n 1, 1) := by decide +kernel
theorem dX7_offOf_19 : decode cX7_offOf 19 = .ok (.bipush 10, 2) := by decide +kernel
theorem dX7_offOf_21 : decode cX7_offOf 21 = .ok (.idiv, 1) := by decide +kernel
theorem dX7_offOf_22 : decode cX7_offOf 22 = .ok (.bipush 10, 2) := by decide +kernel
theorem dX7_offOf_24 : decode cX7_offOf 24 = .ok (.irem, 1) := by decide +kernel
theorem dX7_offOf_25 : decode cX7_offOf 25 = .ok (.invokestatic 154, 3) := by decide +kernel
theorem dX7_offOf_28 : decode cX7_offOf 28 = .ok (.iadd, 1) := by decide +kernel
theorem dX7_offOf_29 : decode cX7_offOf 29 = .ok (.iload_n 0, 1) := by decide +kernel
theorem dX7_offOf_30 : decode cX7_offOf 30 = .ok (.bipush 10, 2) := by decide +kernel
theorem dX7_offOf_32 : decode cX7_offOf 32 = .ok (.irem, 1) := by decide +kernel
theorem dX7_offOf_33 : decode cX7_offOf 33 = .ok (.iload_n 1, 1) := by decide +kernel
theorem dX7_offOf_34 : decode cX7_offOf 34 = .ok (.bipush 10, 2) := by decide +kernel
theorem dX7_offOf_36 : decode cX7_offOf 36 = .ok (.irem, 1) := by decide +kernel
theorem dX7_offOf_37 : decode cX7_offOf 37 = .ok (.invokestatic 154, 3) := by decide +kernel
theorem dX7_offOf_40 : decode cX7_offOf 40 = .ok (.iadd, 1) := by decide +kernel
theorem dX7_offOf_41 : decode cX7_offOf 41 = .ok (.ireturn, 1) := by decide +kernel
theorem dX7_colourGoes_0 : decode cX7_colourGoes 0 = .ok (.iload_n 1, 1) := by decide +kernel
theorem dX7_colourGoes_1 : decode cX7_colourGoes 1 = .ok (.bipush 33, 2) := by decide +kernel
theorem dX7_colourGoes_3 : decode cX7_colourGoes 3 = .ok (.iadd, 1) := by decide +kernel
theorem dX7_colourGoes_4 : decode cX7_colourGoes 4 = .ok (.iconst 5, 1) := by decide +kernel
theorem dX7_colourGoes_5 : decode cX7_colourGoes 5 = .ok (.iload_n 2, 1) := by decide +kernel
theorem dX7_colourGoes_6 : decode cX7_colourGoes 6 = .ok (.imul, 1) := by decide +kernel
theorem dX7_colourGoes_7 : decode cX7_colourGoes 7 = .ok (.iadd, 1) := by decide +kernel
theorem dX7_colourGoes_8 : decode cX7_colourGoes 8 = .ok (.iload_n 3, 1) := by decide +kernel
theorem dX7_colourGoes_9 : decode cX7_colourGoes 9 = .ok (.iadd, 1) := by decide +kernel
theorem dX7_colourGoes_10 : decode cX7_colourGoes 10 = .ok (.istore 5, 2) := by decide +kernel
theorem dX7_colourGoes_12 : decode cX7_colourGoes 12 = .ok (.aload_n 0, 1) := by decide +kernel
theorem dX7_colourGoes_13 : decode cX7_colourGoes 13 = .ok (.iload_n 1, 1) := by decide +kernel
theorem dX7_colourGoes_14 : decode cX7_colourGoes 14 = .ok (.iload_n 3, 1) := by decide +kernel
theorem dX7_colourGoes_15 : decode cX7_colourGoes 15 = .ok (.invokevirtual 157, 3) := by decide +kernel
theorem dX7_colourGoes_18 : decode cX7_colourGoes 18 = .ok (.aload_n 0, 1) := by decide +kernel
theorem dX7_colourGoes_19 : decode cX7_colourGoes 19 = .ok (.getfield 7, 3) := by decide +kernel
theorem dX7_colourGoes_22 : decode cX7_colourGoes 22 = .ok (.iload 5, 2) := by decide +kernel
theorem dX7_colourGoes_24 : decode cX7_colourGoes 24 = .ok (.iaload, 1) := by decide +kernel
theorem dX7_colourGoes_25 : decode cX7_colourGoes 25 = .ok (.imul, 1) := by decide +kernel
theorem dX7_colourGoes_26 : decode cX7_colourGoes 26 = .ok (.istore 6, 2) := by decide +kernel
theorem dX7_colourGoes_28 : decode cX7_colourGoes 28 = .ok (.aload_n 0, 1) := by decide +kernel
theorem dX7_colourGoes_29 : decode cX7_colourGoes 29 = .ok (.getfield 7, 3) := by decide +kernel
theorem dX7_colourGoes_32 : decode cX7_colourGoes 32 = .ok (.iload 5, 2) := by decide +kernel
theorem dX7_colourGoes_34 : decode cX7_colourGoes 34 = .ok (.iaload, 1) := by decide +kernel
theorem dX7_colourGoes_35 : decode cX7_colourGoes 35 = .ok (.ifCond .ne 4, 3) := by decide +kernel
theorem dX7_colourGoes_38 : decode cX7_colourGoes 38 = .ok (.return_, 1) := by decide +kernel
theorem dX7_colourGoes_39 : decode cX7_colourGoes 39 = .ok (.aload_n 0, 1) := by decide +kernel
theorem dX7_colourGoes_40 : decode cX7_colourGoes 40 = .ok (.getfield 7, 3) := by decide +kernel
theorem dX7_colourGoes_43 : decode cX7_colourGoes 43 = .ok (.iload_n 1, 1) := by decide +kernel
theorem dX7_colourGoes_44 : decode cX7_colourGoes 44 = .ok (.bipush 25, 2) := by decide +kernel
theorem dX7_colourGoes_46 : decode cX7_colourGoes 46 = .ok (.iadd, 1) := by decide +kernel
theorem dX7_colourGoes_47 : decode cX7_colourGoes 47 = .ok (.iload_n 2, 1) := by decide +kernel
theorem dX7_colourGoes_48 : decode cX7_colourGoes 48 = .ok (.iadd, 1) := by decide +kernel
theorem dX7_colourGoes_49 : decode cX7_colourGoes 49 = .ok (.iaload, 1) := by decide +kernel
theorem dX7_colourGoes_50 : decode cX7_colourGoes 50 = .ok (.iload 6, 2) := by decide +kernel
theorem dX7_colourGoes_52 : decode cX7_colourGoes 52 = .ok (.if_icmp .lt 78, 3) := by decide +kernel
theorem dX7_colourGoes_55 : decode cX7_colourGoes 55 = .ok (.aload_n 0, 1) := by decide +kernel
theorem dX7_colourGoes_56 : decode cX7_colourGoes 56 = .ok (.getfield 7, 3) := by decide +kernel
theorem dX7_colourGoes_59 : decode cX7_colourGoes 59 = .ok (.iload_n 1, 1) := by decide +kernel
theorem dX7_colourGoes_60 : decode cX7_colourGoes 60 = .ok (.bipush 25, 2) := by decide +kernel
theorem dX7_colourGoes_62 : decode cX7_colourGoes 62 = .ok (.iadd, 1) := by decide +kernel
theorem dX7_colourGoes_63 : decode cX7_colourGoes 63 = .ok (.iload_n 2, 1) := by decide +kernel
theorem dX7_colourGoes_64 : decode cX7_colourGoes 64 = .ok (.iadd, 1) := by decide +kernel
theorem dX7_colourGoes_65 : decode cX7_colourGoes 65 = .ok (.dup2, 1) := by decide +kernel
theorem dX7_colourGoes_66 : decode cX7_colourGoes 66 = .ok (.iaload, 1) := by decide +kernel
theorem dX7_colourGoes_67 : decode cX7_colourGoes 67 = .ok (.iload 6, 2) := by decide +kernel
theorem dX7_colourGoes_69 : decode cX7_colourGoes 69 = .ok (.isub, 1) := by decide +kernel
theorem dX7_colourGoes_70 : decode cX7_colourGoes 70 = .ok (.iastore, 1) := by decide +kernel
theorem dX7_colourGoes_71 : decode cX7_colourGoes 71 = .ok (.aload_n 0, 1) := by decide +kernel
theorem dX7_colourGoes_72 : decode cX7_colourGoes 72 = .ok (.dup, 1) := by decide +kernel
theorem dX7_colourGoes_73 : decode cX7_colourGoes 73 = .ok (.getfield 160, 3) := by decide +kernel
theorem dX7_colourGoes_76 : decode cX7_colourGoes 76 = .ok (.iload 6, 2) := by decide +kernel
theorem dX7_colourGoes_78 : decode cX7_colourGoes 78 = .ok (.iadd, 1) := by decide +kernel
theorem dX7_colourGoes_79 : decode cX7_colourGoes 79 = .ok (.putfield 160, 3) := by decide +kernel
theorem dX7_colourGoes_82 : decode cX7_colourGoes 82 = .ok (.iload 4, 2) := by decide +kernel
theorem dX7_colourGoes_84 : decode cX7_colourGoes 84 = .ok (.aload_n 0, 1) := by decide +kernel
theorem dX7_colourGoes_85 : decode cX7_colourGoes 85 = .ok (.iload_n 1, 1) := by decide +kernel
theorem dX7_colourGoes_86 : decode cX7_colourGoes 86 = .ok (.iload_n 3, 1) := by decide +kernel
theorem dX7_colourGoes_87 : decode cX7_colourGoes 87 = .ok (.invokevirtual 163, 3) := by decide +kernel
theorem dX7_colourGoes_90 : decode cX7_colourGoes 90 = .ok (.imul, 1) := by decide +kernel
theorem dX7_colourGoes_91 : decode cX7_colourGoes 91 = .ok (.istore 7, 2) := by decide +kernel
theorem dX7_colourGoes_93 : decode cX7_colourGoes 93 = .ok (.aload_n 0, 1) := by decide +kernel
theorem dX7_colourGoes_94 : decode cX7_colourGoes 94 = .ok (.getfield 7, 3) := by decide +kernel
theorem dX7_colourGoes_97 : decode cX7_colourGoes 97 = .ok (.iload 5, 2) := by decide +kernel
theorem dX7_colourGoes_99 : decode cX7_colourGoes 99 = .ok (.dup2, 1) := by decide +kernel
theorem dX7_colourGoes_100 : decode cX7_colourGoes 100 = .ok (.iaload, 1) := by decide +kernel
theorem dX7_colourGoes_101 : decode cX7_colourGoes 101 = .ok (.iload 7, 2) := by decide +kernel
theorem dX7_colourGoes_103 : decode cX7_colourGoes 103 = .ok (.aload_n 0, 1) := by decide +kernel
theorem dX7_colourGoes_104 : decode cX7_colourGoes 104 = .ok (.getfield 7, 3) := by decide +kernel
theorem dX7_colourGoes_107 : decode cX7_colourGoes 107 = .ok (.iload 5, 2) := by decide +kernel
theorem dX7_colourGoes_109 : decode cX7_colourGoes 109 = .ok (.iaload, 1) := by decide +kernel
theorem dX7_colourGoes_110 : decode cX7_colourGoes 110 = .ok (.if_icmp .ge 8, 3) := by decide +kernel
theorem dX7_colourGoes_113 : decode cX7_colourGoes 113 = .ok (.iload 7, 2) := by decide +kernel
theorem dX7_colourGoes_115 : decode cX7_colourGoes 115 = .ok (.goto 10, 3) := by decide +kernel
theorem dX7_colourGoes_118 : decode cX7_colourGoes 118 = .ok (.aload_n 0, 1) := by decide +kernel
theorem dX7_colourGoes_119 : decode cX7_colourGoes 119 = .ok (.getfield 7, 3) := by decide +kernel
theorem dX7_colourGoes_122 : decode cX7_colourGoes 122 = .ok (.iload 5, 2) := by decide +kernel
theorem dX7_colourGoes_124 : decode cX7_colourGoes 124 = .ok (.iaload, 1) := by decide +kernel
theorem dX7_colourGoes_125 : decode cX7_colourGoes 125 = .ok (.isub, 1) := by decide +kernel
theorem dX7_colourGoes_126 : decode cX7_colourGoes 126 = .ok (.iastore, 1) := by decide +kernel
theorem dX7_colourGoes_127 : decode cX7_colourGoes 127 = .ok (.goto 80, 3) := by decide +kernel
theorem dX7_colourGoes_130 : decode cX7_colourGoes 130 = .ok (.aload_n 0, 1) := by decide +kernel
theorem dX7_colourGoes_131 : decode cX7_colourGoes 131 = .ok (.getfield 7, 3) := by decide +kernel
theorem dX7_colourGoes_134 : decode cX7_colourGoes 134 = .ok (.iload_n 1, 1) := by decide +kernel
theorem dX7_colourGoes_135 : decode cX7_colourGoes 135 = .ok (.bipush 20, 2) := by decide +kernel
theorem dX7_colourGoes_137 : decode cX7_colourGoes 137 = .ok (.iadd, 1) := by decide +kernel
theorem dX7_colourGoes_138 : decode cX7_colourGoes 138 = .ok (.iload_n 3, 1) := by decide +kernel
theorem dX7_colourGoes_139 : decode cX7_colourGoes 139 = .ok (.iadd, 1) := by decide +kernel
theorem dX7_colourGoes_140 : decode cX7_colourGoes 140 = .ok (.iaload, 1) := by decide +kernel
theorem dX7_colourGoes_141 : decode cX7_colourGoes 141 = .ok (.aload_n 0, 1) := by decide +kernel
theorem dX7_colourGoes_142 : decode cX7_colourGoes 142 = .ok (.getfield 7, 3) := by decide +kernel
theorem dX7_colourGoes_145 : decode cX7_colourGoes 145 = .ok (.iload 5, 2) := by decide +kernel
theorem dX7_colourGoes_147 : decode cX7_colourGoes 147 = .ok (.iaload, 1) := by decide +kernel
theorem dX7_colourGoes_148 : decode cX7_colourGoes 148 = .ok (.iadd, 1) := by decide +kernel
theorem dX7_colourGoes_149 : decode cX7_colourGoes 149 = .ok (.istore 7, 2) := by decide +kernel
theorem dX7_colourGoes_151 : decode cX7_colourGoes 151 = .ok (.aload_n 0, 1) := by decide +kernel
theorem dX7_colourGoes_152 : decode cX7_colourGoes 152 = .ok (.getfield 7, 3) := by decide +kernel
theorem dX7_colourGoes_155 : decode cX7_colourGoes 155 = .ok (.iload_n 1, 1) := by decide +kernel
theorem dX7_colourGoes_156 : decode cX7_colourGoes 156 = .ok (.bipush 20, 2) := by decide +kernel
theorem dX7_colourGoes_158 : decode cX7_colourGoes 158 = .ok (.iadd, 1) := by decide +kernel
theorem dX7_colourGoes_159 : decode cX7_colourGoes 159 = .ok (.iload_n 3, 1) := by decide +kernel
theorem dX7_colourGoes_160 : decode cX7_colourGoes 160 = .ok (.iadd, 1) := by decide +kernel
theorem dX7_colourGoes_161 : decode cX7_colourGoes 161 = .ok (.iload 7, 2) := by decide +kernel
theorem dX7_colourGoes_163 : decode cX7_colourGoes 163 = .ok (.bipush 99, 2) := by decide +kernel
theorem dX7_colourGoes_165 : decode cX7_colourGoes 165 = .ok (.if_icmp .le 8, 3) := by decide +kernel
theorem dX7_colourGoes_168 : decode cX7_colourGoes 168 = .ok (.bipush 99, 2) := by decide +kernel
theorem dX7_colourGoes_170 : decode cX7_colourGoes 170 = .ok (.goto 5, 3) := by decide +kernel
theorem dX7_colourGoes_173 : decode cX7_colourGoes 173 = .ok (.iload 7, 2) := by decide +kernel
theorem dX7_colourGoes_175 : decode cX7_colourGoes 175 = .ok (.iastore, 1) := by decide +kernel
theorem dX7_colourGoes_176 : decode cX7_colourGoes 176 = .ok (.aload_n 0, 1) := by decide +kernel
theorem dX7_colourGoes_177 : decode cX7_colourGoes 177 = .ok (.getfield 7, 3) := by decide +kernel
theorem dX7_colourGoes_180 : decode cX7_colourGoes 180 = .ok (.iload 5, 2) := by decide +kernel
theorem dX7_colourGoes_182 : decode cX7_colourGoes 182 = .ok (.iconst 0, 1) := by decide +kernel
theorem dX7_colourGoes_183 : decode cX7_colourGoes 183 = .ok (.iastore, 1) := by decide +kernel
theorem dX7_colourGoes_184 : decode cX7_colourGoes 184 = .ok (.aload_n 0, 1) := by decide +kernel
theorem dX7_colourGoes_185 : decode cX7_colourGoes 185 = .ok (.getfield 7, 3) := by decide +kernel
theorem dX7_colourGoes_188 : decode cX7_colourGoes 188 = .ok (.iload_n 1, 1) := by decide +kernel
theorem dX7_colourGoes_189 : decode cX7_colourGoes 189 = .ok (.bipush 54, 2) := by decide +kernel
theorem dX7_colourGoes_191 : decode cX7_colourGoes 191 = .ok (.iadd, 1) := by decide +kernel
theorem dX7_colourGoes_192 : decode cX7_colourGoes 192 = .ok (.dup2, 1) := by decide +kernel
theorem dX7_colourGoes_193 : decode cX7_colourGoes 193 = .ok (.iaload, 1) := by decide +kernel
theorem dX7_colourGoes_194 : decode cX7_colourGoes 194 = .ok (.iconst 1, 1) := by decide +kernel
theorem dX7_colourGoes_195 : decode cX7_colourGoes 195 = .ok (.iadd, 1) := by decide +kernel
theorem dX7_colourGoes_196 : decode cX7_colourGoes 196 = .ok (.iastore, 1) := by decide +kernel
theorem dX7_colourGoes_197 : decode cX7_colourGoes 197 = .ok (.aload_n 0, 1) := by decide +kernel
theorem dX7_colourGoes_198 : decode cX7_colourGoes 198 = .ok (.getfield 25, 3) := by decide +kernel
theorem dX7_colourGoes_201 : decode cX7_colourGoes 201 = .ok (.iload_n 2, 1) := by decide +kernel
theorem dX7_colourGoes_202 : decode cX7_colourGoes 202 = .ok (.dup2, 1) := by decide +kernel
theorem dX7_colourGoes_203 : decode cX7_colourGoes 203 = .ok (.iaload, 1) := by decide +kernel
theorem dX7_colourGoes_204 : decode cX7_colourGoes 204 = .ok (.iconst 1, 1) := by decide +kernel
theorem dX7_colourGoes_205 : decode cX7_colourGoes 205 = .ok (.iadd, 1) := by decide +kernel
theorem dX7_colourGoes_206 : decode cX7_colourGoes 206 = .ok (.iastore, 1) := by decide +kernel
theorem dX7_colourGoes_207 : decode cX7_colourGoes 207 = .ok (.return_, 1) := by decide +kernel
theorem dX7_dayOn_0 : decode cX7_dayOn 0 = .ok (.iconst 0, 1) := by decide +kernel
theorem dX7_dayOn_1 : decode cX7_dayOn 1 = .ok (.istore_n 3, 1) := by decide +kernel
theorem dX7_dayOn_2 : decode cX7_dayOn 2 = .ok (.iload_n 3, 1) := by decide +kernel
theorem dX7_dayOn_3 : decode cX7_dayOn 3 = .ok (.aload_n 0, 1) := by decide +kernel
theorem dX7_dayOn_4 : decode cX7_dayOn 4 = .ok (.getfield 145, 3) := by decide +kernel
theorem dX7_dayOn_7 : decode cX7_dayOn 7 = .ok (.if_icmp .ge 88, 3) := by decide +kernel
theorem dX7_dayOn_10 : decode cX7_dayOn 10 = .ok (.aload_n 0, 1) := by decide +kernel
theorem dX7_dayOn_11 : decode cX7_dayOn 11 = .ok (.getfield 7, 3) := by decide +kernel
theorem dX7_dayOn_14 : decode cX7_dayOn 14 = .ok (.iload_n 1, 1) := by decide +kernel
theorem dX7_dayOn_15 : decode cX7_dayOn 15 = .ok (.bipush 25, 2) := by decide +kernel
theorem dX7_dayOn_17 : decode cX7_dayOn 17 = .ok (.iadd, 1) := by decide +kernel
theorem dX7_dayOn_18 : decode cX7_dayOn 18 = .ok (.iload_n 3, 1) := by decide +kernel
theorem dX7_dayOn_19 : decode cX7_dayOn 19 = .ok (.iadd, 1) := by decide +kernel
theorem dX7_dayOn_20 : decode cX7_dayOn 20 = .ok (.iaload, 1) := by decide +kernel
theorem dX7_dayOn_21 : decode cX7_dayOn 21 = .ok (.aload_n 0, 1) := by decide +kernel
theorem dX7_dayOn_22 : decode cX7_dayOn 22 = .ok (.getfield 7, 3) := by decide +kernel
theorem dX7_dayOn_25 : decode cX7_dayOn 25 = .ok (.iload_n 1, 1) := by decide +kernel
theorem dX7_dayOn_26 : decode cX7_dayOn 26 = .ok (.bipush 29, 2) := by decide +kernel
theorem dX7_dayOn_28 : decode cX7_dayOn 28 = .ok (.iadd, 1) := by decide +kernel
theorem dX7_dayOn_29 : decode cX7_dayOn 29 = .ok (.iload_n 3, 1) := by decide +kernel
theorem dX7_dayOn_30 : decode cX7_dayOn 30 = .ok (.iadd, 1) := by decide +kernel
theorem dX7_dayOn_31 : decode cX7_dayOn 31 = .ok (.iaload, 1) := by decide +kernel
theorem dX7_dayOn_32 : decode cX7_dayOn 32 = .ok (.iadd, 1) := by decide +kernel
theorem dX7_dayOn_33 : decode cX7_dayOn 33 = .ok (.istore 4, 2) := by decide +kernel
theorem dX7_dayOn_35 : decode cX7_dayOn 35 = .ok (.aload_n 0, 1) := by decide +kernel
theorem dX7_dayOn_36 : decode cX7_dayOn 36 = .ok (.getfield 7, 3) := by decide +kernel
theorem dX7_dayOn_39 : decode cX7_dayOn 39 = .ok (.iload_n 1, 1) := by decide +kernel
theorem dX7_dayOn_40 : decode cX7_dayOn 40 = .ok (.bipush 25, 2) := by decide +kernel
theorem dX7_dayOn_42 : decode cX7_dayOn 42 = .ok (.iadd, 1) := by decide +kernel
theorem dX7_dayOn_43 : decode cX7_dayOn 43 = .ok (.iload_n 3, 1) := by decide +kernel
theorem dX7_dayOn_44 : decode cX7_dayOn 44 = .ok (.iadd, 1) := by decide +kernel
theorem dX7_dayOn_45 : decode cX7_dayOn 45 = .ok (.iload 4, 2) := by decide +kernel
theorem dX7_dayOn_47 : decode cX7_dayOn 47 = .ok (.sipush 999, 3) := by decide +kernel
theorem dX7_dayOn_50 : decode cX7_dayOn 50 = .ok (.if_icmp .le 9, 3) := by decide +kernel
theorem dX7_dayOn_53 : decode cX7_dayOn 53 = .ok (.sipush 999, 3) := by decide +kernel
theorem dX7_dayOn_56 : decode cX7_dayOn 56 = .ok (.goto 5, 3) := by decide +kernel
theorem dX7_dayOn_59 : decode cX7_dayOn 59 = .ok (.iload 4, 2) := by decide +kernel
theorem dX7_dayOn_61 : decode cX7_dayOn 61 = .ok (.iastore, 1) := by decide +kernel
theorem dX7_dayOn_62 : decode cX7_dayOn 62 = .ok (.iconst 0, 1) := by decide +kernel
theorem dX7_dayOn_63 : decode cX7_dayOn 63 = .ok (.istore 5, 2) := by decide +kernel
theorem dX7_dayOn_65 : decode cX7_dayOn 65 = .ok (.iload 5, 2) := by decide +kernel
theorem dX7_dayOn_67 : decode cX7_dayOn 67 = .ok (.aload_n 0, 1) := by decide +kernel
theorem dX7_dayOn_68 : decode cX7_dayOn 68 = .ok (.getfield 142, 3) := by decide +kernel
theorem dX7_dayOn_71 : decode cX7_dayOn 71 = .ok (.if_icmp .ge 18, 3) := by decide +kernel
theorem dX7_dayOn_74 : decode cX7_dayOn 74 = .ok (.aload_n 0, 1) := by decide +kernel
theorem dX7_dayOn_75 : decode cX7_dayOn 75 = .ok (.iload_n 1, 1) := by decide +kernel
theorem dX7_dayOn_76 : decode cX7_dayOn 76 = .ok (.iload_n 3, 1) := by decide +kernel
theorem dX7_dayOn_77 : decode cX7_dayOn 77 = .ok (.iload 5, 2) := by decide +kernel
theorem dX7_dayOn_79 : decode cX7_dayOn 79 = .ok (.iload_n 2, 1) := by decide +kernel
theorem dX7_dayOn_80 : decode cX7_dayOn 80 = .ok (.invokevirtual 166, 3) := by decide +kernel
theorem dX7_dayOn_83 : decode cX7_dayOn 83 = .ok (.iinc 5 1, 3) := by decide +kernel
theorem dX7_dayOn_86 : decode cX7_dayOn 86 = .ok (.goto (-21), 3) := by decide +kernel
theorem dX7_dayOn_89 : decode cX7_dayOn 89 = .ok (.iinc 3 1, 3) := by decide +kernel
theorem dX7_dayOn_92 : decode cX7_dayOn 92 = .ok (.goto (-90), 3) := by decide +kernel
theorem dX7_dayOn_95 : decode cX7_dayOn 95 = .ok (.aload_n 0, 1) := by decide +kernel
theorem dX7_dayOn_96 : decode cX7_dayOn 96 = .ok (.getfield 7, 3) := by decide +kernel
theorem dX7_dayOn_99 : decode cX7_dayOn 99 = .ok (.iload_n 1, 1) := by decide +kernel
theorem dX7_dayOn_100 : decode cX7_dayOn 100 = .ok (.bipush 53, 2) := by decide +kernel
theorem dX7_dayOn_102 : decode cX7_dayOn 102 = .ok (.iadd, 1) := by decide +kernel
theorem dX7_dayOn_103 : decode cX7_dayOn 103 = .ok (.dup2, 1) := by decide +kernel
theorem dX7_dayOn_104 : decode cX7_dayOn 104 = .ok (.iaload, 1) := by decide +kernel
theorem dX7_dayOn_105 : decode cX7_dayOn 105 = .ok (.iconst 1, 1) := by decide +kernel
theorem dX7_dayOn_106 : decode cX7_dayOn 106 = .ok (.iadd, 1) := by decide +kernel
theorem dX7_dayOn_107 : decode cX7_dayOn 107 = .ok (.iastore, 1) := by decide +kernel
theorem dX7_dayOn_108 : decode cX7_dayOn 108 = .ok (.return_, 1) := by decide +kernel
theorem dX7_vatsOn_0 : decode cX7_vatsOn 0 = .ok (.iconst 0, 1) := by decide +kernel
theorem dX7_vatsOn_1 : decode cX7_vatsOn 1 = .ok (.istore_n 2, 1) := by decide +kernel
theorem dX7_vatsOn_2 : decode cX7_vatsOn 2 = .ok (.iconst 0, 1) := by decide +kernel
theorem dX7_vatsOn_3 : decode cX7_vatsOn 3 = .ok (.istore_n 3, 1) := by decide +kernel
theorem dX7_vatsOn_4 : decode cX7_vatsOn 4 = .ok (.iload_n 3, 1) := by decide +kernel
theorem dX7_vatsOn_5 : decode cX7_vatsOn 5 = .ok (.aload_n 0, 1) := by decide +kernel
theorem dX7_vatsOn_6 : decode cX7_vatsOn 6 = .ok (.getfield 142, 3) := by decide +kernel
theorem dX7_vatsOn_9 : decode cX7_vatsOn 9 = .ok (.if_icmp .ge 23, 3) := by decide +kernel
theorem dX7_vatsOn_12 : decode cX7_vatsOn 12 = .ok (.iload_n 2, 1) := by decide +kernel
theorem dX7_vatsOn_13 : decode cX7_vatsOn 13 = .ok (.aload_n 0, 1) := by decide +kernel
theorem dX7_vatsOn_14 : decode cX7_vatsOn 14 = .ok (.getfield 7, 3) := by decide +kernel
theorem dX7_vatsOn_17 : decode cX7_vatsOn 17 = .ok (.iload_n 1, 1) := by decide +kernel
theorem dX7_vatsOn_18 : decode cX7_vatsOn 18 = .ok (.bipush 20, 2) := by decide +kernel
theorem dX7_vatsOn_20 : decode cX7_vatsOn 20 = .ok (.iadd, 1) := by decide +kernel
theorem dX7_vatsOn_21 : decode cX7_vatsOn 21 = .ok (.iload_n 3, 1) := by decide +kernel
theorem dX7_vatsOn_22 : decode cX7_vatsOn 22 = .ok (.iadd, 1) := by decide +kernel
theorem dX7_vatsOn_23 : decode cX7_vatsOn 23 = .ok (.iaload, 1) := by decide +kernel
theorem dX7_vatsOn_24 : decode cX7_vatsOn 24 = .ok (.iadd, 1) := by decide +kernel
theorem dX7_vatsOn_25 : decode cX7_vatsOn 25 = .ok (.istore_n 2, 1) := by decide +kernel
theorem dX7_vatsOn_26 : decode cX7_vatsOn 26 = .ok (.iinc 3 1, 3) := by decide +kernel
theorem dX7_vatsOn_29 : decode cX7_vatsOn 29 = .ok (.goto (-25), 3) := by decide +kernel
theorem dX7_vatsOn_32 : decode cX7_vatsOn 32 = .ok (.iload_n 2, 1) := by decide +kernel
theorem dX7_vatsOn_33 : decode cX7_vatsOn 33 = .ok (.ireturn, 1) := by decide +kernel
theorem dX7_rule_0 : decode cX7_rule 0 = .ok (.iload_n 1, 1) := by decide +kernel
theorem dX7_rule_1 : decode cX7_rule 1 = .ok (.tableswitch 77 0 5 #[39, 44, 49, 57, 65, 71], 39) := by decide +kernel
theorem dX7_rule_40 : decode cX7_rule 40 = .ok (.aload_n 0, 1) := by decide +kernel
theorem dX7_rule_41 : decode cX7_rule 41 = .ok (.getfield 142, 3) := by decide +kernel
theorem dX7_rule_44 : decode cX7_rule 44 = .ok (.ireturn, 1) := by decide +kernel
theorem dX7_rule_45 : decode cX7_rule 45 = .ok (.aload_n 0, 1) := by decide +kernel
theorem dX7_rule_46 : decode cX7_rule 46 = .ok (.getfield 145, 3) := by decide +kernel
theorem dX7_rule_49 : decode cX7_rule 49 = .ok (.ireturn, 1) := by decide +kernel
theorem dX7_rule_50 : decode cX7_rule 50 = .ok (.aload_n 0, 1) := by decide +kernel
theorem dX7_rule_51 : decode cX7_rule 51 = .ok (.getfield 7, 3) := by decide +kernel
theorem dX7_rule_54 : decode cX7_rule 54 = .ok (.bipush 53, 2) := by decide +kernel
theorem dX7_rule_56 : decode cX7_rule 56 = .ok (.iaload, 1) := by decide +kernel
theorem dX7_rule_57 : decode cX7_rule 57 = .ok (.ireturn, 1) := by decide +kernel
theorem dX7_rule_58 : decode cX7_rule 58 = .ok (.aload_n 0, 1) := by decide +kernel
theorem dX7_rule_59 : decode cX7_rule 59 = .ok (.getfield 7, 3) := by decide +kernel
theorem dX7_rule_62 : decode cX7_rule 62 = .ok (.bipush 54, 2) := by decide +kernel
theorem dX7_rule_64 : decode cX7_rule 64 = .ok (.iaload, 1) := by decide +kernel
theorem dX7_rule_65 : decode cX7_rule 65 = .ok (.ireturn, 1) := by decide +kernel
theorem dX7_rule_66 : decode cX7_rule 66 = .ok (.aload_n 0, 1) := by decide +kernel
theorem dX7_rule_67 : decode cX7_rule 67 = .ok (.iconst 0, 1) := by decide +kernel
theorem dX7_rule_68 : decode cX7_rule 68 = .ok (.invokevirtual 170, 3) := by decide +kernel
theorem dX7_rule_71 : decode cX7_rule 71 = .ok (.ireturn, 1) := by decide +kernel
theorem dX7_rule_72 : decode cX7_rule 72 = .ok (.aload_n 0, 1) := by decide +kernel
theorem dX7_rule_73 : decode cX7_rule 73 = .ok (.iconst 0, 1) := by decide +kernel
theorem dX7_rule_74 : decode cX7_rule 74 = .ok (.invokevirtual 173, 3) := by decide +kernel
theorem dX7_rule_77 : decode cX7_rule 77 = .ok (.ireturn, 1) := by decide +kernel
theorem dX7_rule_78 : decode cX7_rule 78 = .ok (.iconst (-1), 1) := by decide +kernel
theorem dX7_rule_79 : decode cX7_rule 79 = .ok (.ireturn, 1) := by decide +kernel
theorem dX7_colour_0 : decode cX7_colour 0 = .ok (.aload_n 0, 1) := by decide +kernel
theorem dX7_colour_1 : decode cX7_colour 1 = .ok (.iload_n 1, 1) := by decide +kernel
theorem dX7_colour_2 : decode cX7_colour 2 = .ok (.invokevirtual 176, 3) := by decide +kernel
theorem dX7_colour_5 : decode cX7_colour 5 = .ok (.ifCond .eq 15, 3) := by decide +kernel
theorem dX7_colour_8 : decode cX7_colour 8 = .ok (.iload_n 2, 1) := by decide +kernel
theorem dX7_colour_9 : decode cX7_colour 9 = .ok (.i2l, 1) := by decide +kernel
theorem dX7_colour_10 : decode cX7_colour 10 = .ok (.lconst 0, 1) := by decide +kernel
theorem dX7_colour_11 : decode cX7_colour 11 = .ok (.ldc2_w 180, 3) := by decide +kernel
theorem dX7_colour_14 : decode cX7_colour 14 = .ok (.invokestatic 55, 3) := by decide +kernel
theorem dX7_colour_17 : decode cX7_colour 17 = .ok (.ifCond .ne 5, 3) := by decide +kernel
theorem dX7_colour_20 : decode cX7_colour 20 = .ok (.iconst (-1), 1) := by decide +kernel
theorem dX7_colour_21 : decode cX7_colour 21 = .ok (.ireturn, 1) := by decide +kernel
theorem dX7_colour_22 : decode cX7_colour 22 = .ok (.iconst 0, 1) := by decide +kernel
theorem dX7_colour_23 : decode cX7_colour 23 = .ok (.istore_n 3, 1) := by decide +kernel
theorem dX7_colour_24 : decode cX7_colour 24 = .ok (.iconst 0, 1) := by decide +kernel
theorem dX7_colour_25 : decode cX7_colour 25 = .ok (.istore 4, 2) := by decide +kernel
theorem dX7_colour_27 : decode cX7_colour 27 = .ok (.iload 4, 2) := by decide +kernel
theorem dX7_colour_29 : decode cX7_colour 29 = .ok (.aload_n 0, 1) := by decide +kernel
theorem dX7_colour_30 : decode cX7_colour 30 = .ok (.getfield 145, 3) := by decide +kernel
theorem dX7_colour_33 : decode cX7_colour 33 = .ok (.if_icmp .ge 26, 3) := by decide +kernel
theorem dX7_colour_36 : decode cX7_colour 36 = .ok (.iload_n 3, 1) := by decide +kernel
theorem dX7_colour_37 : decode cX7_colour 37 = .ok (.aload_n 0, 1) := by decide +kernel
theorem dX7_colour_38 : decode cX7_colour 38 = .ok (.getfield 7, 3) := by decide +kernel
theorem dX7_colour_41 : decode cX7_colour 41 = .ok (.bipush 33, 2) := by decide +kernel
theorem dX7_colour_43 : decode cX7_colour 43 = .ok (.iconst 5, 1) := by decide +kernel
theorem dX7_colour_44 : decode cX7_colour 44 = .ok (.iload 4, 2) := by decide +kernel
theorem dX7_colour_46 : decode cX7_colour 46 = .ok (.imul, 1) := by decide +kernel
theorem dX7_colour_47 : decode cX7_colour 47 = .ok (.iadd, 1) := by decide +kernel
theorem dX7_colour_48 : decode cX7_colour 48 = .ok (.iload_n 1, 1) := by decide +kernel
theorem dX7_colour_49 : decode cX7_colour 49 = .ok (.iadd, 1) := by decide +kernel
theorem dX7_colour_50 : decode cX7_colour 50 = .ok (.iaload, 1) := by decide +kernel
theorem dX7_colour_51 : decode cX7_colour 51 = .ok (.iadd, 1) := by decide +kernel
theorem dX7_colour_52 : decode cX7_colour 52 = .ok (.istore_n 3, 1) := by decide +kernel
theorem dX7_colour_53 : decode cX7_colour 53 = .ok (.iinc 4 1, 3) := by decide +kernel
theorem dX7_colour_56 : decode cX7_colour 56 = .ok (.goto (-29), 3) := by decide +kernel
theorem dX7_colour_59 : decode cX7_colour 59 = .ok (.iload_n 2, 1) := by decide +kernel
theorem dX7_colour_60 : decode cX7_colour 60 = .ok (.iconst 5, 1) := by decide +kernel
theorem dX7_colour_61 : decode cX7_colour 61 = .ok (.if_icmp .ge 16, 3) := by decide +kernel
theorem dX7_colour_64 : decode cX7_colour 64 = .ok (.aload_n 0, 1) := by decide +kernel
theorem dX7_colour_65 : decode cX7_colour 65 = .ok (.getfield 7, 3) := by decide +kernel
theorem dX7_colour_68 : decode cX7_colour 68 = .ok (.iconst 5, 1) := by decide +kernel
theorem dX7_colour_69 : decode cX7_colour 69 = .ok (.iload_n 2, 1) := by decide +kernel
theorem dX7_colour_70 : decode cX7_colour 70 = .ok (.imul, 1) := by decide +kernel
theorem dX7_colour_71 : decode cX7_colour 71 = .ok (.iload_n 1, 1) := by decide +kernel
theorem dX7_colour_72 : decode cX7_colour 72 = .ok (.iadd, 1) := by decide +kernel
theorem dX7_colour_73 : decode cX7_colour 73 = .ok (.iaload, 1) := by decide +kernel
theorem dX7_colour_74 : decode cX7_colour 74 = .ok (.goto 18, 3) := by decide +kernel
theorem dX7_colour_77 : decode cX7_colour 77 = .ok (.iload_n 2, 1) := by decide +kernel
theorem dX7_colour_78 : decode cX7_colour 78 = .ok (.iconst 5, 1) := by decide +kernel
theorem dX7_colour_79 : decode cX7_colour 79 = .ok (.if_icmp .ne 12, 3) := by decide +kernel
theorem dX7_colour_82 : decode cX7_colour 82 = .ok (.aload_n 0, 1) := by decide +kernel
theorem dX7_colour_83 : decode cX7_colour 83 = .ok (.iconst 0, 1) := by decide +kernel
theorem dX7_colour_84 : decode cX7_colour 84 = .ok (.iload_n 1, 1) := by decide +kernel
theorem dX7_colour_85 : decode cX7_colour 85 = .ok (.invokevirtual 157, 3) := by decide +kernel
theorem dX7_colour_88 : decode cX7_colour 88 = .ok (.goto 4, 3) := by decide +kernel
theorem dX7_colour_91 : decode cX7_colour 91 = .ok (.iload_n 3, 1) := by decide +kernel
theorem dX7_colour_92 : decode cX7_colour 92 = .ok (.ireturn, 1) := by decide +kernel
theorem dX7_one_0 : decode cX7_one 0 = .ok (.aload_n 0, 1) := by decide +kernel
theorem dX7_one_1 : decode cX7_one 1 = .ok (.iload_n 1, 1) := by decide +kernel
theorem dX7_one_2 : decode cX7_one 2 = .ok (.invokevirtual 182, 3) := by decide +kernel
theorem dX7_one_5 : decode cX7_one 5 = .ok (.ifCond .eq 15, 3) := by decide +kernel
theorem dX7_one_8 : decode cX7_one 8 = .ok (.iload_n 2, 1) := by decide +kernel
theorem dX7_one_9 : decode cX7_one 9 = .ok (.i2l, 1) := by decide +kernel
theorem dX7_one_10 : decode cX7_one 10 = .ok (.lconst 0, 1) := by decide +kernel
theorem dX7_one_11 : decode cX7_one 11 = .ok (.ldc2_w 110, 3) := by decide +kernel
theorem dX7_one_14 : decode cX7_one 14 = .ok (.invokestatic 55, 3) := by decide +kernel
theorem dX7_one_17 : decode cX7_one 17 = .ok (.ifCond .ne 5, 3) := by decide +kernel
theorem dX7_one_20 : decode cX7_one 20 = .ok (.iconst (-1), 1) := by decide +kernel
theorem dX7_one_21 : decode cX7_one 21 = .ok (.ireturn, 1) := by decide +kernel
theorem dX7_one_22 : decode cX7_one 22 = .ok (.iconst 0, 1) := by decide +kernel
theorem dX7_one_23 : decode cX7_one 23 = .ok (.istore_n 3, 1) := by decide +kernel
theorem dX7_one_24 : decode cX7_one 24 = .ok (.iconst 0, 1) := by decide +kernel
theorem dX7_one_25 : decode cX7_one 25 = .ok (.istore 4, 2) := by decide +kernel
theorem dX7_one_27 : decode cX7_one 27 = .ok (.iload 4, 2) := by decide +kernel
theorem dX7_one_29 : decode cX7_one 29 = .ok (.aload_n 0, 1) := by decide +kernel
theorem dX7_one_30 : decode cX7_one 30 = .ok (.getfield 142, 3) := by decide +kernel
theorem dX7_one_33 : decode cX7_one 33 = .ok (.if_icmp .ge 34, 3) := by decide +kernel
theorem dX7_one_36 : decode cX7_one 36 = .ok (.iload_n 3, 1) := by decide +kernel
theorem dX7_one_37 : decode cX7_one 37 = .ok (.aload_n 0, 1) := by decide +kernel
theorem dX7_one_38 : decode cX7_one 38 = .ok (.iconst 0, 1) := by decide +kernel
theorem dX7_one_39 : decode cX7_one 39 = .ok (.iload 4, 2) := by decide +kernel
theorem dX7_one_41 : decode cX7_one 41 = .ok (.invokevirtual 157, 3) := by decide +kernel
theorem dX7_one_44 : decode cX7_one 44 = .ok (.aload_n 0, 1) := by decide +kernel
theorem dX7_one_45 : decode cX7_one 45 = .ok (.getfield 7, 3) := by decide +kernel
theorem dX7_one_48 : decode cX7_one 48 = .ok (.bipush 33, 2) := by decide +kernel
theorem dX7_one_50 : decode cX7_one 50 = .ok (.iconst 5, 1) := by decide +kernel
theorem dX7_one_51 : decode cX7_one 51 = .ok (.iload_n 1, 1) := by decide +kernel
theorem dX7_one_52 : decode cX7_one 52 = .ok (.imul, 1) := by decide +kernel
theorem dX7_one_53 : decode cX7_one 53 = .ok (.iadd, 1) := by decide +kernel
theorem dX7_one_54 : decode cX7_one 54 = .ok (.iload 4, 2) := by decide +kernel
theorem dX7_one_56 : decode cX7_one 56 = .ok (.iadd, 1) := by decide +kernel
theorem dX7_one_57 : decode cX7_one 57 = .ok (.iaload, 1) := by decide +kernel
theorem dX7_one_58 : decode cX7_one 58 = .ok (.imul, 1) := by decide +kernel
theorem dX7_one_59 : decode cX7_one 59 = .ok (.iadd, 1) := by decide +kernel
theorem dX7_one_60 : decode cX7_one 60 = .ok (.istore_n 3, 1) := by decide +kernel
theorem dX7_one_61 : decode cX7_one 61 = .ok (.iinc 4 1, 3) := by decide +kernel
theorem dX7_one_64 : decode cX7_one 64 = .ok (.goto (-37), 3) := by decide +kernel
theorem dX7_one_67 : decode cX7_one 67 = .ok (.iload_n 2, 1) := by decide +kernel
theorem dX7_one_68 : decode cX7_one 68 = .ok (.iconst 2, 1) := by decide +kernel
theorem dX7_one_69 : decode cX7_one 69 = .ok (.if_icmp .ge 19, 3) := by decide +kernel
theorem dX7_one_72 : decode cX7_one 72 = .ok (.aload_n 0, 1) := by decide +kernel
theorem dX7_one_73 : decode cX7_one 73 = .ok (.getfield 7, 3) := by decide +kernel
theorem dX7_one_76 : decode cX7_one 76 = .ok (.bipush 25, 2) := by decide +kernel
theorem dX7_one_78 : decode cX7_one 78 = .ok (.iconst 4, 1) := by decide +kernel
theorem dX7_one_79 : decode cX7_one 79 = .ok (.iload_n 2, 1) := by decide +kernel
theorem dX7_one_80 : decode cX7_one 80 = .ok (.imul, 1) := by decide +kernel
theorem dX7_one_81 : decode cX7_one 81 = .ok (.iadd, 1) := by decide +kernel
theorem dX7_one_82 : decode cX7_one 82 = .ok (.iload_n 1, 1) := by decide +kernel
theorem dX7_one_83 : decode cX7_one 83 = .ok (.iadd, 1) := by decide +kernel
theorem dX7_one_84 : decode cX7_one 84 = .ok (.iaload, 1) := by decide +kernel
theorem dX7_one_85 : decode cX7_one 85 = .ok (.goto 32, 3) := by decide +kernel
theorem dX7_one_88 : decode cX7_one 88 = .ok (.iload_n 2, 1) := by decide +kernel
theorem dX7_one_89 : decode cX7_one 89 = .ok (.iconst 2, 1) := by decide +kernel
theorem dX7_one_90 : decode cX7_one 90 = .ok (.if_icmp .ne 12, 3) := by decide +kernel
theorem dX7_one_93 : decode cX7_one 93 = .ok (.aload_n 0, 1) := by decide +kernel
theorem dX7_one_94 : decode cX7_one 94 = .ok (.iconst 0, 1) := by decide +kernel
theorem dX7_one_95 : decode cX7_one 95 = .ok (.iload_n 1, 1) := by decide +kernel
theorem dX7_one_96 : decode cX7_one 96 = .ok (.invokevirtual 185, 3) := by decide +kernel
theorem dX7_one_99 : decode cX7_one 99 = .ok (.goto 18, 3) := by decide +kernel
theorem dX7_one_102 : decode cX7_one 102 = .ok (.iload_n 2, 1) := by decide +kernel
theorem dX7_one_103 : decode cX7_one 103 = .ok (.iconst 3, 1) := by decide +kernel
theorem dX7_one_104 : decode cX7_one 104 = .ok (.if_icmp .ne 12, 3) := by decide +kernel
theorem dX7_one_107 : decode cX7_one 107 = .ok (.aload_n 0, 1) := by decide +kernel
theorem dX7_one_108 : decode cX7_one 108 = .ok (.iconst 0, 1) := by decide +kernel
theorem dX7_one_109 : decode cX7_one 109 = .ok (.iload_n 1, 1) := by decide +kernel
theorem dX7_one_110 : decode cX7_one 110 = .ok (.invokevirtual 151, 3) := by decide +kernel
theorem dX7_one_113 : decode cX7_one 113 = .ok (.goto 4, 3) := by decide +kernel
theorem dX7_one_116 : decode cX7_one 116 = .ok (.iload_n 3, 1) := by decide +kernel
theorem dX7_one_117 : decode cX7_one 117 = .ok (.ireturn, 1) := by decide +kernel
theorem dX7_holds_0 : decode cX7_holds 0 = .ok (.aload_n 0, 1) := by decide +kernel
theorem dX7_holds_1 : decode cX7_holds 1 = .ok (.iload_n 1, 1) := by decide +kernel
theorem dX7_holds_2 : decode cX7_holds 2 = .ok (.invokevirtual 182, 3) := by decide +kernel
theorem dX7_holds_5 : decode cX7_holds 5 = .ok (.ifCond .eq 27, 3) := by decide +kernel
theorem dX7_holds_8 : decode cX7_holds 8 = .ok (.aload_n 0, 1) := by decide +kernel
theorem dX7_holds_9 : decode cX7_holds 9 = .ok (.iload_n 2, 1) := by decide +kernel
theorem dX7_holds_10 : decode cX7_holds 10 = .ok (.invokevirtual 176, 3) := by decide +kernel
theorem dX7_holds_13 : decode cX7_holds 13 = .ok (.ifCond .eq 19, 3) := by decide +kernel
theorem dX7_holds_16 : decode cX7_holds 16 = .ok (.aload_n 0, 1) := by decide +kernel
theorem dX7_holds_17 : decode cX7_holds 17 = .ok (.getfield 7, 3) := by decide +kernel
theorem dX7_holds_20 : decode cX7_holds 20 = .ok (.bipush 33, 2) := by decide +kernel
theorem dX7_holds_22 : decode cX7_holds 22 = .ok (.iconst 5, 1) := by decide +kernel
theorem dX7_holds_23 : decode cX7_holds 23 = .ok (.iload_n 1, 1) := by decide +kernel
theorem dX7_holds_24 : decode cX7_holds 24 = .ok (.imul, 1) := by decide +kernel
theorem dX7_holds_25 : decode cX7_holds 25 = .ok (.iadd, 1) := by decide +kernel
theorem dX7_holds_26 : decode cX7_holds 26 = .ok (.iload_n 2, 1) := by decide +kernel
theorem dX7_holds_27 : decode cX7_holds 27 = .ok (.iadd, 1) := by decide +kernel
theorem dX7_holds_28 : decode cX7_holds 28 = .ok (.iaload, 1) := by decide +kernel
theorem dX7_holds_29 : decode cX7_holds 29 = .ok (.goto 4, 3) := by decide +kernel
theorem dX7_holds_32 : decode cX7_holds 32 = .ok (.iconst (-1), 1) := by decide +kernel
theorem dX7_holds_33 : decode cX7_holds 33 = .ok (.ireturn, 1) := by decide +kernel
theorem dX7_off_0 : decode cX7_off 0 = .ok (.aload_n 0, 1) := by decide +kernel
theorem dX7_off_1 : decode cX7_off 1 = .ok (.iload_n 1, 1) := by decide +kernel
theorem dX7_off_2 : decode cX7_off 2 = .ok (.invokevirtual 182, 3) := by decide +kernel
theorem dX7_off_5 : decode cX7_off 5 = .ok (.ifCond .eq 28, 3) := by decide +kernel
theorem dX7_off_8 : decode cX7_off 8 = .ok (.iload_n 2, 1) := by decide +kernel
theorem dX7_off_9 : decode cX7_off 9 = .ok (.i2l, 1) := by decide +kernel
theorem dX7_off_10 : decode cX7_off 10 = .ok (.lconst 0, 1) := by decide +kernel
theorem dX7_off_11 : decode cX7_off 11 = .ok (.ldc2_w 188, 3) := by decide +kernel
theorem dX7_off_14 : decode cX7_off 14 = .ok (.invokestatic 55, 3) := by decide +kernel
theorem dX7_off_17 : decode cX7_off 17 = .ok (.ifCond .eq 16, 3) := by decide +kernel
theorem dX7_off_20 : decode cX7_off 20 = .ok (.aload_n 0, 1) := by decide +kernel
theorem dX7_off_21 : decode cX7_off 21 = .ok (.iconst 0, 1) := by decide +kernel
theorem dX7_off_22 : decode cX7_off 22 = .ok (.iload_n 1, 1) := by decide +kernel
theorem dX7_off_23 : decode cX7_off 23 = .ok (.invokevirtual 185, 3) := by decide +kernel
theorem dX7_off_26 : decode cX7_off 26 = .ok (.iload_n 2, 1) := by decide +kernel
theorem dX7_off_27 : decode cX7_off 27 = .ok (.invokestatic 190, 3) := by decide +kernel
theorem dX7_off_30 : decode cX7_off 30 = .ok (.goto 4, 3) := by decide +kernel
theorem dX7_off_33 : decode cX7_off 33 = .ok (.iconst (-1), 1) := by decide +kernel
theorem dX7_off_34 : decode cX7_off 34 = .ok (.ireturn, 1) := by decide +kernel
theorem dX7_puts_0 : decode cX7_puts 0 = .ok (.iload_n 1, 1) := by decide +kernel
theorem dX7_puts_1 : decode cX7_puts 1 = .ok (.ifCond .ne 5, 3) := by decide +kernel
theorem dX7_puts_4 : decode cX7_puts 4 = .ok (.iconst (-1), 1) := by decide +kernel
theorem dX7_puts_5 : decode cX7_puts 5 = .ok (.ireturn, 1) := by decide +kernel
theorem dX7_puts_6 : decode cX7_puts 6 = .ok (.aload_n 0, 1) := by decide +kernel
theorem dX7_puts_7 : decode cX7_puts 7 = .ok (.getfield 7, 3) := by decide +kernel
theorem dX7_puts_10 : decode cX7_puts 10 = .ok (.iload_n 2, 1) := by decide +kernel
theorem dX7_puts_11 : decode cX7_puts 11 = .ok (.iaload, 1) := by decide +kernel
theorem dX7_puts_12 : decode cX7_puts 12 = .ok (.istore 4, 2) := by decide +kernel
theorem dX7_puts_14 : decode cX7_puts 14 = .ok (.aload_n 0, 1) := by decide +kernel
theorem dX7_puts_15 : decode cX7_puts 15 = .ok (.getfield 7, 3) := by decide +kernel
theorem dX7_puts_18 : decode cX7_puts 18 = .ok (.iload_n 2, 1) := by decide +kernel
theorem dX7_puts_19 : decode cX7_puts 19 = .ok (.iload_n 3, 1) := by decide +kernel
theorem dX7_puts_20 : decode cX7_puts 20 = .ok (.iastore, 1) := by decide +kernel
theorem dX7_puts_21 : decode cX7_puts 21 = .ok (.iload 4, 2) := by decide +kernel
theorem dX7_puts_23 : decode cX7_puts 23 = .ok (.ireturn, 1) := by decide +kernel
theorem dX7_alter_0 : decode cX7_alter 0 = .ok (.iload_n 2, 1) := by decide +kernel
theorem dX7_alter_1 : decode cX7_alter 1 = .ok (.ifCond .ne 7, 3) := by decide +kernel
theorem dX7_alter_4 : decode cX7_alter 4 = .ok (.iconst 3, 1) := by decide +kernel
theorem dX7_alter_5 : decode cX7_alter 5 = .ok (.goto 15, 3) := by decide +kernel
theorem dX7_alter_8 : decode cX7_alter 8 = .ok (.iload_n 2, 1) := by decide +kernel
theorem dX7_alter_9 : decode cX7_alter 9 = .ok (.iconst 4, 1) := by decide +kernel
theorem dX7_alter_10 : decode cX7_alter 10 = .ok (.if_icmp .ne 8, 3) := by decide +kernel
theorem dX7_alter_13 : decode cX7_alter 13 = .ok (.bipush 99, 2) := by decide +kernel
theorem dX7_alter_15 : decode cX7_alter 15 = .ok (.goto 5, 3) := by decide +kernel
theorem dX7_alter_18 : decode cX7_alter 18 = .ok (.bipush 9, 2) := by decide +kernel
theorem dX7_alter_20 : decode cX7_alter 20 = .ok (.istore 4, 2) := by decide +kernel
theorem dX7_alter_22 : decode cX7_alter 22 = .ok (.aload_n 0, 1) := by decide +kernel
theorem dX7_alter_23 : decode cX7_alter 23 = .ok (.aload_n 0, 1) := by decide +kernel
theorem dX7_alter_24 : decode cX7_alter 24 = .ok (.iload_n 1, 1) := by decide +kernel
theorem dX7_alter_25 : decode cX7_alter 25 = .ok (.invokevirtual 176, 3) := by decide +kernel
theorem dX7_alter_28 : decode cX7_alter 28 = .ok (.ifCond .eq 31, 3) := by decide +kernel
theorem dX7_alter_31 : decode cX7_alter 31 = .ok (.iload_n 2, 1) := by decide +kernel
theorem dX7_alter_32 : decode cX7_alter 32 = .ok (.i2l, 1) := by decide +kernel
theorem dX7_alter_33 : decode cX7_alter 33 = .ok (.lconst 0, 1) := by decide +kernel
theorem dX7_alter_34 : decode cX7_alter 34 = .ok (.ldc2_w 110, 3) := by decide +kernel
theorem dX7_alter_37 : decode cX7_alter 37 = .ok (.invokestatic 55, 3) := by decide +kernel
theorem dX7_alter_40 : decode cX7_alter 40 = .ok (.ifCond .eq 19, 3) := by decide +kernel
theorem dX7_alter_43 : decode cX7_alter 43 = .ok (.iload_n 3, 1) := by decide +kernel
theorem dX7_alter_44 : decode cX7_alter 44 = .ok (.i2l, 1) := by decide +kernel
theorem dX7_alter_45 : decode cX7_alter 45 = .ok (.lconst 0, 1) := by decide +kernel
theorem dX7_alter_46 : decode cX7_alter 46 = .ok (.iload 4, 2) := by decide +kernel
theorem dX7_alter_48 : decode cX7_alter 48 = .ok (.i2l, 1) := by decide +kernel
theorem dX7_alter_49 : decode cX7_alter 49 = .ok (.invokestatic 55, 3) := by decide +kernel
theorem dX7_alter_52 : decode cX7_alter 52 = .ok (.ifCond .eq 7, 3) := by decide +kernel
theorem dX7_alter_55 : decode cX7_alter 55 = .ok (.iconst 1, 1) := by decide +kernel
theorem dX7_alter_56 : decode cX7_alter 56 = .ok (.goto 4, 3) := by decide +kernel
theorem dX7_alter_59 : decode cX7_alter 59 = .ok (.iconst 0, 1) := by decide +kernel
theorem dX7_alter_60 : decode cX7_alter 60 = .ok (.iconst 5, 1) := by decide +kernel
theorem dX7_alter_61 : decode cX7_alter 61 = .ok (.iload_n 2, 1) := by decide +kernel
theorem dX7_alter_62 : decode cX7_alter 62 = .ok (.imul, 1) := by decide +kernel
theorem dX7_alter_63 : decode cX7_alter 63 = .ok (.iload_n 1, 1) := by decide +kernel
theorem dX7_alter_64 : decode cX7_alter 64 = .ok (.iadd, 1) := by decide +kernel
theorem dX7_alter_65 : decode cX7_alter 65 = .ok (.iload_n 3, 1) := by decide +kernel
theorem dX7_alter_66 : decode cX7_alter 66 = .ok (.invokevirtual 193, 3) := by decide +kernel
theorem dX7_alter_69 : decode cX7_alter 69 = .ok (.ireturn, 1) := by decide +kernel
theorem dX7_pay_0 : decode cX7_pay 0 = .ok (.aload_n 0, 1) := by decide +kernel
theorem dX7_pay_1 : decode cX7_pay 1 = .ok (.aload_n 0, 1) := by decide +kernel
theorem dX7_pay_2 : decode cX7_pay 2 = .ok (.iload_n 1, 1) := by decide +kernel
theorem dX7_pay_3 : decode cX7_pay 3 = .ok (.invokevirtual 182, 3) := by decide +kernel
theorem dX7_pay_6 : decode cX7_pay 6 = .ok (.ifCond .eq 39, 3) := by decide +kernel
theorem dX7_pay_9 : decode cX7_pay 9 = .ok (.iload_n 2, 1) := by decide +kernel
theorem dX7_pay_10 : decode cX7_pay 10 = .ok (.i2l, 1) := by decide +kernel
theorem dX7_pay_11 : decode cX7_pay 11 = .ok (.lconst 0, 1) := by decide +kernel
theorem dX7_pay_12 : decode cX7_pay 12 = .ok (.lconst 1, 1) := by decide +kernel
theorem dX7_pay_13 : decode cX7_pay 13 = .ok (.invokestatic 55, 3) := by decide +kernel
theorem dX7_pay_16 : decode cX7_pay 16 = .ok (.ifCond .eq 29, 3) := by decide +kernel
theorem dX7_pay_19 : decode cX7_pay 19 = .ok (.iload_n 3, 1) := by decide +kernel
theorem dX7_pay_20 : decode cX7_pay 20 = .ok (.i2l, 1) := by decide +kernel
theorem dX7_pay_21 : decode cX7_pay 21 = .ok (.lconst 0, 1) := by decide +kernel
theorem dX7_pay_22 : decode cX7_pay 22 = .ok (.iload_n 2, 1) := by decide +kernel
theorem dX7_pay_23 : decode cX7_pay 23 = .ok (.ifCond .ne 9, 3) := by decide +kernel
theorem dX7_pay_26 : decode cX7_pay 26 = .ok (.ldc2_w 188, 3) := by decide +kernel
theorem dX7_pay_29 : decode cX7_pay 29 = .ok (.goto 6, 3) := by decide +kernel
theorem dX7_pay_32 : decode cX7_pay 32 = .ok (.ldc2_w 197, 3) := by decide +kernel
theorem dX7_pay_35 : decode cX7_pay 35 = .ok (.invokestatic 55, 3) := by decide +kernel
theorem dX7_pay_38 : decode cX7_pay 38 = .ok (.ifCond .eq 7, 3) := by decide +kernel
theorem dX7_pay_41 : decode cX7_pay 41 = .ok (.iconst 1, 1) := by decide +kernel
theorem dX7_pay_42 : decode cX7_pay 42 = .ok (.goto 4, 3) := by decide +kernel
theorem dX7_pay_45 : decode cX7_pay 45 = .ok (.iconst 0, 1) := by decide +kernel
theorem dX7_pay_46 : decode cX7_pay 46 = .ok (.bipush 25, 2) := by decide +kernel
theorem dX7_pay_48 : decode cX7_pay 48 = .ok (.iconst 4, 1) := by decide +kernel
theorem dX7_pay_49 : decode cX7_pay 49 = .ok (.iload_n 2, 1) := by decide +kernel
theorem dX7_pay_50 : decode cX7_pay 50 = .ok (.imul, 1) := by decide +kernel
theorem dX7_pay_51 : decode cX7_pay 51 = .ok (.iadd, 1) := by decide +kernel
theorem dX7_pay_52 : decode cX7_pay 52 = .ok (.iload_n 1, 1) := by decide +kernel
theorem dX7_pay_53 : decode cX7_pay 53 = .ok (.iadd, 1) := by decide +kernel
theorem dX7_pay_54 : decode cX7_pay 54 = .ok (.iload_n 3, 1) := by decide +kernel
theorem dX7_pay_55 : decode cX7_pay 55 = .ok (.invokevirtual 193, 3) := by decide +kernel
theorem dX7_pay_58 : decode cX7_pay 58 = .ok (.ireturn, 1) := by decide +kernel
theorem dX7_lendsOn_0 : decode cX7_lendsOn 0 = .ok (.aload_n 0, 1) := by decide +kernel
theorem dX7_lendsOn_1 : decode cX7_lendsOn 1 = .ok (.iload_n 2, 1) := by decide +kernel
theorem dX7_lendsOn_2 : decode cX7_lendsOn 2 = .ok (.invokevirtual 182, 3) := by decide +kernel
theorem dX7_lendsOn_5 : decode cX7_lendsOn 5 = .ok (.ifCond .eq 24, 3) := by decide +kernel
theorem dX7_lendsOn_8 : decode cX7_lendsOn 8 = .ok (.aload_n 0, 1) := by decide +kernel
theorem dX7_lendsOn_9 : decode cX7_lendsOn 9 = .ok (.iload_n 3, 1) := by decide +kernel
theorem dX7_lendsOn_10 : decode cX7_lendsOn 10 = .ok (.invokevirtual 176, 3) := by decide +kernel
theorem dX7_lendsOn_13 : decode cX7_lendsOn 13 = .ok (.ifCond .eq 16, 3) := by decide +kernel
theorem dX7_lendsOn_16 : decode cX7_lendsOn 16 = .ok (.iload 4, 2) := by decide +kernel
theorem dX7_lendsOn_18 : decode cX7_lendsOn 18 = .ok (.i2l, 1) := by decide +kernel
theorem dX7_lendsOn_19 : decode cX7_lendsOn 19 = .ok (.lconst 1, 1) := by decide +kernel
theorem dX7_lendsOn_20 : decode cX7_lendsOn 20 = .ok (.ldc2_w 197, 3) := by decide +kernel
theorem dX7_lendsOn_23 : decode cX7_lendsOn 23 = .ok (.invokestatic 55, 3) := by decide +kernel
theorem dX7_lendsOn_26 : decode cX7_lendsOn 26 = .ok (.ifCond .ne 5, 3) := by decide +kernel
theorem dX7_lendsOn_29 : decode cX7_lendsOn 29 = .ok (.iconst (-1), 1) := by decide +kernel
theorem dX7_lendsOn_30 : decode cX7_lendsOn 30 = .ok (.ireturn, 1) := by decide +kernel
theorem dX7_lendsOn_31 : decode cX7_lendsOn 31 = .ok (.iload_n 1, 1) := by decide +kernel
theorem dX7_lendsOn_32 : decode cX7_lendsOn 32 = .ok (.bipush 33, 2) := by decide +kernel
theorem dX7_lendsOn_34 : decode cX7_lendsOn 34 = .ok (.iadd, 1) := by decide +kernel
theorem dX7_lendsOn_35 : decode cX7_lendsOn 35 = .ok (.iconst 5, 1) := by decide +kernel
theorem dX7_lendsOn_36 : decode cX7_lendsOn 36 = .ok (.iload_n 2, 1) := by decide +kernel
theorem dX7_lendsOn_37 : decode cX7_lendsOn 37 = .ok (.imul, 1) := by decide +kernel
theorem dX7_lendsOn_38 : decode cX7_lendsOn 38 = .ok (.iadd, 1) := by decide +kernel
theorem dX7_lendsOn_39 : decode cX7_lendsOn 39 = .ok (.iload_n 3, 1) := by decide +kernel
theorem dX7_lendsOn_40 : decode cX7_lendsOn 40 = .ok (.iadd, 1) := by decide +kernel
theorem dX7_lendsOn_41 : decode cX7_lendsOn 41 = .ok (.istore 5, 2) := by decide +kernel
theorem dX7_lendsOn_43 : decode cX7_lendsOn 43 = .ok (.aload_n 0, 1) := by decide +kernel
theorem dX7_lendsOn_44 : decode cX7_lendsOn 44 = .ok (.getfield 7, 3) := by decide +kernel
theorem dX7_lendsOn_47 : decode cX7_lendsOn 47 = .ok (.iload_n 1, 1) := by decide +kernel
theorem dX7_lendsOn_48 : decode cX7_lendsOn 48 = .ok (.bipush 20, 2) := by decide +kernel
theorem dX7_lendsOn_50 : decode cX7_lendsOn 50 = .ok (.iadd, 1) := by decide +kernel
theorem dX7_lendsOn_51 : decode cX7_lendsOn 51 = .ok (.iload_n 3, 1) := by decide +kernel
theorem dX7_lendsOn_52 : decode cX7_lendsOn 52 = .ok (.iadd, 1) := by decide +kernel
theorem dX7_lendsOn_53 : decode cX7_lendsOn 53 = .ok (.iaload, 1) := by decide +kernel
theorem dX7_lendsOn_54 : decode cX7_lendsOn 54 = .ok (.iload 4, 2) := by decide +kernel
theorem dX7_lendsOn_56 : decode cX7_lendsOn 56 = .ok (.if_icmp .lt 18, 3) := by decide +kernel
theorem dX7_lendsOn_59 : decode cX7_lendsOn 59 = .ok (.aload_n 0, 1) := by decide +kernel
theorem dX7_lendsOn_60 : decode cX7_lendsOn 60 = .ok (.getfield 7, 3) := by decide +kernel
theorem dX7_lendsOn_63 : decode cX7_lendsOn 63 = .ok (.iload 5, 2) := by decide +kernel
theorem dX7_lendsOn_65 : decode cX7_lendsOn 65 = .ok (.iaload, 1) := by decide +kernel
theorem dX7_lendsOn_66 : decode cX7_lendsOn 66 = .ok (.iload 4, 2) := by decide +kernel
theorem dX7_lendsOn_68 : decode cX7_lendsOn 68 = .ok (.iadd, 1) := by decide +kernel
theorem dX7_lendsOn_69 : decode cX7_lendsOn 69 = .ok (.bipush 99, 2) := by decide +kernel
theorem dX7_lendsOn_71 : decode cX7_lendsOn 71 = .ok (.if_icmp .le 6, 3) := by decide +kernel
theorem dX7_lendsOn_74 : decode cX7_lendsOn 74 = .ok (.bipush (-2), 2) := by decide +kernel
theorem dX7_lendsOn_76 : decode cX7_lendsOn 76 = .ok (.ireturn, 1) := by decide +kernel
theorem dX7_lendsOn_77 : decode cX7_lendsOn 77 = .ok (.aload_n 0, 1) := by decide +kernel
theorem dX7_lendsOn_78 : decode cX7_lendsOn 78 = .ok (.getfield 7, 3) := by decide +kernel
theorem dX7_lendsOn_81 : decode cX7_lendsOn 81 = .ok (.iload_n 1, 1) := by decide +kernel
theorem dX7_lendsOn_82 : decode cX7_lendsOn 82 = .ok (.bipush 20, 2) := by decide +kernel
theorem dX7_lendsOn_84 : decode cX7_lendsOn 84 = .ok (.iadd, 1) := by decide +kernel
theorem dX7_lendsOn_85 : decode cX7_lendsOn 85 = .ok (.iload_n 3, 1) := by decide +kernel
theorem dX7_lendsOn_86 : decode cX7_lendsOn 86 = .ok (.iadd, 1) := by decide +kernel
theorem dX7_lendsOn_87 : decode cX7_lendsOn 87 = .ok (.dup2, 1) := by decide +kernel
theorem dX7_lendsOn_88 : decode cX7_lendsOn 88 = .ok (.iaload, 1) := by decide +kernel
theorem dX7_lendsOn_89 : decode cX7_lendsOn 89 = .ok (.iload 4, 2) := by decide +kernel
theorem dX7_lendsOn_91 : decode cX7_lendsOn 91 = .ok (.isub, 1) := by decide +kernel
theorem dX7_lendsOn_92 : decode cX7_lendsOn 92 = .ok (.iastore, 1) := by decide +kernel
theorem dX7_lendsOn_93 : decode cX7_lendsOn 93 = .ok (.aload_n 0, 1) := by decide +kernel
theorem dX7_lendsOn_94 : decode cX7_lendsOn 94 = .ok (.getfield 7, 3) := by decide +kernel
theorem dX7_lendsOn_97 : decode cX7_lendsOn 97 = .ok (.iload 5, 2) := by decide +kernel
theorem dX7_lendsOn_99 : decode cX7_lendsOn 99 = .ok (.dup2, 1) := by decide +kernel
theorem dX7_lendsOn_100 : decode cX7_lendsOn 100 = .ok (.iaload, 1) := by decide +kernel
theorem dX7_lendsOn_101 : decode cX7_lendsOn 101 = .ok (.iload 4, 2) := by decide +kernel
theorem dX7_lendsOn_103 : decode cX7_lendsOn 103 = .ok (.iadd, 1) := by decide +kernel
theorem dX7_lendsOn_104 : decode cX7_lendsOn 104 = .ok (.iastore, 1) := by decide +kernel
theorem dX7_lendsOn_105 : decode cX7_lendsOn 105 = .ok (.aload_n 0, 1) := by decide +kernel
theorem dX7_lendsOn_106 : decode cX7_lendsOn 106 = .ok (.getfield 7, 3) := by decide +kernel
theorem dX7_lendsOn_109 : decode cX7_lendsOn 109 = .ok (.iload 5, 2) := by decide +kernel
theorem dX7_lendsOn_111 : decode cX7_lendsOn 111 = .ok (.iaload, 1) := by decide +kernel
theorem dX7_lendsOn_112 : decode cX7_lendsOn 112 = .ok (.ireturn, 1) := by decide +kernel
theorem dX7_lend_0 : decode cX7_lend 0 = .ok (.aload_n 0, 1) := by decide +kernel
theorem dX7_lend_1 : decode cX7_lend 1 = .ok (.iconst 0, 1) := by decide +kernel
theorem dX7_lend_2 : decode cX7_lend 2 = .ok (.iload_n 1, 1) := by decide +kernel
theorem dX7_lend_3 : decode cX7_lend 3 = .ok (.iload_n 2, 1) := by decide +kernel
theorem dX7_lend_4 : decode cX7_lend 4 = .ok (.iload_n 3, 1) := by decide +kernel
theorem dX7_lend_5 : decode cX7_lend 5 = .ok (.invokevirtual 199, 3) := by decide +kernel
theorem dX7_lend_8 : decode cX7_lend 8 = .ok (.ireturn, 1) := by decide +kernel
theorem dX7_bringsOn_0 : decode cX7_bringsOn 0 = .ok (.aload_n 0, 1) := by decide +kernel
theorem dX7_bringsOn_1 : decode cX7_bringsOn 1 = .ok (.getfield 7, 3) := by decide +kernel
theorem dX7_bringsOn_4 : decode cX7_bringsOn 4 = .ok (.iload_n 1, 1) := by decide +kernel
theorem dX7_bringsOn_5 : decode cX7_bringsOn 5 = .ok (.bipush 20, 2) := by decide +kernel
theorem dX7_bringsOn_7 : decode cX7_bringsOn 7 = .ok (.iadd, 1) := by decide +kernel
theorem dX7_bringsOn_8 : decode cX7_bringsOn 8 = .ok (.iload_n 3, 1) := by decide +kernel
theorem dX7_bringsOn_9 : decode cX7_bringsOn 9 = .ok (.iadd, 1) := by decide +kernel
theorem dX7_bringsOn_10 : decode cX7_bringsOn 10 = .ok (.iaload, 1) := by decide +kernel
theorem dX7_bringsOn_11 : decode cX7_bringsOn 11 = .ok (.iload 4, 2) := by decide +kernel
theorem dX7_bringsOn_13 : decode cX7_bringsOn 13 = .ok (.iadd, 1) := by decide +kernel
theorem dX7_bringsOn_14 : decode cX7_bringsOn 14 = .ok (.istore 5, 2) := by decide +kernel
theorem dX7_bringsOn_16 : decode cX7_bringsOn 16 = .ok (.aload_n 0, 1) := by decide +kernel
theorem dX7_bringsOn_17 : decode cX7_bringsOn 17 = .ok (.getfield 7, 3) := by decide +kernel
theorem dX7_bringsOn_20 : decode cX7_bringsOn 20 = .ok (.iload_n 1, 1) := by decide +kernel
theorem dX7_bringsOn_21 : decode cX7_bringsOn 21 = .ok (.bipush 20, 2) := by decide +kernel
theorem dX7_bringsOn_23 : decode cX7_bringsOn 23 = .ok (.iadd, 1) := by decide +kernel
theorem dX7_bringsOn_24 : decode cX7_bringsOn 24 = .ok (.iload_n 3, 1) := by decide +kernel
theorem dX7_bringsOn_25 : decode cX7_bringsOn 25 = .ok (.iadd, 1) := by decide +kernel
theorem dX7_bringsOn_26 : decode cX7_bringsOn 26 = .ok (.iload 5, 2) := by decide +kernel
theorem dX7_bringsOn_28 : decode cX7_bringsOn 28 = .ok (.bipush 99, 2) := by decide +kernel
theorem dX7_bringsOn_30 : decode cX7_bringsOn 30 = .ok (.if_icmp .le 8, 3) := by decide +kernel
theorem dX7_bringsOn_33 : decode cX7_bringsOn 33 = .ok (.bipush 99, 2) := by decide +kernel
theorem dX7_bringsOn_35 : decode cX7_bringsOn 35 = .ok (.goto 5, 3) := by decide +kernel
theorem dX7_bringsOn_38 : decode cX7_bringsOn 38 = .ok (.iload 5, 2) := by decide +kernel
theorem dX7_bringsOn_40 : decode cX7_bringsOn 40 = .ok (.iastore, 1) := by decide +kernel
theorem dX7_bringsOn_41 : decode cX7_bringsOn 41 = .ok (.aload_n 0, 1) := by decide +kernel
theorem dX7_bringsOn_42 : decode cX7_bringsOn 42 = .ok (.getfield 7, 3) := by decide +kernel
theorem dX7_bringsOn_45 : decode cX7_bringsOn 45 = .ok (.iload_n 1, 1) := by decide +kernel
theorem dX7_bringsOn_46 : decode cX7_bringsOn 46 = .ok (.bipush 33, 2) := by decide +kernel
theorem dX7_bringsOn_48 : decode cX7_bringsOn 48 = .ok (.iadd, 1) := by decide +kernel
theorem dX7_bringsOn_49 : decode cX7_bringsOn 49 = .ok (.iconst 5, 1) := by decide +kernel
theorem dX7_bringsOn_50 : decode cX7_bringsOn 50 = .ok (.iload_n 2, 1) := by decide +kernel
theorem dX7_bringsOn_51 : decode cX7_bringsOn 51 = .ok (.imul, 1) := by decide +kernel
theorem dX7_bringsOn_52 : decode cX7_bringsOn 52 = .ok (.iadd, 1) := by decide +kernel
theorem dX7_bringsOn_53 : decode cX7_bringsOn 53 = .ok (.iload_n 3, 1) := by decide +kernel
theorem dX7_bringsOn_54 : decode cX7_bringsOn 54 = .ok (.iadd, 1) := by decide +kernel
theorem dX7_bringsOn_55 : decode cX7_bringsOn 55 = .ok (.dup2, 1) := by decide +kernel
theorem dX7_bringsOn_56 : decode cX7_bringsOn 56 = .ok (.iaload, 1) := by decide +kernel
theorem dX7_bringsOn_57 : decode cX7_bringsOn 57 = .ok (.iload 4, 2) := by decide +kernel
theorem dX7_bringsOn_59 : decode cX7_bringsOn 59 = .ok (.isub, 1) := by decide +kernel
theorem dX7_bringsOn_60 : decode cX7_bringsOn 60 = .ok (.iastore, 1) := by decide +kernel
theorem dX7_bringsOn_61 : decode cX7_bringsOn 61 = .ok (.return_, 1) := by decide +kernel
theorem dX7_bring_0 : decode cX7_bring 0 = .ok (.aload_n 0, 1) := by decide +kernel
theorem dX7_bring_1 : decode cX7_bring 1 = .ok (.iload_n 1, 1) := by decide +kernel
theorem dX7_bring_2 : decode cX7_bring 2 = .ok (.invokevirtual 182, 3) := by decide +kernel
theorem dX7_bring_5 : decode cX7_bring 5 = .ok (.ifCond .eq 23, 3) := by decide +kernel
theorem dX7_bring_8 : decode cX7_bring 8 = .ok (.aload_n 0, 1) := by decide +kernel
theorem dX7_bring_9 : decode cX7_bring 9 = .ok (.iload_n 2, 1) := by decide +kernel
theorem dX7_bring_10 : decode cX7_bring 10 = .ok (.invokevirtual 176, 3) := by decide +kernel
theorem dX7_bring_13 : decode cX7_bring 13 = .ok (.ifCond .eq 15, 3) := by decide +kernel
theorem dX7_bring_16 : decode cX7_bring 16 = .ok (.iload_n 3, 1) := by decide +kernel
theorem dX7_bring_17 : decode cX7_bring 17 = .ok (.i2l, 1) := by decide +kernel
theorem dX7_bring_18 : decode cX7_bring 18 = .ok (.lconst 1, 1) := by decide +kernel
theorem dX7_bring_19 : decode cX7_bring 19 = .ok (.ldc2_w 197, 3) := by decide +kernel
theorem dX7_bring_22 : decode cX7_bring 22 = .ok (.invokestatic 55, 3) := by decide +kernel
theorem dX7_bring_25 : decode cX7_bring 25 = .ok (.ifCond .ne 5, 3) := by decide +kernel
theorem dX7_bring_28 : decode cX7_bring 28 = .ok (.iconst (-1), 1) := by decide +kernel
theorem dX7_bring_29 : decode cX7_bring 29 = .ok (.ireturn, 1) := by decide +kernel
theorem dX7_bring_30 : decode cX7_bring 30 = .ok (.aload_n 0, 1) := by decide +kernel
theorem dX7_bring_31 : decode cX7_bring 31 = .ok (.getfield 7, 3) := by decide +kernel
theorem dX7_bring_34 : decode cX7_bring 34 = .ok (.bipush 33, 2) := by decide +kernel
theorem dX7_bring_36 : decode cX7_bring 36 = .ok (.iconst 5, 1) := by decide +kernel
theorem dX7_bring_37 : decode cX7_bring 37 = .ok (.iload_n 1, 1) := by decide +kernel
theorem dX7_bring_38 : decode cX7_bring 38 = .ok (.imul, 1) := by decide +kernel
theorem dX7_bring_39 : decode cX7_bring 39 = .ok (.iadd, 1) := by decide +kernel
theorem dX7_bring_40 : decode cX7_bring 40 = .ok (.iload_n 2, 1) := by decide +kernel
theorem dX7_bring_41 : decode cX7_bring 41 = .ok (.iadd, 1) := by decide +kernel
theorem dX7_bring_42 : decode cX7_bring 42 = .ok (.iaload, 1) := by decide +kernel
theorem dX7_bring_43 : decode cX7_bring 43 = .ok (.iload_n 3, 1) := by decide +kernel
theorem dX7_bring_44 : decode cX7_bring 44 = .ok (.if_icmp .ge 6, 3) := by decide +kernel
theorem dX7_bring_47 : decode cX7_bring 47 = .ok (.bipush (-2), 2) := by decide +kernel
theorem dX7_bring_49 : decode cX7_bring 49 = .ok (.ireturn, 1) := by decide +kernel
theorem dX7_bring_50 : decode cX7_bring 50 = .ok (.aload_n 0, 1) := by decide +kernel
theorem dX7_bring_51 : decode cX7_bring 51 = .ok (.iconst 0, 1) := by decide +kernel
theorem dX7_bring_52 : decode cX7_bring 52 = .ok (.iload_n 1, 1) := by decide +kernel
theorem dX7_bring_53 : decode cX7_bring 53 = .ok (.iload_n 2, 1) := by decide +kernel
theorem dX7_bring_54 : decode cX7_bring 54 = .ok (.iload_n 3, 1) := by decide +kernel
theorem dX7_bring_55 : decode cX7_bring 55 = .ok (.invokevirtual 203, 3) := by decide +kernel
theorem dX7_bring_58 : decode cX7_bring 58 = .ok (.aload_n 0, 1) := by decide +kernel
theorem dX7_bring_59 : decode cX7_bring 59 = .ok (.getfield 7, 3) := by decide +kernel
theorem dX7_bring_62 : decode cX7_bring 62 = .ok (.bipush 33, 2) := by decide +kernel
theorem dX7_bring_64 : decode cX7_bring 64 = .ok (.iconst 5, 1) := by decide +kernel
theorem dX7_bring_65 : decode cX7_bring 65 = .ok (.iload_n 1, 1) := by decide +kernel
theorem dX7_bring_66 : decode cX7_bring 66 = .ok (.imul, 1) := by decide +kernel
theorem dX7_bring_67 : decode cX7_bring 67 = .ok (.iadd, 1) := by decide +kernel
theorem dX7_bring_68 : decode cX7_bring 68 = .ok (.iload_n 2, 1) := by decide +kernel
theorem dX7_bring_69 : decode cX7_bring 69 = .ok (.iadd, 1) := by decide +kernel
theorem dX7_bring_70 : decode cX7_bring 70 = .ok (.iaload, 1) := by decide +kernel
theorem dX7_bring_71 : decode cX7_bring 71 = .ok (.ireturn, 1) := by decide +kernel
theorem dX7_days_0 : decode cX7_days 0 = .ok (.iload_n 1, 1) := by decide +kernel
theorem dX7_days_1 : decode cX7_days 1 = .ok (.i2l, 1) := by decide +kernel
theorem dX7_days_2 : decode cX7_days 2 = .ok (.lconst 0, 1) := by decide +kernel
theorem dX7_days_3 : decode cX7_days 3 = .ok (.ldc2_w 206, 3) := by decide +kernel
theorem dX7_days_6 : decode cX7_days 6 = .ok (.invokestatic 55, 3) := by decide +kernel
theorem dX7_days_9 : decode cX7_days 9 = .ok (.ifCond .ne 5, 3) := by decide +kernel
theorem dX7_days_12 : decode cX7_days 12 = .ok (.iconst (-1), 1) := by decide +kernel
theorem dX7_days_13 : decode cX7_days 13 = .ok (.ireturn, 1) := by decide +kernel
theorem dX7_days_14 : decode cX7_days 14 = .ok (.aload_n 0, 1) := by decide +kernel
theorem dX7_days_15 : decode cX7_days 15 = .ok (.getfield 7, 3) := by decide +kernel
theorem dX7_days_18 : decode cX7_days 18 = .ok (.bipush 53, 2) := by decide +kernel
theorem dX7_days_20 : decode cX7_days 20 = .ok (.iaload, 1) := by decide +kernel
theorem dX7_days_21 : decode cX7_days 21 = .ok (.iload_n 1, 1) := by decide +kernel
theorem dX7_days_22 : decode cX7_days 22 = .ok (.iadd, 1) := by decide +kernel
theorem dX7_days_23 : decode cX7_days 23 = .ok (.sipush 999, 3) := by decide +kernel
theorem dX7_days_26 : decode cX7_days 26 = .ok (.if_icmp .le 6, 3) := by decide +kernel
theorem dX7_days_29 : decode cX7_days 29 = .ok (.bipush (-3), 2) := by decide +kernel
theorem dX7_days_31 : decode cX7_days 31 = .ok (.ireturn, 1) := by decide +kernel
theorem dX7_days_32 : decode cX7_days 32 = .ok (.aload_n 0, 1) := by decide +kernel
theorem dX7_days_33 : decode cX7_days 33 = .ok (.getfield 7, 3) := by decide +kernel
theorem dX7_days_36 : decode cX7_days 36 = .ok (.bipush 54, 2) := by decide +kernel
theorem dX7_days_38 : decode cX7_days 38 = .ok (.iaload, 1) := by decide +kernel
theorem dX7_days_39 : decode cX7_days 39 = .ok (.istore_n 2, 1) := by decide +kernel
theorem dX7_days_40 : decode cX7_days 40 = .ok (.iconst 0, 1) := by decide +kernel
theorem dX7_days_41 : decode cX7_days 41 = .ok (.istore_n 3, 1) := by decide +kernel
theorem dX7_days_42 : decode cX7_days 42 = .ok (.iload_n 3, 1) := by decide +kernel
theorem dX7_days_43 : decode cX7_days 43 = .ok (.iload_n 1, 1) := by decide +kernel
theorem dX7_days_44 : decode cX7_days 44 = .ok (.if_icmp .ge 15, 3) := by decide +kernel
theorem dX7_days_47 : decode cX7_days 47 = .ok (.aload_n 0, 1) := by decide +kernel
theorem dX7_days_48 : decode cX7_days 48 = .ok (.iconst 0, 1) := by decide +kernel
theorem dX7_days_49 : decode cX7_days 49 = .ok (.iconst 1, 1) := by decide +kernel
theorem dX7_days_50 : decode cX7_days 50 = .ok (.invokevirtual 208, 3) := by decide +kernel
theorem dX7_days_53 : decode cX7_days 53 = .ok (.iinc 3 1, 3) := by decide +kernel
theorem dX7_days_56 : decode cX7_days 56 = .ok (.goto (-14), 3) := by decide +kernel
theorem dX7_days_59 : decode cX7_days 59 = .ok (.aload_n 0, 1) := by decide +kernel
theorem dX7_days_60 : decode cX7_days 60 = .ok (.getfield 7, 3) := by decide +kernel
theorem dX7_days_63 : decode cX7_days 63 = .ok (.bipush 54, 2) := by decide +kernel
theorem dX7_days_65 : decode cX7_days 65 = .ok (.iaload, 1) := by decide +kernel
theorem dX7_days_66 : decode cX7_days 66 = .ok (.iload_n 2, 1) := by decide +kernel
theorem dX7_days_67 : decode cX7_days 67 = .ok (.isub, 1) := by decide +kernel
theorem dX7_days_68 : decode cX7_days 68 = .ok (.ireturn, 1) := by decide +kernel
theorem dX7_copies_0 : decode cX7_copies 0 = .ok (.iconst 0, 1) := by decide +kernel
theorem dX7_copies_1 : decode cX7_copies 1 = .ok (.istore_n 3, 1) := by decide +kernel
theorem dX7_copies_2 : decode cX7_copies 2 = .ok (.iload_n 3, 1) := by decide +kernel
theorem dX7_copies_3 : decode cX7_copies 3 = .ok (.bipush 55, 2) := by decide +kernel
theorem dX7_copies_5 : decode cX7_copies 5 = .ok (.if_icmp .ge 25, 3) := by decide +kernel
theorem dX7_copies_8 : decode cX7_copies 8 = .ok (.aload_n 0, 1) := by decide +kernel
theorem dX7_copies_9 : decode cX7_copies 9 = .ok (.getfield 7, 3) := by decide +kernel
theorem dX7_copies_12 : decode cX7_copies 12 = .ok (.iload_n 2, 1) := by decide +kernel
theorem dX7_copies_13 : decode cX7_copies 13 = .ok (.iload_n 3, 1) := by decide +kernel
theorem dX7_copies_14 : decode cX7_copies 14 = .ok (.iadd, 1) := by decide +kernel
theorem dX7_copies_15 : decode cX7_copies 15 = .ok (.aload_n 0, 1) := by decide +kernel
theorem dX7_copies_16 : decode cX7_copies 16 = .ok (.getfield 7, 3) := by decide +kernel
theorem dX7_copies_19 : decode cX7_copies 19 = .ok (.iload_n 1, 1) := by decide +kernel
theorem dX7_copies_20 : decode cX7_copies 20 = .ok (.iload_n 3, 1) := by decide +kernel
theorem dX7_copies_21 : decode cX7_copies 21 = .ok (.iadd, 1) := by decide +kernel
theorem dX7_copies_22 : decode cX7_copies 22 = .ok (.iaload, 1) := by decide +kernel
theorem dX7_copies_23 : decode cX7_copies 23 = .ok (.iastore, 1) := by decide +kernel
theorem dX7_copies_24 : decode cX7_copies 24 = .ok (.iinc 3 1, 3) := by decide +kernel
theorem dX7_copies_27 : decode cX7_copies 27 = .ok (.goto (-25), 3) := by decide +kernel
theorem dX7_copies_30 : decode cX7_copies 30 = .ok (.return_, 1) := by decide +kernel
theorem dX7_daysGo_0 : decode cX7_daysGo 0 = .ok (.aload_n 0, 1) := by decide +kernel
theorem dX7_daysGo_1 : decode cX7_daysGo 1 = .ok (.iload_n 1, 1) := by decide +kernel
theorem dX7_daysGo_2 : decode cX7_daysGo 2 = .ok (.sipush 220, 3) := by decide +kernel
theorem dX7_daysGo_5 : decode cX7_daysGo 5 = .ok (.invokevirtual 212, 3) := by decide +kernel
theorem dX7_daysGo_8 : decode cX7_daysGo 8 = .ok (.aload_n 0, 1) := by decide +kernel
theorem dX7_daysGo_9 : decode cX7_daysGo 9 = .ok (.iconst 0, 1) := by decide +kernel
theorem dX7_daysGo_10 : decode cX7_daysGo 10 = .ok (.putfield 160, 3) := by decide +kernel
theorem dX7_daysGo_13 : decode cX7_daysGo 13 = .ok (.aload_n 0, 1) := by decide +kernel
theorem dX7_daysGo_14 : decode cX7_daysGo 14 = .ok (.bipush (-4), 2) := by decide +kernel
theorem dX7_daysGo_16 : decode cX7_daysGo 16 = .ok (.putfield 215, 3) := by decide +kernel
theorem dX7_daysGo_19 : decode cX7_daysGo 19 = .ok (.iconst 0, 1) := by decide +kernel
theorem dX7_daysGo_20 : decode cX7_daysGo 20 = .ok (.istore_n 3, 1) := by decide +kernel
theorem dX7_daysGo_21 : decode cX7_daysGo 21 = .ok (.iload_n 3, 1) := by decide +kernel
theorem dX7_daysGo_22 : decode cX7_daysGo 22 = .ok (.iconst 4, 1) := by decide +kernel
theorem dX7_daysGo_23 : decode cX7_daysGo 23 = .ok (.if_icmp .ge 16, 3) := by decide +kernel
theorem dX7_daysGo_26 : decode cX7_daysGo 26 = .ok (.aload_n 0, 1) := by decide +kernel
theorem dX7_daysGo_27 : decode cX7_daysGo 27 = .ok (.getfield 25, 3) := by decide +kernel
theorem dX7_daysGo_30 : decode cX7_daysGo 30 = .ok (.iload_n 3, 1) := by decide +kernel
theorem dX7_daysGo_31 : decode cX7_daysGo 31 = .ok (.iconst 0, 1) := by decide +kernel
theorem dX7_daysGo_32 : decode cX7_daysGo 32 = .ok (.iastore, 1) := by decide +kernel
theorem dX7_daysGo_33 : decode cX7_daysGo 33 = .ok (.iinc 3 1, 3) := by decide +kernel
theorem dX7_daysGo_36 : decode cX7_daysGo 36 = .ok (.goto (-15), 3) := by decide +kernel
theorem dX7_daysGo_39 : decode cX7_daysGo 39 = .ok (.iconst 1, 1) := by decide +kernel
theorem dX7_daysGo_40 : decode cX7_daysGo 40 = .ok (.istore_n 3, 1) := by decide +kernel
theorem dX7_daysGo_41 : decode cX7_daysGo 41 = .ok (.iload_n 3, 1) := by decide +kernel
theorem dX7_daysGo_42 : decode cX7_daysGo 42 = .ok (.iload_n 2, 1) := by decide +kernel
theorem dX7_daysGo_43 : decode cX7_daysGo 43 = .ok (.if_icmp .gt 58, 3) := by decide +kernel
theorem dX7_daysGo_46 : decode cX7_daysGo 46 = .ok (.aload_n 0, 1) := by decide +kernel
theorem dX7_daysGo_47 : decode cX7_daysGo 47 = .ok (.sipush 220, 3) := by decide +kernel
theorem dX7_daysGo_50 : decode cX7_daysGo 50 = .ok (.iconst 1, 1) := by decide +kernel
theorem dX7_daysGo_51 : decode cX7_daysGo 51 = .ok (.invokevirtual 208, 3) := by decide +kernel
theorem dX7_daysGo_54 : decode cX7_daysGo 54 = .ok (.aload_n 0, 1) := by decide +kernel
theorem dX7_daysGo_55 : decode cX7_daysGo 55 = .ok (.aload_n 0, 1) := by decide +kernel
theorem dX7_daysGo_56 : decode cX7_daysGo 56 = .ok (.getfield 215, 3) := by decide +kernel
theorem dX7_daysGo_59 : decode cX7_daysGo 59 = .ok (.bipush (-4), 2) := by decide +kernel
theorem dX7_daysGo_61 : decode cX7_daysGo 61 = .ok (.if_icmp .ne 27, 3) := by decide +kernel
theorem dX7_daysGo_64 : decode cX7_daysGo 64 = .ok (.aload_n 0, 1) := by decide +kernel
theorem dX7_daysGo_65 : decode cX7_daysGo 65 = .ok (.getfield 7, 3) := by decide +kernel
theorem dX7_daysGo_68 : decode cX7_daysGo 68 = .ok (.sipush 274, 3) := by decide +kernel
theorem dX7_daysGo_71 : decode cX7_daysGo 71 = .ok (.iaload, 1) := by decide +kernel
theorem dX7_daysGo_72 : decode cX7_daysGo 72 = .ok (.aload_n 0, 1) := by decide +kernel
theorem dX7_daysGo_73 : decode cX7_daysGo 73 = .ok (.getfield 7, 3) := by decide +kernel
theorem dX7_daysGo_76 : decode cX7_daysGo 76 = .ok (.iload_n 1, 1) := by decide +kernel
theorem dX7_daysGo_77 : decode cX7_daysGo 77 = .ok (.bipush 54, 2) := by decide +kernel
theorem dX7_daysGo_79 : decode cX7_daysGo 79 = .ok (.iadd, 1) := by decide +kernel
theorem dX7_daysGo_80 : decode cX7_daysGo 80 = .ok (.iaload, 1) := by decide +kernel
theorem dX7_daysGo_81 : decode cX7_daysGo 81 = .ok (.if_icmp .le 7, 3) := by decide +kernel
theorem dX7_daysGo_84 : decode cX7_daysGo 84 = .ok (.iload_n 3, 1) := by decide +kernel
theorem dX7_daysGo_85 : decode cX7_daysGo 85 = .ok (.goto 7, 3) := by decide +kernel
theorem dX7_daysGo_88 : decode cX7_daysGo 88 = .ok (.aload_n 0, 1) := by decide +kernel
theorem dX7_daysGo_89 : decode cX7_daysGo 89 = .ok (.getfield 215, 3) := by decide +kernel
theorem dX7_daysGo_92 : decode cX7_daysGo 92 = .ok (.putfield 215, 3) := by decide +kernel
theorem dX7_daysGo_95 : decode cX7_daysGo 95 = .ok (.iinc 3 1, 3) := by decide +kernel
theorem dX7_daysGo_98 : decode cX7_daysGo 98 = .ok (.goto (-57), 3) := by decide +kernel
theorem dX7_daysGo_101 : decode cX7_daysGo 101 = .ok (.aload_n 0, 1) := by decide +kernel
theorem dX7_daysGo_102 : decode cX7_daysGo 102 = .ok (.getfield 7, 3) := by decide +kernel
theorem dX7_daysGo_105 : decode cX7_daysGo 105 = .ok (.sipush 274, 3) := by decide +kernel
theorem dX7_daysGo_108 : decode cX7_daysGo 108 = .ok (.iaload, 1) := by decide +kernel
theorem dX7_daysGo_109 : decode cX7_daysGo 109 = .ok (.aload_n 0, 1) := by decide +kernel
theorem dX7_daysGo_110 : decode cX7_daysGo 110 = .ok (.getfield 7, 3) := by decide +kernel
theorem dX7_daysGo_113 : decode cX7_daysGo 113 = .ok (.iload_n 1, 1) := by decide +kernel
theorem dX7_daysGo_114 : decode cX7_daysGo 114 = .ok (.bipush 54, 2) := by decide +kernel
theorem dX7_daysGo_116 : decode cX7_daysGo 116 = .ok (.iadd, 1) := by decide +kernel
theorem dX7_daysGo_117 : decode cX7_daysGo 117 = .ok (.iaload, 1) := by decide +kernel
theorem dX7_daysGo_118 : decode cX7_daysGo 118 = .ok (.isub, 1) := by decide +kernel
theorem dX7_daysGo_119 : decode cX7_daysGo 119 = .ok (.ireturn, 1) := by decide +kernel
theorem dX7_runs_0 : decode cX7_runs 0 = .ok (.iload_n 1, 1) := by decide +kernel
theorem dX7_runs_1 : decode cX7_runs 1 = .ok (.i2l, 1) := by decide +kernel
theorem dX7_runs_2 : decode cX7_runs 2 = .ok (.lconst 0, 1) := by decide +kernel
theorem dX7_runs_3 : decode cX7_runs 3 = .ok (.ldc2_w 218, 3) := by decide +kernel
theorem dX7_runs_6 : decode cX7_runs 6 = .ok (.invokestatic 55, 3) := by decide +kernel
theorem dX7_runs_9 : decode cX7_runs 9 = .ok (.ifCond .eq 15, 3) := by decide +kernel
theorem dX7_runs_12 : decode cX7_runs 12 = .ok (.iload_n 2, 1) := by decide +kernel
theorem dX7_runs_13 : decode cX7_runs 13 = .ok (.i2l, 1) := by decide +kernel
theorem dX7_runs_14 : decode cX7_runs 14 = .ok (.lconst 0, 1) := by decide +kernel
theorem dX7_runs_15 : decode cX7_runs 15 = .ok (.ldc2_w 220, 3) := by decide +kernel
theorem dX7_runs_18 : decode cX7_runs 18 = .ok (.invokestatic 55, 3) := by decide +kernel
theorem dX7_runs_21 : decode cX7_runs 21 = .ok (.ifCond .ne 5, 3) := by decide +kernel
theorem dX7_runs_24 : decode cX7_runs 24 = .ok (.iconst (-1), 1) := by decide +kernel
theorem dX7_runs_25 : decode cX7_runs 25 = .ok (.ireturn, 1) := by decide +kernel
theorem dX7_runs_26 : decode cX7_runs 26 = .ok (.aload_n 0, 1) := by decide +kernel
theorem dX7_runs_27 : decode cX7_runs 27 = .ok (.iconst 0, 1) := by decide +kernel
theorem dX7_runs_28 : decode cX7_runs 28 = .ok (.iload_n 1, 1) := by decide +kernel
theorem dX7_runs_29 : decode cX7_runs 29 = .ok (.invokevirtual 222, 3) := by decide +kernel
theorem dX7_runs_32 : decode cX7_runs 32 = .ok (.istore_n 3, 1) := by decide +kernel
theorem dX7_runs_33 : decode cX7_runs 33 = .ok (.iload_n 2, 1) := by decide +kernel
theorem dX7_runs_34 : decode cX7_runs 34 = .ok (.ifCond .ne 13, 3) := by decide +kernel
theorem dX7_runs_37 : decode cX7_runs 37 = .ok (.aload_n 0, 1) := by decide +kernel
theorem dX7_runs_38 : decode cX7_runs 38 = .ok (.sipush 220, 3) := by decide +kernel
theorem dX7_runs_41 : decode cX7_runs 41 = .ok (.invokevirtual 173, 3) := by decide +kernel
theorem dX7_runs_44 : decode cX7_runs 44 = .ok (.goto 28, 3) := by decide +kernel
theorem dX7_runs_47 : decode cX7_runs 47 = .ok (.iload_n 2, 1) := by decide +kernel
theorem dX7_runs_48 : decode cX7_runs 48 = .ok (.iconst 1, 1) := by decide +kernel
theorem dX7_runs_49 : decode cX7_runs 49 = .ok (.if_icmp .ne 7, 3) := by decide +kernel
theorem dX7_runs_52 : decode cX7_runs 52 = .ok (.iload_n 3, 1) := by decide +kernel
theorem dX7_runs_53 : decode cX7_runs 53 = .ok (.goto 19, 3) := by decide +kernel
theorem dX7_runs_56 : decode cX7_runs 56 = .ok (.iload_n 2, 1) := by decide +kernel
theorem dX7_runs_57 : decode cX7_runs 57 = .ok (.iconst 2, 1) := by decide +kernel
theorem dX7_runs_58 : decode cX7_runs 58 = .ok (.if_icmp .ne 10, 3) := by decide +kernel
theorem dX7_runs_61 : decode cX7_runs 61 = .ok (.aload_n 0, 1) := by decide +kernel
theorem dX7_runs_62 : decode cX7_runs 62 = .ok (.getfield 160, 3) := by decide +kernel
theorem dX7_runs_65 : decode cX7_runs 65 = .ok (.goto 7, 3) := by decide +kernel
theorem dX7_runs_68 : decode cX7_runs 68 = .ok (.aload_n 0, 1) := by decide +kernel
theorem dX7_runs_69 : decode cX7_runs 69 = .ok (.getfield 215, 3) := by decide +kernel
theorem dX7_runs_72 : decode cX7_runs 72 = .ok (.ireturn, 1) := by decide +kernel
theorem dX7_ahead_0 : decode cX7_ahead 0 = .ok (.aload_n 0, 1) := by decide +kernel
theorem dX7_ahead_1 : decode cX7_ahead 1 = .ok (.iload_n 1, 1) := by decide +kernel
theorem dX7_ahead_2 : decode cX7_ahead 2 = .ok (.invokevirtual 182, 3) := by decide +kernel
theorem dX7_ahead_5 : decode cX7_ahead 5 = .ok (.ifCond .eq 27, 3) := by decide +kernel
theorem dX7_ahead_8 : decode cX7_ahead 8 = .ok (.iload_n 2, 1) := by decide +kernel
theorem dX7_ahead_9 : decode cX7_ahead 9 = .ok (.i2l, 1) := by decide +kernel
theorem dX7_ahead_10 : decode cX7_ahead 10 = .ok (.lconst 0, 1) := by decide +kernel
theorem dX7_ahead_11 : decode cX7_ahead 11 = .ok (.ldc2_w 218, 3) := by decide +kernel
theorem dX7_ahead_14 : decode cX7_ahead 14 = .ok (.invokestatic 55, 3) := by decide +kernel
theorem dX7_ahead_17 : decode cX7_ahead 17 = .ok (.ifCond .eq 15, 3) := by decide +kernel
theorem dX7_ahead_20 : decode cX7_ahead 20 = .ok (.iload_n 3, 1) := by decide +kernel
theorem dX7_ahead_21 : decode cX7_ahead 21 = .ok (.i2l, 1) := by decide +kernel
theorem dX7_ahead_22 : decode cX7_ahead 22 = .ok (.lconst 0, 1) := by decide +kernel
theorem dX7_ahead_23 : decode cX7_ahead 23 = .ok (.ldc2_w 225, 3) := by decide +kernel
theorem dX7_ahead_26 : decode cX7_ahead 26 = .ok (.invokestatic 55, 3) := by decide +kernel
theorem dX7_ahead_29 : decode cX7_ahead 29 = .ok (.ifCond .ne 5, 3) := by decide +kernel
theorem dX7_ahead_32 : decode cX7_ahead 32 = .ok (.iconst (-1), 1) := by decide +kernel
theorem dX7_ahead_33 : decode cX7_ahead 33 = .ok (.ireturn, 1) := by decide +kernel
theorem dX7_ahead_34 : decode cX7_ahead 34 = .ok (.aload_n 0, 1) := by decide +kernel
theorem dX7_ahead_35 : decode cX7_ahead 35 = .ok (.iconst 0, 1) := by decide +kernel
theorem dX7_ahead_36 : decode cX7_ahead 36 = .ok (.iload_n 2, 1) := by decide +kernel
theorem dX7_ahead_37 : decode cX7_ahead 37 = .ok (.invokevirtual 222, 3) := by decide +kernel
theorem dX7_ahead_40 : decode cX7_ahead 40 = .ok (.pop, 1) := by decide +kernel
theorem dX7_ahead_41 : decode cX7_ahead 41 = .ok (.iload_n 3, 1) := by decide +kernel
theorem dX7_ahead_42 : decode cX7_ahead 42 = .ok (.ifCond .ne 14, 3) := by decide +kernel
theorem dX7_ahead_45 : decode cX7_ahead 45 = .ok (.aload_n 0, 1) := by decide +kernel
theorem dX7_ahead_46 : decode cX7_ahead 46 = .ok (.sipush 220, 3) := by decide +kernel
theorem dX7_ahead_49 : decode cX7_ahead 49 = .ok (.iload_n 1, 1) := by decide +kernel
theorem dX7_ahead_50 : decode cX7_ahead 50 = .ok (.invokevirtual 185, 3) := by decide +kernel
theorem dX7_ahead_53 : decode cX7_ahead 53 = .ok (.goto 29, 3) := by decide +kernel
theorem dX7_ahead_56 : decode cX7_ahead 56 = .ok (.iload_n 3, 1) := by decide +kernel
theorem dX7_ahead_57 : decode cX7_ahead 57 = .ok (.iconst 1, 1) := by decide +kernel
theorem dX7_ahead_58 : decode cX7_ahead 58 = .ok (.if_icmp .ne 16, 3) := by decide +kernel
theorem dX7_ahead_61 : decode cX7_ahead 61 = .ok (.aload_n 0, 1) := by decide +kernel
theorem dX7_ahead_62 : decode cX7_ahead 62 = .ok (.getfield 7, 3) := by decide +kernel
theorem dX7_ahead_65 : decode cX7_ahead 65 = .ok (.sipush 245, 3) := by decide +kernel
theorem dX7_ahead_68 : decode cX7_ahead 68 = .ok (.iload_n 1, 1) := by decide +kernel
theorem dX7_ahead_69 : decode cX7_ahead 69 = .ok (.iadd, 1) := by decide +kernel
theorem dX7_ahead_70 : decode cX7_ahead 70 = .ok (.iaload, 1) := by decide +kernel
theorem dX7_ahead_71 : decode cX7_ahead 71 = .ok (.goto 11, 3) := by decide +kernel
theorem dX7_ahead_74 : decode cX7_ahead 74 = .ok (.aload_n 0, 1) := by decide +kernel
theorem dX7_ahead_75 : decode cX7_ahead 75 = .ok (.sipush 220, 3) := by decide +kernel
theorem dX7_ahead_78 : decode cX7_ahead 78 = .ok (.iload_n 1, 1) := by decide +kernel
theorem dX7_ahead_79 : decode cX7_ahead 79 = .ok (.invokevirtual 151, 3) := by decide +kernel
theorem dX7_ahead_82 : decode cX7_ahead 82 = .ok (.ireturn, 1) := by decide +kernel
theorem dX7_lasts_0 : decode cX7_lasts 0 = .ok (.aload_n 0, 1) := by decide +kernel
theorem dX7_lasts_1 : decode cX7_lasts 1 = .ok (.iload_n 1, 1) := by decide +kernel
theorem dX7_lasts_2 : decode cX7_lasts 2 = .ok (.invokevirtual 182, 3) := by decide +kernel
theorem dX7_lasts_5 : decode cX7_lasts 5 = .ok (.ifCond .ne 5, 3) := by decide +kernel
theorem dX7_lasts_8 : decode cX7_lasts 8 = .ok (.iconst (-1), 1) := by decide +kernel
theorem dX7_lasts_9 : decode cX7_lasts 9 = .ok (.ireturn, 1) := by decide +kernel
theorem dX7_lasts_10 : decode cX7_lasts 10 = .ok (.aload_n 0, 1) := by decide +kernel
theorem dX7_lasts_11 : decode cX7_lasts 11 = .ok (.iconst 0, 1) := by decide +kernel
theorem dX7_lasts_12 : decode cX7_lasts 12 = .ok (.sipush 220, 3) := by decide +kernel
theorem dX7_lasts_15 : decode cX7_lasts 15 = .ok (.invokevirtual 212, 3) := by decide +kernel
theorem dX7_lasts_18 : decode cX7_lasts 18 = .ok (.iconst 0, 1) := by decide +kernel
theorem dX7_lasts_19 : decode cX7_lasts 19 = .ok (.istore_n 2, 1) := by decide +kernel
theorem dX7_lasts_20 : decode cX7_lasts 20 = .ok (.iload_n 2, 1) := by decide +kernel
theorem dX7_lasts_21 : decode cX7_lasts 21 = .ok (.bipush 60, 2) := by decide +kernel
theorem dX7_lasts_23 : decode cX7_lasts 23 = .ok (.if_icmp .gt 30, 3) := by decide +kernel
theorem dX7_lasts_26 : decode cX7_lasts 26 = .ok (.aload_n 0, 1) := by decide +kernel
theorem dX7_lasts_27 : decode cX7_lasts 27 = .ok (.sipush 220, 3) := by decide +kernel
theorem dX7_lasts_30 : decode cX7_lasts 30 = .ok (.iload_n 1, 1) := by decide +kernel
theorem dX7_lasts_31 : decode cX7_lasts 31 = .ok (.invokevirtual 151, 3) := by decide +kernel
theorem dX7_lasts_34 : decode cX7_lasts 34 = .ok (.ifCond .ne 5, 3) := by decide +kernel
theorem dX7_lasts_37 : decode cX7_lasts 37 = .ok (.iload_n 2, 1) := by decide +kernel
theorem dX7_lasts_38 : decode cX7_lasts 38 = .ok (.ireturn, 1) := by decide +kernel
theorem dX7_lasts_39 : decode cX7_lasts 39 = .ok (.aload_n 0, 1) := by decide +kernel
theorem dX7_lasts_40 : decode cX7_lasts 40 = .ok (.sipush 220, 3) := by decide +kernel
theorem dX7_lasts_43 : decode cX7_lasts 43 = .ok (.iconst 1, 1) := by decide +kernel
theorem dX7_lasts_44 : decode cX7_lasts 44 = .ok (.invokevirtual 208, 3) := by decide +kernel
theorem dX7_lasts_47 : decode cX7_lasts 47 = .ok (.iinc 2 1, 3) := by decide +kernel
theorem dX7_lasts_50 : decode cX7_lasts 50 = .ok (.goto (-30), 3) := by decide +kernel
theorem dX7_lasts_53 : decode cX7_lasts 53 = .ok (.bipush (-4), 2) := by decide +kernel
theorem dX7_lasts_55 : decode cX7_lasts 55 = .ok (.ireturn, 1) := by decide +kernel
theorem dX7_powerOf_0 : decode cX7_powerOf 0 = .ok (.iconst 1, 1) := by decide +kernel
theorem dX7_powerOf_1 : decode cX7_powerOf 1 = .ok (.istore_n 2, 1) := by decide +kernel
theorem dX7_powerOf_2 : decode cX7_powerOf 2 = .ok (.iconst 0, 1) := by decide +kernel
theorem dX7_powerOf_3 : decode cX7_powerOf 3 = .ok (.istore_n 3, 1) := by decide +kernel
theorem dX7_powerOf_4 : decode cX7_powerOf 4 = .ok (.iload_n 3, 1) := by decide +kernel
theorem dX7_powerOf_5 : decode cX7_powerOf 5 = .ok (.iload_n 1, 1) := by decide +kernel
theorem dX7_powerOf_6 : decode cX7_powerOf 6 = .ok (.if_icmp .ge 13, 3) := by decide +kernel
theorem dX7_powerOf_9 : decode cX7_powerOf 9 = .ok (.iload_n 2, 1) := by decide +kernel
theorem dX7_powerOf_10 : decode cX7_powerOf 10 = .ok (.iload_n 0, 1) := by decide +kernel
theorem dX7_powerOf_11 : decode cX7_powerOf 11 = .ok (.imul, 1) := by decide +kernel
theorem dX7_powerOf_12 : decode cX7_powerOf 12 = .ok (.istore_n 2, 1) := by decide +kernel
theorem dX7_powerOf_13 : decode cX7_powerOf 13 = .ok (.iinc 3 1, 3) := by decide +kernel
theorem dX7_powerOf_16 : decode cX7_powerOf 16 = .ok (.goto (-12), 3) := by decide +kernel
theorem dX7_powerOf_19 : decode cX7_powerOf 19 = .ok (.iload_n 2, 1) := by decide +kernel
theorem dX7_powerOf_20 : decode cX7_powerOf 20 = .ok (.ireturn, 1) := by decide +kernel
theorem dX7_areDrops_0 : decode cX7_areDrops 0 = .ok (.iload_n 1, 1) := by decide +kernel
theorem dX7_areDrops_1 : decode cX7_areDrops 1 = .ok (.istore_n 3, 1) := by decide +kernel
theorem dX7_areDrops_2 : decode cX7_areDrops 2 = .ok (.iconst 0, 1) := by decide +kernel
theorem dX7_areDrops_3 : decode cX7_areDrops 3 = .ok (.istore 4, 2) := by decide +kernel
theorem dX7_areDrops_5 : decode cX7_areDrops 5 = .ok (.iconst 1, 1) := by decide +kernel
theorem dX7_areDrops_6 : decode cX7_areDrops 6 = .ok (.istore 5, 2) := by decide +kernel
theorem dX7_areDrops_8 : decode cX7_areDrops 8 = .ok (.aload_n 0, 1) := by decide +kernel
theorem dX7_areDrops_9 : decode cX7_areDrops 9 = .ok (.getfield 142, 3) := by decide +kernel
theorem dX7_areDrops_12 : decode cX7_areDrops 12 = .ok (.iconst 1, 1) := by decide +kernel
theorem dX7_areDrops_13 : decode cX7_areDrops 13 = .ok (.isub, 1) := by decide +kernel
theorem dX7_areDrops_14 : decode cX7_areDrops 14 = .ok (.istore 6, 2) := by decide +kernel
theorem dX7_areDrops_16 : decode cX7_areDrops 16 = .ok (.iload 6, 2) := by decide +kernel
theorem dX7_areDrops_18 : decode cX7_areDrops 18 = .ok (.ifCond .lt 69, 3) := by decide +kernel
theorem dX7_areDrops_21 : decode cX7_areDrops 21 = .ok (.aload_n 0, 1) := by decide +kernel
theorem dX7_areDrops_22 : decode cX7_areDrops 22 = .ok (.getfield 28, 3) := by decide +kernel
theorem dX7_areDrops_25 : decode cX7_areDrops 25 = .ok (.iload 6, 2) := by decide +kernel
theorem dX7_areDrops_27 : decode cX7_areDrops 27 = .ok (.iload_n 3, 1) := by decide +kernel
theorem dX7_areDrops_28 : decode cX7_areDrops 28 = .ok (.bipush 7, 2) := by decide +kernel
theorem dX7_areDrops_30 : decode cX7_areDrops 30 = .ok (.irem, 1) := by decide +kernel
theorem dX7_areDrops_31 : decode cX7_areDrops 31 = .ok (.iastore, 1) := by decide +kernel
theorem dX7_areDrops_32 : decode cX7_areDrops 32 = .ok (.iload_n 3, 1) := by decide +kernel
theorem dX7_areDrops_33 : decode cX7_areDrops 33 = .ok (.bipush 7, 2) := by decide +kernel
theorem dX7_areDrops_35 : decode cX7_areDrops 35 = .ok (.idiv, 1) := by decide +kernel
theorem dX7_areDrops_36 : decode cX7_areDrops 36 = .ok (.istore_n 3, 1) := by decide +kernel
theorem dX7_areDrops_37 : decode cX7_areDrops 37 = .ok (.iload 4, 2) := by decide +kernel
theorem dX7_areDrops_39 : decode cX7_areDrops 39 = .ok (.aload_n 0, 1) := by decide +kernel
theorem dX7_areDrops_40 : decode cX7_areDrops 40 = .ok (.getfield 28, 3) := by decide +kernel
theorem dX7_areDrops_43 : decode cX7_areDrops 43 = .ok (.iload 6, 2) := by decide +kernel
theorem dX7_areDrops_45 : decode cX7_areDrops 45 = .ok (.iaload, 1) := by decide +kernel
theorem dX7_areDrops_46 : decode cX7_areDrops 46 = .ok (.iadd, 1) := by decide +kernel
theorem dX7_areDrops_47 : decode cX7_areDrops 47 = .ok (.istore 4, 2) := by decide +kernel
theorem dX7_areDrops_49 : decode cX7_areDrops 49 = .ok (.iload 5, 2) := by decide +kernel
theorem dX7_areDrops_51 : decode cX7_areDrops 51 = .ok (.ifCond .eq 27, 3) := by decide +kernel
theorem dX7_areDrops_54 : decode cX7_areDrops 54 = .ok (.aload_n 0, 1) := by decide +kernel
theorem dX7_areDrops_55 : decode cX7_areDrops 55 = .ok (.getfield 28, 3) := by decide +kernel
theorem dX7_areDrops_58 : decode cX7_areDrops 58 = .ok (.iload 6, 2) := by decide +kernel
theorem dX7_areDrops_60 : decode cX7_areDrops 60 = .ok (.iaload, 1) := by decide +kernel
theorem dX7_areDrops_61 : decode cX7_areDrops 61 = .ok (.aload_n 0, 1) := by decide +kernel
theorem dX7_areDrops_62 : decode cX7_areDrops 62 = .ok (.getfield 7, 3) := by decide +kernel
theorem dX7_areDrops_65 : decode cX7_areDrops 65 = .ok (.bipush 20, 2) := by decide +kernel
theorem dX7_areDrops_67 : decode cX7_areDrops 67 = .ok (.iload 6, 2) := by decide +kernel
theorem dX7_areDrops_69 : decode cX7_areDrops 69 = .ok (.iadd, 1) := by decide +kernel
theorem dX7_areDrops_70 : decode cX7_areDrops 70 = .ok (.iaload, 1) := by decide +kernel
theorem dX7_areDrops_71 : decode cX7_areDrops 71 = .ok (.if_icmp .gt 7, 3) := by decide +kernel
theorem dX7_areDrops_74 : decode cX7_areDrops 74 = .ok (.iconst 1, 1) := by decide +kernel
theorem dX7_areDrops_75 : decode cX7_areDrops 75 = .ok (.goto 4, 3) := by decide +kernel
theorem dX7_areDrops_78 : decode cX7_areDrops 78 = .ok (.iconst 0, 1) := by decide +kernel
theorem dX7_areDrops_79 : decode cX7_areDrops 79 = .ok (.istore 5, 2) := by decide +kernel
theorem dX7_areDrops_81 : decode cX7_areDrops 81 = .ok (.iinc 6 (-1), 3) := by decide +kernel
theorem dX7_areDrops_84 : decode cX7_areDrops 84 = .ok (.goto (-68), 3) := by decide +kernel
theorem dX7_areDrops_87 : decode cX7_areDrops 87 = .ok (.iload 5, 2) := by decide +kernel
theorem dX7_areDrops_89 : decode cX7_areDrops 89 = .ok (.ifCond .eq 13, 3) := by decide +kernel
theorem dX7_areDrops_92 : decode cX7_areDrops 92 = .ok (.iload 4, 2) := by decide +kernel
theorem dX7_areDrops_94 : decode cX7_areDrops 94 = .ok (.iload_n 2, 1) := by decide +kernel
theorem dX7_areDrops_95 : decode cX7_areDrops 95 = .ok (.if_icmp .ne 7, 3) := by decide +kernel
theorem dX7_areDrops_98 : decode cX7_areDrops 98 = .ok (.iconst 1, 1) := by decide +kernel
theorem dX7_areDrops_99 : decode cX7_areDrops 99 = .ok (.goto 4, 3) := by decide +kernel
theorem dX7_areDrops_102 : decode cX7_areDrops 102 = .ok (.iconst 0, 1) := by decide +kernel
theorem dX7_areDrops_103 : decode cX7_areDrops 103 = .ok (.ireturn, 1) := by decide +kernel
theorem dX7_hueOfDrops_0 : decode cX7_hueOfDrops 0 = .ok (.iconst 0, 1) := by decide +kernel
theorem dX7_hueOfDrops_1 : decode cX7_hueOfDrops 1 = .ok (.istore_n 2, 1) := by decide +kernel
theorem dX7_hueOfDrops_2 : decode cX7_hueOfDrops 2 = .ok (.iconst 0, 1) := by decide +kernel
theorem dX7_hueOfDrops_3 : decode cX7_hueOfDrops 3 = .ok (.istore_n 3, 1) := by decide +kernel
theorem dX7_hueOfDrops_4 : decode cX7_hueOfDrops 4 = .ok (.iload_n 3, 1) := by decide +kernel
theorem dX7_hueOfDrops_5 : decode cX7_hueOfDrops 5 = .ok (.bipush 15, 2) := by decide +kernel
theorem dX7_hueOfDrops_7 : decode cX7_hueOfDrops 7 = .ok (.if_icmp .ge 64, 3) := by decide +kernel
theorem dX7_hueOfDrops_10 : decode cX7_hueOfDrops 10 = .ok (.iconst 0, 1) := by decide +kernel
theorem dX7_hueOfDrops_11 : decode cX7_hueOfDrops 11 = .ok (.istore 4, 2) := by decide +kernel
theorem dX7_hueOfDrops_13 : decode cX7_hueOfDrops 13 = .ok (.iconst 0, 1) := by decide +kernel
theorem dX7_hueOfDrops_14 : decode cX7_hueOfDrops 14 = .ok (.istore 5, 2) := by decide +kernel
theorem dX7_hueOfDrops_16 : decode cX7_hueOfDrops 16 = .ok (.iload 5, 2) := by decide +kernel
theorem dX7_hueOfDrops_18 : decode cX7_hueOfDrops 18 = .ok (.aload_n 0, 1) := by decide +kernel
theorem dX7_hueOfDrops_19 : decode cX7_hueOfDrops 19 = .ok (.getfield 142, 3) := by decide +kernel
theorem dX7_hueOfDrops_22 : decode cX7_hueOfDrops 22 = .ok (.if_icmp .ge 33, 3) := by decide +kernel
theorem dX7_hueOfDrops_25 : decode cX7_hueOfDrops 25 = .ok (.iload 4, 2) := by decide +kernel
theorem dX7_hueOfDrops_27 : decode cX7_hueOfDrops 27 = .ok (.aload_n 0, 1) := by decide +kernel
theorem dX7_hueOfDrops_28 : decode cX7_hueOfDrops 28 = .ok (.getfield 28, 3) := by decide +kernel
theorem dX7_hueOfDrops_31 : decode cX7_hueOfDrops 31 = .ok (.iload 5, 2) := by decide +kernel
theorem dX7_hueOfDrops_33 : decode cX7_hueOfDrops 33 = .ok (.iaload, 1) := by decide +kernel
theorem dX7_hueOfDrops_34 : decode cX7_hueOfDrops 34 = .ok (.aload_n 0, 1) := by decide +kernel
theorem dX7_hueOfDrops_35 : decode cX7_hueOfDrops 35 = .ok (.getfield 7, 3) := by decide +kernel
theorem dX7_hueOfDrops_38 : decode cX7_hueOfDrops 38 = .ok (.iconst 5, 1) := by decide +kernel
theorem dX7_hueOfDrops_39 : decode cX7_hueOfDrops 39 = .ok (.iload_n 3, 1) := by decide +kernel
theorem dX7_hueOfDrops_40 : decode cX7_hueOfDrops 40 = .ok (.iadd, 1) := by decide +kernel
theorem dX7_hueOfDrops_41 : decode cX7_hueOfDrops 41 = .ok (.iload 5, 2) := by decide +kernel
theorem dX7_hueOfDrops_43 : decode cX7_hueOfDrops 43 = .ok (.iadd, 1) := by decide +kernel
theorem dX7_hueOfDrops_44 : decode cX7_hueOfDrops 44 = .ok (.iaload, 1) := by decide +kernel
theorem dX7_hueOfDrops_45 : decode cX7_hueOfDrops 45 = .ok (.imul, 1) := by decide +kernel
theorem dX7_hueOfDrops_46 : decode cX7_hueOfDrops 46 = .ok (.iadd, 1) := by decide +kernel
theorem dX7_hueOfDrops_47 : decode cX7_hueOfDrops 47 = .ok (.istore 4, 2) := by decide +kernel
theorem dX7_hueOfDrops_49 : decode cX7_hueOfDrops 49 = .ok (.iinc 5 1, 3) := by decide +kernel
theorem dX7_hueOfDrops_52 : decode cX7_hueOfDrops 52 = .ok (.goto (-36), 3) := by decide +kernel
theorem dX7_hueOfDrops_55 : decode cX7_hueOfDrops 55 = .ok (.bipush 10, 2) := by decide +kernel
theorem dX7_hueOfDrops_57 : decode cX7_hueOfDrops 57 = .ok (.iload_n 2, 1) := by decide +kernel
theorem dX7_hueOfDrops_58 : decode cX7_hueOfDrops 58 = .ok (.imul, 1) := by decide +kernel
theorem dX7_hueOfDrops_59 : decode cX7_hueOfDrops 59 = .ok (.iload 4, 2) := by decide +kernel
theorem dX7_hueOfDrops_61 : decode cX7_hueOfDrops 61 = .ok (.iload_n 1, 1) := by decide +kernel
theorem dX7_hueOfDrops_62 : decode cX7_hueOfDrops 62 = .ok (.idiv, 1) := by decide +kernel
theorem dX7_hueOfDrops_63 : decode cX7_hueOfDrops 63 = .ok (.iadd, 1) := by decide +kernel
theorem dX7_hueOfDrops_64 : decode cX7_hueOfDrops 64 = .ok (.istore_n 2, 1) := by decide +kernel
theorem dX7_hueOfDrops_65 : decode cX7_hueOfDrops 65 = .ok (.iinc 3 5, 3) := by decide +kernel
theorem dX7_hueOfDrops_68 : decode cX7_hueOfDrops 68 = .ok (.goto (-64), 3) := by decide +kernel
theorem dX7_hueOfDrops_71 : decode cX7_hueOfDrops 71 = .ok (.iload_n 2, 1) := by decide +kernel
theorem dX7_hueOfDrops_72 : decode cX7_hueOfDrops 72 = .ok (.ireturn, 1) := by decide +kernel
theorem dX7_mix_0 : decode cX7_mix 0 = .ok (.iload_n 1, 1) := by decide +kernel
theorem dX7_mix_1 : decode cX7_mix 1 = .ok (.i2l, 1) := by decide +kernel
theorem dX7_mix_2 : decode cX7_mix 2 = .ok (.lconst 0, 1) := by decide +kernel
theorem dX7_mix_3 : decode cX7_mix 3 = .ok (.ldc2_w 188, 3) := by decide +kernel
theorem dX7_mix_6 : decode cX7_mix 6 = .ok (.invokestatic 55, 3) := by decide +kernel
theorem dX7_mix_9 : decode cX7_mix 9 = .ok (.ifCond .eq 29, 3) := by decide +kernel
theorem dX7_mix_12 : decode cX7_mix 12 = .ok (.iload_n 2, 1) := by decide +kernel
theorem dX7_mix_13 : decode cX7_mix 13 = .ok (.i2l, 1) := by decide +kernel
theorem dX7_mix_14 : decode cX7_mix 14 = .ok (.lconst 1, 1) := by decide +kernel
theorem dX7_mix_15 : decode cX7_mix 15 = .ok (.ldc2_w 180, 3) := by decide +kernel
theorem dX7_mix_18 : decode cX7_mix 18 = .ok (.invokestatic 55, 3) := by decide +kernel
theorem dX7_mix_21 : decode cX7_mix 21 = .ok (.ifCond .eq 17, 3) := by decide +kernel
theorem dX7_mix_24 : decode cX7_mix 24 = .ok (.iload_n 3, 1) := by decide +kernel
theorem dX7_mix_25 : decode cX7_mix 25 = .ok (.i2l, 1) := by decide +kernel
theorem dX7_mix_26 : decode cX7_mix 26 = .ok (.lconst 0, 1) := by decide +kernel
theorem dX7_mix_27 : decode cX7_mix 27 = .ok (.aload_n 0, 1) := by decide +kernel
theorem dX7_mix_28 : decode cX7_mix 28 = .ok (.getfield 142, 3) := by decide +kernel
theorem dX7_mix_31 : decode cX7_mix 31 = .ok (.i2l, 1) := by decide +kernel
theorem dX7_mix_32 : decode cX7_mix 32 = .ok (.invokestatic 55, 3) := by decide +kernel
theorem dX7_mix_35 : decode cX7_mix 35 = .ok (.ifCond .ne 5, 3) := by decide +kernel
theorem dX7_mix_38 : decode cX7_mix 38 = .ok (.iconst (-1), 1) := by decide +kernel
theorem dX7_mix_39 : decode cX7_mix 39 = .ok (.ireturn, 1) := by decide +kernel
theorem dX7_mix_40 : decode cX7_mix 40 = .ok (.bipush 100, 2) := by decide +kernel
theorem dX7_mix_42 : decode cX7_mix 42 = .ok (.istore 4, 2) := by decide +kernel
theorem dX7_mix_44 : decode cX7_mix 44 = .ok (.iconst 0, 1) := by decide +kernel
theorem dX7_mix_45 : decode cX7_mix 45 = .ok (.istore 5, 2) := by decide +kernel
theorem dX7_mix_47 : decode cX7_mix 47 = .ok (.iload 5, 2) := by decide +kernel
theorem dX7_mix_49 : decode cX7_mix 49 = .ok (.bipush 7, 2) := by decide +kernel
theorem dX7_mix_51 : decode cX7_mix 51 = .ok (.aload_n 0, 1) := by decide +kernel
theorem dX7_mix_52 : decode cX7_mix 52 = .ok (.getfield 142, 3) := by decide +kernel
theorem dX7_mix_55 : decode cX7_mix 55 = .ok (.invokestatic 227, 3) := by decide +kernel
theorem dX7_mix_58 : decode cX7_mix 58 = .ok (.if_icmp .ge 76, 3) := by decide +kernel
theorem dX7_mix_61 : decode cX7_mix 61 = .ok (.aload_n 0, 1) := by decide +kernel
theorem dX7_mix_62 : decode cX7_mix 62 = .ok (.iload 5, 2) := by decide +kernel
theorem dX7_mix_64 : decode cX7_mix 64 = .ok (.iload_n 2, 1) := by decide +kernel
theorem dX7_mix_65 : decode cX7_mix 65 = .ok (.invokevirtual 230, 3) := by decide +kernel
theorem dX7_mix_68 : decode cX7_mix 68 = .ok (.ifCond .eq 60, 3) := by decide +kernel
theorem dX7_mix_71 : decode cX7_mix 71 = .ok (.aload_n 0, 1) := by decide +kernel
theorem dX7_mix_72 : decode cX7_mix 72 = .ok (.iload_n 2, 1) := by decide +kernel
theorem dX7_mix_73 : decode cX7_mix 73 = .ok (.invokevirtual 234, 3) := by decide +kernel
theorem dX7_mix_76 : decode cX7_mix 76 = .ok (.iload_n 1, 1) := by decide +kernel
theorem dX7_mix_77 : decode cX7_mix 77 = .ok (.invokestatic 190, 3) := by decide +kernel
theorem dX7_mix_80 : decode cX7_mix 80 = .ok (.iload 4, 2) := by decide +kernel
theorem dX7_mix_82 : decode cX7_mix 82 = .ok (.if_icmp .ge 46, 3) := by decide +kernel
theorem dX7_mix_85 : decode cX7_mix 85 = .ok (.aload_n 0, 1) := by decide +kernel
theorem dX7_mix_86 : decode cX7_mix 86 = .ok (.iload_n 2, 1) := by decide +kernel
theorem dX7_mix_87 : decode cX7_mix 87 = .ok (.invokevirtual 234, 3) := by decide +kernel
theorem dX7_mix_90 : decode cX7_mix 90 = .ok (.iload_n 1, 1) := by decide +kernel
theorem dX7_mix_91 : decode cX7_mix 91 = .ok (.invokestatic 190, 3) := by decide +kernel
theorem dX7_mix_94 : decode cX7_mix 94 = .ok (.istore 4, 2) := by decide +kernel
theorem dX7_mix_96 : decode cX7_mix 96 = .ok (.iconst 0, 1) := by decide +kernel
theorem dX7_mix_97 : decode cX7_mix 97 = .ok (.istore 6, 2) := by decide +kernel
theorem dX7_mix_99 : decode cX7_mix 99 = .ok (.iload 6, 2) := by decide +kernel
theorem dX7_mix_101 : decode cX7_mix 101 = .ok (.aload_n 0, 1) := by decide +kernel
theorem dX7_mix_102 : decode cX7_mix 102 = .ok (.getfield 142, 3) := by decide +kernel
theorem dX7_mix_105 : decode cX7_mix 105 = .ok (.if_icmp .ge 23, 3) := by decide +kernel
theorem dX7_mix_108 : decode cX7_mix 108 = .ok (.aload_n 0, 1) := by decide +kernel
theorem dX7_mix_109 : decode cX7_mix 109 = .ok (.getfield 31, 3) := by decide +kernel
theorem dX7_mix_112 : decode cX7_mix 112 = .ok (.iload 6, 2) := by decide +kernel
theorem dX7_mix_114 : decode cX7_mix 114 = .ok (.aload_n 0, 1) := by decide +kernel
theorem dX7_mix_115 : decode cX7_mix 115 = .ok (.getfield 28, 3) := by decide +kernel
theorem dX7_mix_118 : decode cX7_mix 118 = .ok (.iload 6, 2) := by decide +kernel
theorem dX7_mix_120 : decode cX7_mix 120 = .ok (.iaload, 1) := by decide +kernel
theorem dX7_mix_121 : decode cX7_mix 121 = .ok (.iastore, 1) := by decide +kernel
theorem dX7_mix_122 : decode cX7_mix 122 = .ok (.iinc 6 1, 3) := by decide +kernel
theorem dX7_mix_125 : decode cX7_mix 125 = .ok (.goto (-26), 3) := by decide +kernel
theorem dX7_mix_128 : decode cX7_mix 128 = .ok (.iinc 5 1, 3) := by decide +kernel
theorem dX7_mix_131 : decode cX7_mix 131 = .ok (.goto (-84), 3) := by decide +kernel
theorem dX7_mix_134 : decode cX7_mix 134 = .ok (.iload 4, 2) := by decide +kernel
theorem dX7_mix_136 : decode cX7_mix 136 = .ok (.bipush 100, 2) := by decide +kernel
theorem dX7_mix_138 : decode cX7_mix 138 = .ok (.if_icmp .ne 8, 3) := by decide +kernel
theorem dX7_mix_141 : decode cX7_mix 141 = .ok (.bipush (-4), 2) := by decide +kernel
theorem dX7_mix_143 : decode cX7_mix 143 = .ok (.goto 20, 3) := by decide +kernel
theorem dX7_mix_146 : decode cX7_mix 146 = .ok (.iload_n 3, 1) := by decide +kernel
theorem dX7_mix_147 : decode cX7_mix 147 = .ok (.ifCond .ne 8, 3) := by decide +kernel
theorem dX7_mix_150 : decode cX7_mix 150 = .ok (.iload 4, 2) := by decide +kernel
theorem dX7_mix_152 : decode cX7_mix 152 = .ok (.goto 11, 3) := by decide +kernel
theorem dX7_mix_155 : decode cX7_mix 155 = .ok (.aload_n 0, 1) := by decide +kernel
theorem dX7_mix_156 : decode cX7_mix 156 = .ok (.getfield 31, 3) := by decide +kernel
theorem dX7_mix_159 : decode cX7_mix 159 = .ok (.iload_n 3, 1) := by decide +kernel
theorem dX7_mix_160 : decode cX7_mix 160 = .ok (.iconst 1, 1) := by decide +kernel
theorem dX7_mix_161 : decode cX7_mix 161 = .ok (.isub, 1) := by decide +kernel
theorem dX7_mix_162 : decode cX7_mix 162 = .ok (.iaload, 1) := by decide +kernel
theorem dX7_mix_163 : decode cX7_mix 163 = .ok (.ireturn, 1) := by decide +kernel
theorem dX7_cheap_0 : decode cX7_cheap 0 = .ok (.iload_n 1, 1) := by decide +kernel
theorem dX7_cheap_1 : decode cX7_cheap 1 = .ok (.i2l, 1) := by decide +kernel
theorem dX7_cheap_2 : decode cX7_cheap 2 = .ok (.lconst 0, 1) := by decide +kernel
theorem dX7_cheap_3 : decode cX7_cheap 3 = .ok (.ldc2_w 188, 3) := by decide +kernel
theorem dX7_cheap_6 : decode cX7_cheap 6 = .ok (.invokestatic 55, 3) := by decide +kernel
theorem dX7_cheap_9 : decode cX7_cheap 9 = .ok (.ifCond .eq 27, 3) := by decide +kernel
theorem dX7_cheap_12 : decode cX7_cheap 12 = .ok (.iload_n 2, 1) := by decide +kernel
theorem dX7_cheap_13 : decode cX7_cheap 13 = .ok (.i2l, 1) := by decide +kernel
theorem dX7_cheap_14 : decode cX7_cheap 14 = .ok (.lconst 0, 1) := by decide +kernel
theorem dX7_cheap_15 : decode cX7_cheap 15 = .ok (.ldc2_w 237, 3) := by decide +kernel
theorem dX7_cheap_18 : decode cX7_cheap 18 = .ok (.invokestatic 55, 3) := by decide +kernel
theorem dX7_cheap_21 : decode cX7_cheap 21 = .ok (.ifCond .eq 15, 3) := by decide +kernel
theorem dX7_cheap_24 : decode cX7_cheap 24 = .ok (.iload_n 3, 1) := by decide +kernel
theorem dX7_cheap_25 : decode cX7_cheap 25 = .ok (.i2l, 1) := by decide +kernel
theorem dX7_cheap_26 : decode cX7_cheap 26 = .ok (.lconst 1, 1) := by decide +kernel
theorem dX7_cheap_27 : decode cX7_cheap 27 = .ok (.ldc2_w 180, 3) := by decide +kernel
theorem dX7_cheap_30 : decode cX7_cheap 30 = .ok (.invokestatic 55, 3) := by decide +kernel
theorem dX7_cheap_33 : decode cX7_cheap 33 = .ok (.ifCond .ne 5, 3) := by decide +kernel
theorem dX7_cheap_36 : decode cX7_cheap 36 = .ok (.iconst (-1), 1) := by decide +kernel
theorem dX7_cheap_37 : decode cX7_cheap 37 = .ok (.ireturn, 1) := by decide +kernel
theorem dX7_cheap_38 : decode cX7_cheap 38 = .ok (.sipush 1000, 3) := by decide +kernel
theorem dX7_cheap_41 : decode cX7_cheap 41 = .ok (.istore 4, 2) := by decide +kernel
theorem dX7_cheap_43 : decode cX7_cheap 43 = .ok (.iconst 0, 1) := by decide +kernel
theorem dX7_cheap_44 : decode cX7_cheap 44 = .ok (.istore 5, 2) := by decide +kernel
theorem dX7_cheap_46 : decode cX7_cheap 46 = .ok (.iload 5, 2) := by decide +kernel
theorem dX7_cheap_48 : decode cX7_cheap 48 = .ok (.bipush 7, 2) := by decide +kernel
theorem dX7_cheap_50 : decode cX7_cheap 50 = .ok (.aload_n 0, 1) := by decide +kernel
theorem dX7_cheap_51 : decode cX7_cheap 51 = .ok (.getfield 142, 3) := by decide +kernel
theorem dX7_cheap_54 : decode cX7_cheap 54 = .ok (.invokestatic 227, 3) := by decide +kernel
theorem dX7_cheap_57 : decode cX7_cheap 57 = .ok (.if_icmp .ge 89, 3) := by decide +kernel
theorem dX7_cheap_60 : decode cX7_cheap 60 = .ok (.aload_n 0, 1) := by decide +kernel
theorem dX7_cheap_61 : decode cX7_cheap 61 = .ok (.iload 5, 2) := by decide +kernel
theorem dX7_cheap_63 : decode cX7_cheap 63 = .ok (.iload_n 3, 1) := by decide +kernel
theorem dX7_cheap_64 : decode cX7_cheap 64 = .ok (.invokevirtual 230, 3) := by decide +kernel
theorem dX7_cheap_67 : decode cX7_cheap 67 = .ok (.ifCond .eq 73, 3) := by decide +kernel
theorem dX7_cheap_70 : decode cX7_cheap 70 = .ok (.aload_n 0, 1) := by decide +kernel
theorem dX7_cheap_71 : decode cX7_cheap 71 = .ok (.iload_n 3, 1) := by decide +kernel
theorem dX7_cheap_72 : decode cX7_cheap 72 = .ok (.invokevirtual 234, 3) := by decide +kernel
theorem dX7_cheap_75 : decode cX7_cheap 75 = .ok (.iload_n 1, 1) := by decide +kernel
theorem dX7_cheap_76 : decode cX7_cheap 76 = .ok (.invokestatic 190, 3) := by decide +kernel
theorem dX7_cheap_79 : decode cX7_cheap 79 = .ok (.iload_n 2, 1) := by decide +kernel
theorem dX7_cheap_80 : decode cX7_cheap 80 = .ok (.if_icmp .gt 60, 3) := by decide +kernel
theorem dX7_cheap_83 : decode cX7_cheap 83 = .ok (.iconst 0, 1) := by decide +kernel
theorem dX7_cheap_84 : decode cX7_cheap 84 = .ok (.istore 6, 2) := by decide +kernel
theorem dX7_cheap_86 : decode cX7_cheap 86 = .ok (.iconst 0, 1) := by decide +kernel
theorem dX7_cheap_87 : decode cX7_cheap 87 = .ok (.istore 7, 2) := by decide +kernel
theorem dX7_cheap_89 : decode cX7_cheap 89 = .ok (.iload 7, 2) := by decide +kernel
theorem dX7_cheap_91 : decode cX7_cheap 91 = .ok (.aload_n 0, 1) := by decide +kernel
theorem dX7_cheap_92 : decode cX7_cheap 92 = .ok (.getfield 142, 3) := by decide +kernel
theorem dX7_cheap_95 : decode cX7_cheap 95 = .ok (.if_icmp .ge 29, 3) := by decide +kernel
theorem dX7_cheap_98 : decode cX7_cheap 98 = .ok (.iload 6, 2) := by decide +kernel
theorem dX7_cheap_100 : decode cX7_cheap 100 = .ok (.aload_n 0, 1) := by decide +kernel
theorem dX7_cheap_101 : decode cX7_cheap 101 = .ok (.getfield 28, 3) := by decide +kernel
theorem dX7_cheap_104 : decode cX7_cheap 104 = .ok (.iload 7, 2) := by decide +kernel
theorem dX7_cheap_106 : decode cX7_cheap 106 = .ok (.iaload, 1) := by decide +kernel
theorem dX7_cheap_107 : decode cX7_cheap 107 = .ok (.aload_n 0, 1) := by decide +kernel
theorem dX7_cheap_108 : decode cX7_cheap 108 = .ok (.iconst 0, 1) := by decide +kernel
theorem dX7_cheap_109 : decode cX7_cheap 109 = .ok (.iload 7, 2) := by decide +kernel
theorem dX7_cheap_111 : decode cX7_cheap 111 = .ok (.invokevirtual 157, 3) := by decide +kernel
theorem dX7_cheap_114 : decode cX7_cheap 114 = .ok (.imul, 1) := by decide +kernel
theorem dX7_cheap_115 : decode cX7_cheap 115 = .ok (.iadd, 1) := by decide +kernel
theorem dX7_cheap_116 : decode cX7_cheap 116 = .ok (.istore 6, 2) := by decide +kernel
theorem dX7_cheap_118 : decode cX7_cheap 118 = .ok (.iinc 7 1, 3) := by decide +kernel
theorem dX7_cheap_121 : decode cX7_cheap 121 = .ok (.goto (-32), 3) := by decide +kernel
theorem dX7_cheap_124 : decode cX7_cheap 124 = .ok (.iload 6, 2) := by decide +kernel
theorem dX7_cheap_126 : decode cX7_cheap 126 = .ok (.iload 4, 2) := by decide +kernel
theorem dX7_cheap_128 : decode cX7_cheap 128 = .ok (.if_icmp .ge 8, 3) := by decide +kernel
theorem dX7_cheap_131 : decode cX7_cheap 131 = .ok (.iload 6, 2) := by decide +kernel
theorem dX7_cheap_133 : decode cX7_cheap 133 = .ok (.goto 5, 3) := by decide +kernel
theorem dX7_cheap_136 : decode cX7_cheap 136 = .ok (.iload 4, 2) := by decide +kernel
theorem dX7_cheap_138 : decode cX7_cheap 138 = .ok (.istore 4, 2) := by decide +kernel
theorem dX7_cheap_140 : decode cX7_cheap 140 = .ok (.iinc 5 1, 3) := by decide +kernel
theorem dX7_cheap_143 : decode cX7_cheap 143 = .ok (.goto (-97), 3) := by decide +kernel
theorem dX7_cheap_146 : decode cX7_cheap 146 = .ok (.iload 4, 2) := by decide +kernel
theorem dX7_cheap_148 : decode cX7_cheap 148 = .ok (.sipush 1000, 3) := by decide +kernel
theorem dX7_cheap_151 : decode cX7_cheap 151 = .ok (.if_icmp .ne 8, 3) := by decide +kernel
theorem dX7_cheap_154 : decode cX7_cheap 154 = .ok (.bipush (-4), 2) := by decide +kernel
theorem dX7_cheap_156 : decode cX7_cheap 156 = .ok (.goto 5, 3) := by decide +kernel
theorem dX7_cheap_159 : decode cX7_cheap 159 = .ok (.iload 4, 2) := by decide +kernel
theorem dX7_cheap_161 : decode cX7_cheap 161 = .ok (.ireturn, 1) := by decide +kernel
theorem dX7_more_0 : decode cX7_more 0 = .ok (.aload_n 0, 1) := by decide +kernel
theorem dX7_more_1 : decode cX7_more 1 = .ok (.iload_n 1, 1) := by decide +kernel
theorem dX7_more_2 : decode cX7_more 2 = .ok (.invokevirtual 182, 3) := by decide +kernel
theorem dX7_more_5 : decode cX7_more 5 = .ok (.ifCond .eq 11, 3) := by decide +kernel
theorem dX7_more_8 : decode cX7_more 8 = .ok (.aload_n 0, 1) := by decide +kernel
theorem dX7_more_9 : decode cX7_more 9 = .ok (.iload_n 2, 1) := by decide +kernel
theorem dX7_more_10 : decode cX7_more 10 = .ok (.invokevirtual 176, 3) := by decide +kernel
theorem dX7_more_13 : decode cX7_more 13 = .ok (.ifCond .ne 5, 3) := by decide +kernel
theorem dX7_more_16 : decode cX7_more 16 = .ok (.iconst (-1), 1) := by decide +kernel
theorem dX7_more_17 : decode cX7_more 17 = .ok (.ireturn, 1) := by decide +kernel
theorem dX7_more_18 : decode cX7_more 18 = .ok (.aload_n 0, 1) := by decide +kernel
theorem dX7_more_19 : decode cX7_more 19 = .ok (.iconst 0, 1) := by decide +kernel
theorem dX7_more_20 : decode cX7_more 20 = .ok (.bipush 10, 2) := by decide +kernel
theorem dX7_more_22 : decode cX7_more 22 = .ok (.invokevirtual 222, 3) := by decide +kernel
theorem dX7_more_25 : decode cX7_more 25 = .ok (.istore_n 3, 1) := by decide +kernel
theorem dX7_more_26 : decode cX7_more 26 = .ok (.iconst 0, 1) := by decide +kernel
theorem dX7_more_27 : decode cX7_more 27 = .ok (.istore 4, 2) := by decide +kernel
theorem dX7_more_29 : decode cX7_more 29 = .ok (.iconst 1, 1) := by decide +kernel
theorem dX7_more_30 : decode cX7_more 30 = .ok (.istore 5, 2) := by decide +kernel
theorem dX7_more_32 : decode cX7_more 32 = .ok (.iload 5, 2) := by decide +kernel
theorem dX7_more_34 : decode cX7_more 34 = .ok (.bipush 99, 2) := by decide +kernel
theorem dX7_more_36 : decode cX7_more 36 = .ok (.if_icmp .gt 48, 3) := by decide +kernel
theorem dX7_more_39 : decode cX7_more 39 = .ok (.aload_n 0, 1) := by decide +kernel
theorem dX7_more_40 : decode cX7_more 40 = .ok (.iconst 0, 1) := by decide +kernel
theorem dX7_more_41 : decode cX7_more 41 = .ok (.sipush 275, 3) := by decide +kernel
theorem dX7_more_44 : decode cX7_more 44 = .ok (.invokevirtual 212, 3) := by decide +kernel
theorem dX7_more_47 : decode cX7_more 47 = .ok (.aload_n 0, 1) := by decide +kernel
theorem dX7_more_48 : decode cX7_more 48 = .ok (.sipush 275, 3) := by decide +kernel
theorem dX7_more_51 : decode cX7_more 51 = .ok (.iload_n 1, 1) := by decide +kernel
theorem dX7_more_52 : decode cX7_more 52 = .ok (.iload_n 2, 1) := by decide +kernel
theorem dX7_more_53 : decode cX7_more 53 = .ok (.iload 5, 2) := by decide +kernel
theorem dX7_more_55 : decode cX7_more 55 = .ok (.invokevirtual 199, 3) := by decide +kernel
theorem dX7_more_58 : decode cX7_more 58 = .ok (.ifCond .le 20, 3) := by decide +kernel
theorem dX7_more_61 : decode cX7_more 61 = .ok (.aload_n 0, 1) := by decide +kernel
theorem dX7_more_62 : decode cX7_more 62 = .ok (.sipush 275, 3) := by decide +kernel
theorem dX7_more_65 : decode cX7_more 65 = .ok (.bipush 10, 2) := by decide +kernel
theorem dX7_more_67 : decode cX7_more 67 = .ok (.invokevirtual 222, 3) := by decide +kernel
theorem dX7_more_70 : decode cX7_more 70 = .ok (.iload_n 3, 1) := by decide +kernel
theorem dX7_more_71 : decode cX7_more 71 = .ok (.if_icmp .gt 7, 3) := by decide +kernel
theorem dX7_more_74 : decode cX7_more 74 = .ok (.iload 5, 2) := by decide +kernel
theorem dX7_more_76 : decode cX7_more 76 = .ok (.istore 4, 2) := by decide +kernel
theorem dX7_more_78 : decode cX7_more 78 = .ok (.iinc 5 1, 3) := by decide +kernel
theorem dX7_more_81 : decode cX7_more 81 = .ok (.goto (-49), 3) := by decide +kernel
theorem dX7_more_84 : decode cX7_more 84 = .ok (.iload 4, 2) := by decide +kernel
theorem dX7_more_86 : decode cX7_more 86 = .ok (.ireturn, 1) := by decide +kernel
theorem dX7_swap_0 : decode cX7_swap 0 = .ok (.iload_n 1, 1) := by decide +kernel
theorem dX7_swap_1 : decode cX7_swap 1 = .ok (.i2l, 1) := by decide +kernel
theorem dX7_swap_2 : decode cX7_swap 2 = .ok (.lconst 0, 1) := by decide +kernel
theorem dX7_swap_3 : decode cX7_swap 3 = .ok (.lconst 1, 1) := by decide +kernel
theorem dX7_swap_4 : decode cX7_swap 4 = .ok (.invokestatic 55, 3) := by decide +kernel
theorem dX7_swap_7 : decode cX7_swap 7 = .ok (.ifCond .ne 5, 3) := by decide +kernel
theorem dX7_swap_10 : decode cX7_swap 10 = .ok (.iconst (-1), 1) := by decide +kernel
theorem dX7_swap_11 : decode cX7_swap 11 = .ok (.ireturn, 1) := by decide +kernel
theorem dX7_swap_12 : decode cX7_swap 12 = .ok (.aload_n 0, 1) := by decide +kernel
theorem dX7_swap_13 : decode cX7_swap 13 = .ok (.iconst 0, 1) := by decide +kernel
theorem dX7_swap_14 : decode cX7_swap 14 = .ok (.bipush 20, 2) := by decide +kernel
theorem dX7_swap_16 : decode cX7_swap 16 = .ok (.invokevirtual 222, 3) := by decide +kernel
theorem dX7_swap_19 : decode cX7_swap 19 = .ok (.istore_n 2, 1) := by decide +kernel
theorem dX7_swap_20 : decode cX7_swap 20 = .ok (.bipush (-4), 2) := by decide +kernel
theorem dX7_swap_22 : decode cX7_swap 22 = .ok (.istore_n 3, 1) := by decide +kernel
theorem dX7_swap_23 : decode cX7_swap 23 = .ok (.iconst 0, 1) := by decide +kernel
theorem dX7_swap_24 : decode cX7_swap 24 = .ok (.istore 4, 2) := by decide +kernel
theorem dX7_swap_26 : decode cX7_swap 26 = .ok (.iload 4, 2) := by decide +kernel
theorem dX7_swap_28 : decode cX7_swap 28 = .ok (.aload_n 0, 1) := by decide +kernel
theorem dX7_swap_29 : decode cX7_swap 29 = .ok (.getfield 145, 3) := by decide +kernel
theorem dX7_swap_32 : decode cX7_swap 32 = .ok (.if_icmp .ge 161, 3) := by decide +kernel
theorem dX7_swap_35 : decode cX7_swap 35 = .ok (.iload 4, 2) := by decide +kernel
theorem dX7_swap_37 : decode cX7_swap 37 = .ok (.iconst 1, 1) := by decide +kernel
theorem dX7_swap_38 : decode cX7_swap 38 = .ok (.iadd, 1) := by decide +kernel
theorem dX7_swap_39 : decode cX7_swap 39 = .ok (.istore 5, 2) := by decide +kernel
theorem dX7_swap_41 : decode cX7_swap 41 = .ok (.iload 5, 2) := by decide +kernel
theorem dX7_swap_43 : decode cX7_swap 43 = .ok (.aload_n 0, 1) := by decide +kernel
theorem dX7_swap_44 : decode cX7_swap 44 = .ok (.getfield 145, 3) := by decide +kernel
theorem dX7_swap_47 : decode cX7_swap 47 = .ok (.if_icmp .ge 140, 3) := by decide +kernel
theorem dX7_swap_50 : decode cX7_swap 50 = .ok (.aload_n 0, 1) := by decide +kernel
theorem dX7_swap_51 : decode cX7_swap 51 = .ok (.iconst 0, 1) := by decide +kernel
theorem dX7_swap_52 : decode cX7_swap 52 = .ok (.sipush 275, 3) := by decide +kernel
theorem dX7_swap_55 : decode cX7_swap 55 = .ok (.invokevirtual 212, 3) := by decide +kernel
theorem dX7_swap_58 : decode cX7_swap 58 = .ok (.iconst 0, 1) := by decide +kernel
theorem dX7_swap_59 : decode cX7_swap 59 = .ok (.istore 6, 2) := by decide +kernel
theorem dX7_swap_61 : decode cX7_swap 61 = .ok (.iload 6, 2) := by decide +kernel
theorem dX7_swap_63 : decode cX7_swap 63 = .ok (.aload_n 0, 1) := by decide +kernel
theorem dX7_swap_64 : decode cX7_swap 64 = .ok (.getfield 142, 3) := by decide +kernel
theorem dX7_swap_67 : decode cX7_swap 67 = .ok (.if_icmp .ge 71, 3) := by decide +kernel
theorem dX7_swap_70 : decode cX7_swap 70 = .ok (.aload_n 0, 1) := by decide +kernel
theorem dX7_swap_71 : decode cX7_swap 71 = .ok (.getfield 7, 3) := by decide +kernel
theorem dX7_swap_74 : decode cX7_swap 74 = .ok (.sipush 308, 3) := by decide +kernel
theorem dX7_swap_77 : decode cX7_swap 77 = .ok (.iconst 5, 1) := by decide +kernel
theorem dX7_swap_78 : decode cX7_swap 78 = .ok (.iload 4, 2) := by decide +kernel
theorem dX7_swap_80 : decode cX7_swap 80 = .ok (.imul, 1) := by decide +kernel
theorem dX7_swap_81 : decode cX7_swap 81 = .ok (.iadd, 1) := by decide +kernel
theorem dX7_swap_82 : decode cX7_swap 82 = .ok (.iload 6, 2) := by decide +kernel
theorem dX7_swap_84 : decode cX7_swap 84 = .ok (.iadd, 1) := by decide +kernel
theorem dX7_swap_85 : decode cX7_swap 85 = .ok (.aload_n 0, 1) := by decide +kernel
theorem dX7_swap_86 : decode cX7_swap 86 = .ok (.getfield 7, 3) := by decide +kernel
theorem dX7_swap_89 : decode cX7_swap 89 = .ok (.bipush 33, 2) := by decide +kernel
theorem dX7_swap_91 : decode cX7_swap 91 = .ok (.iconst 5, 1) := by decide +kernel
theorem dX7_swap_92 : decode cX7_swap 92 = .ok (.iload 5, 2) := by decide +kernel
theorem dX7_swap_94 : decode cX7_swap 94 = .ok (.imul, 1) := by decide +kernel
theorem dX7_swap_95 : decode cX7_swap 95 = .ok (.iadd, 1) := by decide +kernel
theorem dX7_swap_96 : decode cX7_swap 96 = .ok (.iload 6, 2) := by decide +kernel
theorem dX7_swap_98 : decode cX7_swap 98 = .ok (.iadd, 1) := by decide +kernel
theorem dX7_swap_99 : decode cX7_swap 99 = .ok (.iaload, 1) := by decide +kernel
theorem dX7_swap_100 : decode cX7_swap 100 = .ok (.iastore, 1) := by decide +kernel
theorem dX7_swap_101 : decode cX7_swap 101 = .ok (.aload_n 0, 1) := by decide +kernel
theorem dX7_swap_102 : decode cX7_swap 102 = .ok (.getfield 7, 3) := by decide +kernel
theorem dX7_swap_105 : decode cX7_swap 105 = .ok (.sipush 308, 3) := by decide +kernel
theorem dX7_swap_108 : decode cX7_swap 108 = .ok (.iconst 5, 1) := by decide +kernel
theorem dX7_swap_109 : decode cX7_swap 109 = .ok (.iload 5, 2) := by decide +kernel
theorem dX7_swap_111 : decode cX7_swap 111 = .ok (.imul, 1) := by decide +kernel
theorem dX7_swap_112 : decode cX7_swap 112 = .ok (.iadd, 1) := by decide +kernel
theorem dX7_swap_113 : decode cX7_swap 113 = .ok (.iload 6, 2) := by decide +kernel
theorem dX7_swap_115 : decode cX7_swap 115 = .ok (.iadd, 1) := by decide +kernel
theorem dX7_swap_116 : decode cX7_swap 116 = .ok (.aload_n 0, 1) := by decide +kernel
theorem dX7_swap_117 : decode cX7_swap 117 = .ok (.getfield 7, 3) := by decide +kernel
theorem dX7_swap_120 : decode cX7_swap 120 = .ok (.bipush 33, 2) := by decide +kernel
theorem dX7_swap_122 : decode cX7_swap 122 = .ok (.iconst 5, 1) := by decide +kernel
theorem dX7_swap_123 : decode cX7_swap 123 = .ok (.iload 4, 2) := by decide +kernel
theorem dX7_swap_125 : decode cX7_swap 125 = .ok (.imul, 1) := by decide +kernel
theorem dX7_swap_126 : decode cX7_swap 126 = .ok (.iadd, 1) := by decide +kernel
theorem dX7_swap_127 : decode cX7_swap 127 = .ok (.iload 6, 2) := by decide +kernel
theorem dX7_swap_129 : decode cX7_swap 129 = .ok (.iadd, 1) := by decide +kernel
theorem dX7_swap_130 : decode cX7_swap 130 = .ok (.iaload, 1) := by decide +kernel
theorem dX7_swap_131 : decode cX7_swap 131 = .ok (.iastore, 1) := by decide +kernel
theorem dX7_swap_132 : decode cX7_swap 132 = .ok (.iinc 6 1, 3) := by decide +kernel
theorem dX7_swap_135 : decode cX7_swap 135 = .ok (.goto (-74), 3) := by decide +kernel
theorem dX7_swap_138 : decode cX7_swap 138 = .ok (.aload_n 0, 1) := by decide +kernel
theorem dX7_swap_139 : decode cX7_swap 139 = .ok (.sipush 275, 3) := by decide +kernel
theorem dX7_swap_142 : decode cX7_swap 142 = .ok (.bipush 20, 2) := by decide +kernel
theorem dX7_swap_144 : decode cX7_swap 144 = .ok (.invokevirtual 222, 3) := by decide +kernel
theorem dX7_swap_147 : decode cX7_swap 147 = .ok (.istore 6, 2) := by decide +kernel
theorem dX7_swap_149 : decode cX7_swap 149 = .ok (.iload 6, 2) := by decide +kernel
theorem dX7_swap_151 : decode cX7_swap 151 = .ok (.iload_n 2, 1) := by decide +kernel
theorem dX7_swap_152 : decode cX7_swap 152 = .ok (.if_icmp .ge 14, 3) := by decide +kernel
theorem dX7_swap_155 : decode cX7_swap 155 = .ok (.bipush 10, 2) := by decide +kernel
theorem dX7_swap_157 : decode cX7_swap 157 = .ok (.iload 4, 2) := by decide +kernel
theorem dX7_swap_159 : decode cX7_swap 159 = .ok (.imul, 1) := by decide +kernel
theorem dX7_swap_160 : decode cX7_swap 160 = .ok (.iload 5, 2) := by decide +kernel
theorem dX7_swap_162 : decode cX7_swap 162 = .ok (.iadd, 1) := by decide +kernel
theorem dX7_swap_163 : decode cX7_swap 163 = .ok (.goto 4, 3) := by decide +kernel
theorem dX7_swap_166 : decode cX7_swap 166 = .ok (.iload_n 3, 1) := by decide +kernel
theorem dX7_swap_167 : decode cX7_swap 167 = .ok (.istore_n 3, 1) := by decide +kernel
theorem dX7_swap_168 : decode cX7_swap 168 = .ok (.iload 6, 2) := by decide +kernel
theorem dX7_swap_170 : decode cX7_swap 170 = .ok (.iload_n 2, 1) := by decide +kernel
theorem dX7_swap_171 : decode cX7_swap 171 = .ok (.if_icmp .ge 8, 3) := by decide +kernel
theorem dX7_swap_174 : decode cX7_swap 174 = .ok (.iload 6, 2) := by decide +kernel
theorem dX7_swap_176 : decode cX7_swap 176 = .ok (.goto 4, 3) := by decide +kernel
theorem dX7_swap_179 : decode cX7_swap 179 = .ok (.iload_n 2, 1) := by decide +kernel
theorem dX7_swap_180 : decode cX7_swap 180 = .ok (.istore_n 2, 1) := by decide +kernel
theorem dX7_swap_181 : decode cX7_swap 181 = .ok (.iinc 5 1, 3) := by decide +kernel
theorem dX7_swap_184 : decode cX7_swap 184 = .ok (.goto (-143), 3) := by decide +kernel
theorem dX7_swap_187 : decode cX7_swap 187 = .ok (.iinc 4 1, 3) := by decide +kernel
theorem dX7_swap_190 : decode cX7_swap 190 = .ok (.goto (-164), 3) := by decide +kernel
theorem dX7_swap_193 : decode cX7_swap 193 = .ok (.iload_n 3, 1) := by decide +kernel
theorem dX7_swap_194 : decode cX7_swap 194 = .ok (.bipush (-4), 2) := by decide +kernel
theorem dX7_swap_196 : decode cX7_swap 196 = .ok (.if_icmp .eq 7, 3) := by decide +kernel
theorem dX7_swap_199 : decode cX7_swap 199 = .ok (.iload_n 1, 1) := by decide +kernel
theorem dX7_swap_200 : decode cX7_swap 200 = .ok (.ifCond .ne 7, 3) := by decide +kernel
theorem dX7_swap_203 : decode cX7_swap 203 = .ok (.iload_n 3, 1) := by decide +kernel
theorem dX7_swap_204 : decode cX7_swap 204 = .ok (.goto 4, 3) := by decide +kernel
theorem dX7_swap_207 : decode cX7_swap 207 = .ok (.iload_n 2, 1) := by decide +kernel
theorem dX7_swap_208 : decode cX7_swap 208 = .ok (.ireturn, 1) := by decide +kernel
theorem dX7_shed_0 : decode cX7_shed 0 = .ok (.aload_n 0, 1) := by decide +kernel
theorem dX7_shed_1 : decode cX7_shed 1 = .ok (.iload_n 1, 1) := by decide +kernel
theorem dX7_shed_2 : decode cX7_shed 2 = .ok (.invokevirtual 182, 3) := by decide +kernel
theorem dX7_shed_5 : decode cX7_shed 5 = .ok (.ifCond .eq 13, 3) := by decide +kernel
theorem dX7_shed_8 : decode cX7_shed 8 = .ok (.iload_n 2, 1) := by decide +kernel
theorem dX7_shed_9 : decode cX7_shed 9 = .ok (.i2l, 1) := by decide +kernel
theorem dX7_shed_10 : decode cX7_shed 10 = .ok (.lconst 0, 1) := by decide +kernel
theorem dX7_shed_11 : decode cX7_shed 11 = .ok (.lconst 1, 1) := by decide +kernel
theorem dX7_shed_12 : decode cX7_shed 12 = .ok (.invokestatic 55, 3) := by decide +kernel
theorem dX7_shed_15 : decode cX7_shed 15 = .ok (.ifCond .ne 5, 3) := by decide +kernel
theorem dX7_shed_18 : decode cX7_shed 18 = .ok (.iconst (-1), 1) := by decide +kernel
theorem dX7_shed_19 : decode cX7_shed 19 = .ok (.ireturn, 1) := by decide +kernel
theorem dX7_shed_20 : decode cX7_shed 20 = .ok (.aload_n 0, 1) := by decide +kernel
theorem dX7_shed_21 : decode cX7_shed 21 = .ok (.iconst 0, 1) := by decide +kernel
theorem dX7_shed_22 : decode cX7_shed 22 = .ok (.bipush 20, 2) := by decide +kernel
theorem dX7_shed_24 : decode cX7_shed 24 = .ok (.invokevirtual 222, 3) := by decide +kernel
theorem dX7_shed_27 : decode cX7_shed 27 = .ok (.pop, 1) := by decide +kernel
theorem dX7_shed_28 : decode cX7_shed 28 = .ok (.aload_n 0, 1) := by decide +kernel
theorem dX7_shed_29 : decode cX7_shed 29 = .ok (.sipush 220, 3) := by decide +kernel
theorem dX7_shed_32 : decode cX7_shed 32 = .ok (.iload_n 1, 1) := by decide +kernel
theorem dX7_shed_33 : decode cX7_shed 33 = .ok (.invokevirtual 151, 3) := by decide +kernel
theorem dX7_shed_36 : decode cX7_shed 36 = .ok (.istore_n 3, 1) := by decide +kernel
theorem dX7_shed_37 : decode cX7_shed 37 = .ok (.bipush (-4), 2) := by decide +kernel
theorem dX7_shed_39 : decode cX7_shed 39 = .ok (.istore 4, 2) := by decide +kernel
theorem dX7_shed_41 : decode cX7_shed 41 = .ok (.iconst 0, 1) := by decide +kernel
theorem dX7_shed_42 : decode cX7_shed 42 = .ok (.istore 5, 2) := by decide +kernel
theorem dX7_shed_44 : decode cX7_shed 44 = .ok (.iload 5, 2) := by decide +kernel
theorem dX7_shed_46 : decode cX7_shed 46 = .ok (.aload_n 0, 1) := by decide +kernel
theorem dX7_shed_47 : decode cX7_shed 47 = .ok (.getfield 142, 3) := by decide +kernel
theorem dX7_shed_50 : decode cX7_shed 50 = .ok (.if_icmp .ge 89, 3) := by decide +kernel
theorem dX7_shed_53 : decode cX7_shed 53 = .ok (.aload_n 0, 1) := by decide +kernel
theorem dX7_shed_54 : decode cX7_shed 54 = .ok (.iconst 0, 1) := by decide +kernel
theorem dX7_shed_55 : decode cX7_shed 55 = .ok (.sipush 275, 3) := by decide +kernel
theorem dX7_shed_58 : decode cX7_shed 58 = .ok (.invokevirtual 212, 3) := by decide +kernel
theorem dX7_shed_61 : decode cX7_shed 61 = .ok (.aload_n 0, 1) := by decide +kernel
theorem dX7_shed_62 : decode cX7_shed 62 = .ok (.sipush 275, 3) := by decide +kernel
theorem dX7_shed_65 : decode cX7_shed 65 = .ok (.iload_n 1, 1) := by decide +kernel
theorem dX7_shed_66 : decode cX7_shed 66 = .ok (.iload 5, 2) := by decide +kernel
theorem dX7_shed_68 : decode cX7_shed 68 = .ok (.aload_n 0, 1) := by decide +kernel
theorem dX7_shed_69 : decode cX7_shed 69 = .ok (.getfield 7, 3) := by decide +kernel
theorem dX7_shed_72 : decode cX7_shed 72 = .ok (.bipush 33, 2) := by decide +kernel
theorem dX7_shed_74 : decode cX7_shed 74 = .ok (.iconst 5, 1) := by decide +kernel
theorem dX7_shed_75 : decode cX7_shed 75 = .ok (.iload_n 1, 1) := by decide +kernel
theorem dX7_shed_76 : decode cX7_shed 76 = .ok (.imul, 1) := by decide +kernel
theorem dX7_shed_77 : decode cX7_shed 77 = .ok (.iadd, 1) := by decide +kernel
theorem dX7_shed_78 : decode cX7_shed 78 = .ok (.iload 5, 2) := by decide +kernel
theorem dX7_shed_80 : decode cX7_shed 80 = .ok (.iadd, 1) := by decide +kernel
theorem dX7_shed_81 : decode cX7_shed 81 = .ok (.iaload, 1) := by decide +kernel
theorem dX7_shed_82 : decode cX7_shed 82 = .ok (.invokevirtual 203, 3) := by decide +kernel
theorem dX7_shed_85 : decode cX7_shed 85 = .ok (.aload_n 0, 1) := by decide +kernel
theorem dX7_shed_86 : decode cX7_shed 86 = .ok (.sipush 275, 3) := by decide +kernel
theorem dX7_shed_89 : decode cX7_shed 89 = .ok (.bipush 20, 2) := by decide +kernel
theorem dX7_shed_91 : decode cX7_shed 91 = .ok (.invokevirtual 222, 3) := by decide +kernel
theorem dX7_shed_94 : decode cX7_shed 94 = .ok (.pop, 1) := by decide +kernel
theorem dX7_shed_95 : decode cX7_shed 95 = .ok (.aload_n 0, 1) := by decide +kernel
theorem dX7_shed_96 : decode cX7_shed 96 = .ok (.sipush 220, 3) := by decide +kernel
theorem dX7_shed_99 : decode cX7_shed 99 = .ok (.iload_n 1, 1) := by decide +kernel
theorem dX7_shed_100 : decode cX7_shed 100 = .ok (.invokevirtual 151, 3) := by decide +kernel
theorem dX7_shed_103 : decode cX7_shed 103 = .ok (.istore 6, 2) := by decide +kernel
theorem dX7_shed_105 : decode cX7_shed 105 = .ok (.iload 6, 2) := by decide +kernel
theorem dX7_shed_107 : decode cX7_shed 107 = .ok (.iload_n 3, 1) := by decide +kernel
theorem dX7_shed_108 : decode cX7_shed 108 = .ok (.if_icmp .le 8, 3) := by decide +kernel
theorem dX7_shed_111 : decode cX7_shed 111 = .ok (.iload 5, 2) := by decide +kernel
theorem dX7_shed_113 : decode cX7_shed 113 = .ok (.goto 5, 3) := by decide +kernel
theorem dX7_shed_116 : decode cX7_shed 116 = .ok (.iload 4, 2) := by decide +kernel
theorem dX7_shed_118 : decode cX7_shed 118 = .ok (.istore 4, 2) := by decide +kernel
theorem dX7_shed_120 : decode cX7_shed 120 = .ok (.iload 6, 2) := by decide +kernel
theorem dX7_shed_122 : decode cX7_shed 122 = .ok (.iload_n 3, 1) := by decide +kernel
theorem dX7_shed_123 : decode cX7_shed 123 = .ok (.if_icmp .le 8, 3) := by decide +kernel
theorem dX7_shed_126 : decode cX7_shed 126 = .ok (.iload 6, 2) := by decide +kernel
theorem dX7_shed_128 : decode cX7_shed 128 = .ok (.goto 4, 3) := by decide +kernel
theorem dX7_shed_131 : decode cX7_shed 131 = .ok (.iload_n 3, 1) := by decide +kernel
theorem dX7_shed_132 : decode cX7_shed 132 = .ok (.istore_n 3, 1) := by decide +kernel
theorem dX7_shed_133 : decode cX7_shed 133 = .ok (.iinc 5 1, 3) := by decide +kernel
theorem dX7_shed_136 : decode cX7_shed 136 = .ok (.goto (-92), 3) := by decide +kernel
theorem dX7_shed_139 : decode cX7_shed 139 = .ok (.iload 4, 2) := by decide +kernel
theorem dX7_shed_141 : decode cX7_shed 141 = .ok (.bipush (-4), 2) := by decide +kernel
theorem dX7_shed_143 : decode cX7_shed 143 = .ok (.if_icmp .eq 7, 3) := by decide +kernel
theorem dX7_shed_146 : decode cX7_shed 146 = .ok (.iload_n 2, 1) := by decide +kernel
theorem dX7_shed_147 : decode cX7_shed 147 = .ok (.ifCond .ne 8, 3) := by decide +kernel
theorem dX7_shed_150 : decode cX7_shed 150 = .ok (.iload 4, 2) := by decide +kernel
theorem dX7_shed_152 : decode cX7_shed 152 = .ok (.goto 4, 3) := by decide +kernel
theorem dX7_shed_155 : decode cX7_shed 155 = .ok (.iload_n 3, 1) := by decide +kernel
theorem dX7_shed_156 : decode cX7_shed 156 = .ok (.ireturn, 1) := by decide +kernel
theorem dX7_need_0 : decode cX7_need 0 = .ok (.aload_n 0, 1) := by decide +kernel
theorem dX7_need_1 : decode cX7_need 1 = .ok (.iload_n 1, 1) := by decide +kernel
theorem dX7_need_2 : decode cX7_need 2 = .ok (.invokevirtual 182, 3) := by decide +kernel
theorem dX7_need_5 : decode cX7_need 5 = .ok (.ifCond .eq 15, 3) := by decide +kernel
theorem dX7_need_8 : decode cX7_need 8 = .ok (.iload_n 2, 1) := by decide +kernel
theorem dX7_need_9 : decode cX7_need 9 = .ok (.i2l, 1) := by decide +kernel
theorem dX7_need_10 : decode cX7_need 10 = .ok (.lconst 0, 1) := by decide +kernel
theorem dX7_need_11 : decode cX7_need 11 = .ok (.ldc2_w 218, 3) := by decide +kernel
theorem dX7_need_14 : decode cX7_need 14 = .ok (.invokestatic 55, 3) := by decide +kernel
theorem dX7_need_17 : decode cX7_need 17 = .ok (.ifCond .ne 5, 3) := by decide +kernel
theorem dX7_need_20 : decode cX7_need 20 = .ok (.iconst (-1), 1) := by decide +kernel
theorem dX7_need_21 : decode cX7_need 21 = .ok (.ireturn, 1) := by decide +kernel
theorem dX7_need_22 : decode cX7_need 22 = .ok (.iconst 0, 1) := by decide +kernel
theorem dX7_need_23 : decode cX7_need 23 = .ok (.istore_n 3, 1) := by decide +kernel
theorem dX7_need_24 : decode cX7_need 24 = .ok (.iload_n 3, 1) := by decide +kernel
theorem dX7_need_25 : decode cX7_need 25 = .ok (.bipush 99, 2) := by decide +kernel
theorem dX7_need_27 : decode cX7_need 27 = .ok (.if_icmp .gt 48, 3) := by decide +kernel
theorem dX7_need_30 : decode cX7_need 30 = .ok (.aload_n 0, 1) := by decide +kernel
theorem dX7_need_31 : decode cX7_need 31 = .ok (.iconst 0, 1) := by decide +kernel
theorem dX7_need_32 : decode cX7_need 32 = .ok (.sipush 275, 3) := by decide +kernel
theorem dX7_need_35 : decode cX7_need 35 = .ok (.invokevirtual 212, 3) := by decide +kernel
theorem dX7_need_38 : decode cX7_need 38 = .ok (.aload_n 0, 1) := by decide +kernel
theorem dX7_need_39 : decode cX7_need 39 = .ok (.getfield 7, 3) := by decide +kernel
theorem dX7_need_42 : decode cX7_need 42 = .ok (.sipush 304, 3) := by decide +kernel
theorem dX7_need_45 : decode cX7_need 45 = .ok (.iload_n 1, 1) := by decide +kernel
theorem dX7_need_46 : decode cX7_need 46 = .ok (.iadd, 1) := by decide +kernel
theorem dX7_need_47 : decode cX7_need 47 = .ok (.iload_n 3, 1) := by decide +kernel
theorem dX7_need_48 : decode cX7_need 48 = .ok (.iastore, 1) := by decide +kernel
theorem dX7_need_49 : decode cX7_need 49 = .ok (.aload_n 0, 1) := by decide +kernel
theorem dX7_need_50 : decode cX7_need 50 = .ok (.sipush 275, 3) := by decide +kernel
theorem dX7_need_53 : decode cX7_need 53 = .ok (.iload_n 2, 1) := by decide +kernel
theorem dX7_need_54 : decode cX7_need 54 = .ok (.invokevirtual 222, 3) := by decide +kernel
theorem dX7_need_57 : decode cX7_need 57 = .ok (.pop, 1) := by decide +kernel
theorem dX7_need_58 : decode cX7_need 58 = .ok (.aload_n 0, 1) := by decide +kernel
theorem dX7_need_59 : decode cX7_need 59 = .ok (.getfield 25, 3) := by decide +kernel
theorem dX7_need_62 : decode cX7_need 62 = .ok (.iload_n 1, 1) := by decide +kernel
theorem dX7_need_63 : decode cX7_need 63 = .ok (.iaload, 1) := by decide +kernel
theorem dX7_need_64 : decode cX7_need 64 = .ok (.ifCond .ne 5, 3) := by decide +kernel
theorem dX7_need_67 : decode cX7_need 67 = .ok (.iload_n 3, 1) := by decide +kernel
theorem dX7_need_68 : decode cX7_need 68 = .ok (.ireturn, 1) := by decide +kernel
theorem dX7_need_69 : decode cX7_need 69 = .ok (.iinc 3 1, 3) := by decide +kernel
theorem dX7_need_72 : decode cX7_need 72 = .ok (.goto (-48), 3) := by decide +kernel
theorem dX7_need_75 : decode cX7_need 75 = .ok (.bipush (-4), 2) := by decide +kernel
theorem dX7_need_77 : decode cX7_need 77 = .ok (.ireturn, 1) := by decide +kernel
theorem dX7_kind_0 : decode cX7_kind 0 = .ok (.aload_n 0, 1) := by decide +kernel
theorem dX7_kind_1 : decode cX7_kind 1 = .ok (.iload_n 1, 1) := by decide +kernel
theorem dX7_kind_2 : decode cX7_kind 2 = .ok (.invokevirtual 176, 3) := by decide +kernel
theorem dX7_kind_5 : decode cX7_kind 5 = .ok (.ifCond .eq 25, 3) := by decide +kernel
theorem dX7_kind_8 : decode cX7_kind 8 = .ok (.iload_n 2, 1) := by decide +kernel
theorem dX7_kind_9 : decode cX7_kind 9 = .ok (.i2l, 1) := by decide +kernel
theorem dX7_kind_10 : decode cX7_kind 10 = .ok (.lconst 0, 1) := by decide +kernel
theorem dX7_kind_11 : decode cX7_kind 11 = .ok (.ldc2_w 218, 3) := by decide +kernel
theorem dX7_kind_14 : decode cX7_kind 14 = .ok (.invokestatic 55, 3) := by decide +kernel
theorem dX7_kind_17 : decode cX7_kind 17 = .ok (.ifCond .eq 13, 3) := by decide +kernel
theorem dX7_kind_20 : decode cX7_kind 20 = .ok (.iload_n 3, 1) := by decide +kernel
theorem dX7_kind_21 : decode cX7_kind 21 = .ok (.i2l, 1) := by decide +kernel
theorem dX7_kind_22 : decode cX7_kind 22 = .ok (.lconst 0, 1) := by decide +kernel
theorem dX7_kind_23 : decode cX7_kind 23 = .ok (.lconst 1, 1) := by decide +kernel
theorem dX7_kind_24 : decode cX7_kind 24 = .ok (.invokestatic 55, 3) := by decide +kernel
theorem dX7_kind_27 : decode cX7_kind 27 = .ok (.ifCond .ne 5, 3) := by decide +kernel
theorem dX7_kind_30 : decode cX7_kind 30 = .ok (.iconst (-1), 1) := by decide +kernel
theorem dX7_kind_31 : decode cX7_kind 31 = .ok (.ireturn, 1) := by decide +kernel
theorem dX7_kind_32 : decode cX7_kind 32 = .ok (.iconst (-1), 1) := by decide +kernel
theorem dX7_kind_33 : decode cX7_kind 33 = .ok (.istore 4, 2) := by decide +kernel
theorem dX7_kind_35 : decode cX7_kind 35 = .ok (.iconst 0, 1) := by decide +kernel
theorem dX7_kind_36 : decode cX7_kind 36 = .ok (.istore 5, 2) := by decide +kernel
theorem dX7_kind_38 : decode cX7_kind 38 = .ok (.iconst 0, 1) := by decide +kernel
theorem dX7_kind_39 : decode cX7_kind 39 = .ok (.istore 6, 2) := by decide +kernel
theorem dX7_kind_41 : decode cX7_kind 41 = .ok (.iload 6, 2) := by decide +kernel
theorem dX7_kind_43 : decode cX7_kind 43 = .ok (.iconst 4, 1) := by decide +kernel
theorem dX7_kind_44 : decode cX7_kind 44 = .ok (.if_icmp .ge 79, 3) := by decide +kernel
theorem dX7_kind_47 : decode cX7_kind 47 = .ok (.aload_n 0, 1) := by decide +kernel
theorem dX7_kind_48 : decode cX7_kind 48 = .ok (.iconst 0, 1) := by decide +kernel
theorem dX7_kind_49 : decode cX7_kind 49 = .ok (.sipush 275, 3) := by decide +kernel
theorem dX7_kind_52 : decode cX7_kind 52 = .ok (.invokevirtual 212, 3) := by decide +kernel
theorem dX7_kind_55 : decode cX7_kind 55 = .ok (.aload_n 0, 1) := by decide +kernel
theorem dX7_kind_56 : decode cX7_kind 56 = .ok (.getfield 7, 3) := by decide +kernel
theorem dX7_kind_59 : decode cX7_kind 59 = .ok (.sipush 275, 3) := by decide +kernel
theorem dX7_kind_62 : decode cX7_kind 62 = .ok (.iload_n 1, 1) := by decide +kernel
theorem dX7_kind_63 : decode cX7_kind 63 = .ok (.iadd, 1) := by decide +kernel
theorem dX7_kind_64 : decode cX7_kind 64 = .ok (.iload 6, 2) := by decide +kernel
theorem dX7_kind_66 : decode cX7_kind 66 = .ok (.iastore, 1) := by decide +kernel
theorem dX7_kind_67 : decode cX7_kind 67 = .ok (.aload_n 0, 1) := by decide +kernel
theorem dX7_kind_68 : decode cX7_kind 68 = .ok (.sipush 275, 3) := by decide +kernel
theorem dX7_kind_71 : decode cX7_kind 71 = .ok (.iload_n 2, 1) := by decide +kernel
theorem dX7_kind_72 : decode cX7_kind 72 = .ok (.invokevirtual 222, 3) := by decide +kernel
theorem dX7_kind_75 : decode cX7_kind 75 = .ok (.pop, 1) := by decide +kernel
theorem dX7_kind_76 : decode cX7_kind 76 = .ok (.aload_n 0, 1) := by decide +kernel
theorem dX7_kind_77 : decode cX7_kind 77 = .ok (.sipush 220, 3) := by decide +kernel
theorem dX7_kind_80 : decode cX7_kind 80 = .ok (.invokevirtual 173, 3) := by decide +kernel
theorem dX7_kind_83 : decode cX7_kind 83 = .ok (.istore 7, 2) := by decide +kernel
theorem dX7_kind_85 : decode cX7_kind 85 = .ok (.iload 7, 2) := by decide +kernel
theorem dX7_kind_87 : decode cX7_kind 87 = .ok (.iload 4, 2) := by decide +kernel
theorem dX7_kind_89 : decode cX7_kind 89 = .ok (.if_icmp .le 8, 3) := by decide +kernel
theorem dX7_kind_92 : decode cX7_kind 92 = .ok (.iload 6, 2) := by decide +kernel
theorem dX7_kind_94 : decode cX7_kind 94 = .ok (.goto 5, 3) := by decide +kernel
theorem dX7_kind_97 : decode cX7_kind 97 = .ok (.iload 5, 2) := by decide +kernel
theorem dX7_kind_99 : decode cX7_kind 99 = .ok (.istore 5, 2) := by decide +kernel
theorem dX7_kind_101 : decode cX7_kind 101 = .ok (.iload 7, 2) := by decide +kernel
theorem dX7_kind_103 : decode cX7_kind 103 = .ok (.iload 4, 2) := by decide +kernel
theorem dX7_kind_105 : decode cX7_kind 105 = .ok (.if_icmp .le 8, 3) := by decide +kernel
theorem dX7_kind_108 : decode cX7_kind 108 = .ok (.iload 7, 2) := by decide +kernel
theorem dX7_kind_110 : decode cX7_kind 110 = .ok (.goto 5, 3) := by decide +kernel
theorem dX7_kind_113 : decode cX7_kind 113 = .ok (.iload 4, 2) := by decide +kernel
theorem dX7_kind_115 : decode cX7_kind 115 = .ok (.istore 4, 2) := by decide +kernel
theorem dX7_kind_117 : decode cX7_kind 117 = .ok (.iinc 6 1, 3) := by decide +kernel
theorem dX7_kind_120 : decode cX7_kind 120 = .ok (.goto (-79), 3) := by decide +kernel
theorem dX7_kind_123 : decode cX7_kind 123 = .ok (.iload_n 3, 1) := by decide +kernel
theorem dX7_kind_124 : decode cX7_kind 124 = .ok (.ifCond .ne 8, 3) := by decide +kernel
theorem dX7_kind_127 : decode cX7_kind 127 = .ok (.iload 5, 2) := by decide +kernel
theorem dX7_kind_129 : decode cX7_kind 129 = .ok (.goto 5, 3) := by decide +kernel
theorem dX7_kind_132 : decode cX7_kind 132 = .ok (.iload 4, 2) := by decide +kernel
theorem dX7_kind_134 : decode cX7_kind 134 = .ok (.ireturn, 1) := by decide +kernel
theorem dX7_lowest_0 : decode cX7_lowest 0 = .ok (.lload_n 0, 1) := by decide +kernel
theorem dX7_lowest_1 : decode cX7_lowest 1 = .ok (.lstore 5, 2) := by decide +kernel
theorem dX7_lowest_3 : decode cX7_lowest 3 = .ok (.lload_n 2, 1) := by decide +kernel
theorem dX7_lowest_4 : decode cX7_lowest 4 = .ok (.lstore 7, 2) := by decide +kernel
theorem dX7_lowest_6 : decode cX7_lowest 6 = .ok (.lload 7, 2) := by decide +kernel
theorem dX7_lowest_8 : decode cX7_lowest 8 = .ok (.lconst 0, 1) := by decide +kernel
theorem dX7_lowest_9 : decode cX7_lowest 9 = .ok (.lcmp, 1) := by decide +kernel
theorem dX7_lowest_10 : decode cX7_lowest 10 = .ok (.ifCond .eq 21, 3) := by decide +kernel
theorem dX7_lowest_13 : decode cX7_lowest 13 = .ok (.lload 5, 2) := by decide +kernel
theorem dX7_lowest_15 : decode cX7_lowest 15 = .ok (.lload 7, 2) := by decide +kernel
theorem dX7_lowest_17 : decode cX7_lowest 17 = .ok (.lrem, 1) := by decide +kernel
theorem dX7_lowest_18 : decode cX7_lowest 18 = .ok (.lstore 9, 2) := by decide +kernel
theorem dX7_lowest_20 : decode cX7_lowest 20 = .ok (.lload 7, 2) := by decide +kernel
theorem dX7_lowest_22 : decode cX7_lowest 22 = .ok (.lstore 5, 2) := by decide +kernel
theorem dX7_lowest_24 : decode cX7_lowest 24 = .ok (.lload 9, 2) := by decide +kernel
theorem dX7_lowest_26 : decode cX7_lowest 26 = .ok (.lstore 7, 2) := by decide +kernel
theorem dX7_lowest_28 : decode cX7_lowest 28 = .ok (.goto (-22), 3) := by decide +kernel
theorem dX7_lowest_31 : decode cX7_lowest 31 = .ok (.iload 4, 2) := by decide +kernel
theorem dX7_lowest_33 : decode cX7_lowest 33 = .ok (.ifCond .ne 7, 3) := by decide +kernel
theorem dX7_lowest_36 : decode cX7_lowest 36 = .ok (.lload_n 0, 1) := by decide +kernel
theorem dX7_lowest_37 : decode cX7_lowest 37 = .ok (.goto 4, 3) := by decide +kernel
theorem dX7_lowest_40 : decode cX7_lowest 40 = .ok (.lload_n 2, 1) := by decide +kernel
theorem dX7_lowest_41 : decode cX7_lowest 41 = .ok (.lload 5, 2) := by decide +kernel
theorem dX7_lowest_43 : decode cX7_lowest 43 = .ok (.ldiv, 1) := by decide +kernel
theorem dX7_lowest_44 : decode cX7_lowest 44 = .ok (.lreturn, 1) := by decide +kernel
theorem dX7_bySun_0 : decode cX7_bySun 0 = .ok (.lconst 0, 1) := by decide +kernel
theorem dX7_bySun_1 : decode cX7_bySun 1 = .ok (.lstore 6, 2) := by decide +kernel
theorem dX7_bySun_3 : decode cX7_bySun 3 = .ok (.lconst 1, 1) := by decide +kernel
theorem dX7_bySun_4 : decode cX7_bySun 4 = .ok (.lstore 8, 2) := by decide +kernel
theorem dX7_bySun_6 : decode cX7_bySun 6 = .ok (.iconst 0, 1) := by decide +kernel
theorem dX7_bySun_7 : decode cX7_bySun 7 = .ok (.istore 10, 2) := by decide +kernel
theorem dX7_bySun_9 : decode cX7_bySun 9 = .ok (.iload 10, 2) := by decide +kernel
theorem dX7_bySun_11 : decode cX7_bySun 11 = .ok (.iload_n 3, 1) := by decide +kernel
theorem dX7_bySun_12 : decode cX7_bySun 12 = .ok (.if_icmp .ge 17, 3) := by decide +kernel
theorem dX7_bySun_15 : decode cX7_bySun 15 = .ok (.lload 8, 2) := by decide +kernel
theorem dX7_bySun_17 : decode cX7_bySun 17 = .ok (.ldc2_w 239, 3) := by decide +kernel
theorem dX7_bySun_20 : decode cX7_bySun 20 = .ok (.lmul, 1) := by decide +kernel
theorem dX7_bySun_21 : decode cX7_bySun 21 = .ok (.lstore 8, 2) := by decide +kernel
theorem dX7_bySun_23 : decode cX7_bySun 23 = .ok (.iinc 10 1, 3) := by decide +kernel
theorem dX7_bySun_26 : decode cX7_bySun 26 = .ok (.goto (-17), 3) := by decide +kernel
theorem dX7_bySun_29 : decode cX7_bySun 29 = .ok (.iconst 0, 1) := by decide +kernel
theorem dX7_bySun_30 : decode cX7_bySun 30 = .ok (.istore 10, 2) := by decide +kernel
theorem dX7_bySun_32 : decode cX7_bySun 32 = .ok (.iload 10, 2) := by decide +kernel
theorem dX7_bySun_34 : decode cX7_bySun 34 = .ok (.iconst 1, 1) := by decide +kernel
theorem dX7_bySun_35 : decode cX7_bySun 35 = .ok (.iload_n 3, 1) := by decide +kernel
theorem dX7_bySun_36 : decode cX7_bySun 36 = .ok (.ishl, 1) := by decide +kernel
theorem dX7_bySun_37 : decode cX7_bySun 37 = .ok (.if_icmp .ge 133, 3) := by decide +kernel
theorem dX7_bySun_40 : decode cX7_bySun 40 = .ok (.lconst 1, 1) := by decide +kernel
theorem dX7_bySun_41 : decode cX7_bySun 41 = .ok (.lstore 11, 2) := by decide +kernel
theorem dX7_bySun_43 : decode cX7_bySun 43 = .ok (.aload_n 0, 1) := by decide +kernel
theorem dX7_bySun_44 : decode cX7_bySun 44 = .ok (.iconst 0, 1) := by decide +kernel
theorem dX7_bySun_45 : decode cX7_bySun 45 = .ok (.sipush 220, 3) := by decide +kernel
theorem dX7_bySun_48 : decode cX7_bySun 48 = .ok (.invokevirtual 212, 3) := by decide +kernel
theorem dX7_bySun_51 : decode cX7_bySun 51 = .ok (.iconst 0, 1) := by decide +kernel
theorem dX7_bySun_52 : decode cX7_bySun 52 = .ok (.istore 13, 2) := by decide +kernel
theorem dX7_bySun_54 : decode cX7_bySun 54 = .ok (.iload 13, 2) := by decide +kernel
theorem dX7_bySun_56 : decode cX7_bySun 56 = .ok (.iload_n 3, 1) := by decide +kernel
theorem dX7_bySun_57 : decode cX7_bySun 57 = .ok (.if_icmp .ge 64, 3) := by decide +kernel
theorem dX7_bySun_60 : decode cX7_bySun 60 = .ok (.iload 10, 2) := by decide +kernel
theorem dX7_bySun_62 : decode cX7_bySun 62 = .ok (.iload 13, 2) := by decide +kernel
theorem dX7_bySun_64 : decode cX7_bySun 64 = .ok (.ishr, 1) := by decide +kernel
theorem dX7_bySun_65 : decode cX7_bySun 65 = .ok (.iconst 1, 1) := by decide +kernel
theorem dX7_bySun_66 : decode cX7_bySun 66 = .ok (.iand, 1) := by decide +kernel
theorem dX7_bySun_67 : decode cX7_bySun 67 = .ok (.iconst 1, 1) := by decide +kernel
theorem dX7_bySun_68 : decode cX7_bySun 68 = .ok (.if_icmp .ne 7, 3) := by decide +kernel
theorem dX7_bySun_71 : decode cX7_bySun 71 = .ok (.iconst 1, 1) := by decide +kernel
theorem dX7_bySun_72 : decode cX7_bySun 72 = .ok (.goto 4, 3) := by decide +kernel
theorem dX7_bySun_75 : decode cX7_bySun 75 = .ok (.iconst 0, 1) := by decide +kernel
theorem dX7_bySun_76 : decode cX7_bySun 76 = .ok (.istore 14, 2) := by decide +kernel
theorem dX7_bySun_78 : decode cX7_bySun 78 = .ok (.lload 11, 2) := by decide +kernel
theorem dX7_bySun_80 : decode cX7_bySun 80 = .ok (.iload 14, 2) := by decide +kernel
theorem dX7_bySun_82 : decode cX7_bySun 82 = .ok (.ifCond .eq 8, 3) := by decide +kernel
theorem dX7_bySun_85 : decode cX7_bySun 85 = .ok (.iload_n 1, 1) := by decide +kernel
theorem dX7_bySun_86 : decode cX7_bySun 86 = .ok (.i2l, 1) := by decide +kernel
theorem dX7_bySun_87 : decode cX7_bySun 87 = .ok (.goto 8, 3) := by decide +kernel
theorem dX7_bySun_90 : decode cX7_bySun 90 = .ok (.bipush 10, 2) := by decide +kernel
theorem dX7_bySun_92 : decode cX7_bySun 92 = .ok (.iload_n 1, 1) := by decide +kernel
theorem dX7_bySun_93 : decode cX7_bySun 93 = .ok (.isub, 1) := by decide +kernel
theorem dX7_bySun_94 : decode cX7_bySun 94 = .ok (.i2l, 1) := by decide +kernel
theorem dX7_bySun_95 : decode cX7_bySun 95 = .ok (.lmul, 1) := by decide +kernel
theorem dX7_bySun_96 : decode cX7_bySun 96 = .ok (.lstore 11, 2) := by decide +kernel
theorem dX7_bySun_98 : decode cX7_bySun 98 = .ok (.aload_n 0, 1) := by decide +kernel
theorem dX7_bySun_99 : decode cX7_bySun 99 = .ok (.sipush 220, 3) := by decide +kernel
theorem dX7_bySun_102 : decode cX7_bySun 102 = .ok (.iload 14, 2) := by decide +kernel
theorem dX7_bySun_104 : decode cX7_bySun 104 = .ok (.ifCond .eq 7, 3) := by decide +kernel
theorem dX7_bySun_107 : decode cX7_bySun 107 = .ok (.iconst 2, 1) := by decide +kernel
theorem dX7_bySun_108 : decode cX7_bySun 108 = .ok (.goto 4, 3) := by decide +kernel
theorem dX7_bySun_111 : decode cX7_bySun 111 = .ok (.iconst 1, 1) := by decide +kernel
theorem dX7_bySun_112 : decode cX7_bySun 112 = .ok (.invokevirtual 208, 3) := by decide +kernel
theorem dX7_bySun_115 : decode cX7_bySun 115 = .ok (.iinc 13 1, 3) := by decide +kernel
theorem dX7_bySun_118 : decode cX7_bySun 118 = .ok (.goto (-64), 3) := by decide +kernel
theorem dX7_bySun_121 : decode cX7_bySun 121 = .ok (.lload 6, 2) := by decide +kernel
theorem dX7_bySun_123 : decode cX7_bySun 123 = .ok (.lload 11, 2) := by decide +kernel
theorem dX7_bySun_125 : decode cX7_bySun 125 = .ok (.iload_n 2, 1) := by decide +kernel
theorem dX7_bySun_126 : decode cX7_bySun 126 = .ok (.bipush (-4), 2) := by decide +kernel
theorem dX7_bySun_128 : decode cX7_bySun 128 = .ok (.if_icmp .ne 13, 3) := by decide +kernel
theorem dX7_bySun_131 : decode cX7_bySun 131 = .ok (.aload_n 0, 1) := by decide +kernel
theorem dX7_bySun_132 : decode cX7_bySun 132 = .ok (.sipush 220, 3) := by decide +kernel
theorem dX7_bySun_135 : decode cX7_bySun 135 = .ok (.invokevirtual 173, 3) := by decide +kernel
theorem dX7_bySun_138 : decode cX7_bySun 138 = .ok (.goto 21, 3) := by decide +kernel
theorem dX7_bySun_141 : decode cX7_bySun 141 = .ok (.aload_n 0, 1) := by decide +kernel
theorem dX7_bySun_142 : decode cX7_bySun 142 = .ok (.sipush 220, 3) := by decide +kernel
theorem dX7_bySun_145 : decode cX7_bySun 145 = .ok (.iload_n 2, 1) := by decide +kernel
theorem dX7_bySun_146 : decode cX7_bySun 146 = .ok (.invokevirtual 185, 3) := by decide +kernel
theorem dX7_bySun_149 : decode cX7_bySun 149 = .ok (.iload 4, 2) := by decide +kernel
theorem dX7_bySun_151 : decode cX7_bySun 151 = .ok (.if_icmp .ne 7, 3) := by decide +kernel
theorem dX7_bySun_154 : decode cX7_bySun 154 = .ok (.iconst 1, 1) := by decide +kernel
theorem dX7_bySun_155 : decode cX7_bySun 155 = .ok (.goto 4, 3) := by decide +kernel
theorem dX7_bySun_158 : decode cX7_bySun 158 = .ok (.iconst 0, 1) := by decide +kernel
theorem dX7_bySun_159 : decode cX7_bySun 159 = .ok (.i2l, 1) := by decide +kernel
theorem dX7_bySun_160 : decode cX7_bySun 160 = .ok (.lmul, 1) := by decide +kernel
theorem dX7_bySun_161 : decode cX7_bySun 161 = .ok (.ladd, 1) := by decide +kernel
theorem dX7_bySun_162 : decode cX7_bySun 162 = .ok (.lstore 6, 2) := by decide +kernel
theorem dX7_bySun_164 : decode cX7_bySun 164 = .ok (.iinc 10 1, 3) := by decide +kernel
theorem dX7_bySun_167 : decode cX7_bySun 167 = .ok (.goto (-135), 3) := by decide +kernel
theorem dX7_bySun_170 : decode cX7_bySun 170 = .ok (.lload 6, 2) := by decide +kernel
theorem dX7_bySun_172 : decode cX7_bySun 172 = .ok (.lload 8, 2) := by decide +kernel
theorem dX7_bySun_174 : decode cX7_bySun 174 = .ok (.iload 5, 2) := by decide +kernel
theorem dX7_bySun_176 : decode cX7_bySun 176 = .ok (.invokestatic 241, 3) := by decide +kernel
theorem dX7_bySun_179 : decode cX7_bySun 179 = .ok (.lreturn, 1) := by decide +kernel
theorem dX7_luck_0 : decode cX7_luck 0 = .ok (.iload_n 1, 1) := by decide +kernel
theorem dX7_luck_1 : decode cX7_luck 1 = .ok (.i2l, 1) := by decide +kernel
theorem dX7_luck_2 : decode cX7_luck 2 = .ok (.lconst 0, 1) := by decide +kernel
theorem dX7_luck_3 : decode cX7_luck 3 = .ok (.ldc2_w 239, 3) := by decide +kernel
theorem dX7_luck_6 : decode cX7_luck 6 = .ok (.invokestatic 55, 3) := by decide +kernel
theorem dX7_luck_9 : decode cX7_luck 9 = .ok (.ifCond .eq 61, 3) := by decide +kernel
theorem dX7_luck_12 : decode cX7_luck 12 = .ok (.aload_n 0, 1) := by decide +kernel
theorem dX7_luck_13 : decode cX7_luck 13 = .ok (.iload_n 2, 1) := by decide +kernel
theorem dX7_luck_14 : decode cX7_luck 14 = .ok (.invokevirtual 182, 3) := by decide +kernel
theorem dX7_luck_17 : decode cX7_luck 17 = .ok (.ifCond .eq 53, 3) := by decide +kernel
theorem dX7_luck_20 : decode cX7_luck 20 = .ok (.iload_n 3, 1) := by decide +kernel
theorem dX7_luck_21 : decode cX7_luck 21 = .ok (.i2l, 1) := by decide +kernel
theorem dX7_luck_22 : decode cX7_luck 22 = .ok (.lconst 0, 1) := by decide +kernel
theorem dX7_luck_23 : decode cX7_luck 23 = .ok (.ldc2_w 245, 3) := by decide +kernel
theorem dX7_luck_26 : decode cX7_luck 26 = .ok (.invokestatic 55, 3) := by decide +kernel
theorem dX7_luck_29 : decode cX7_luck 29 = .ok (.ifCond .eq 41, 3) := by decide +kernel
theorem dX7_luck_32 : decode cX7_luck 32 = .ok (.iload 4, 2) := by decide +kernel
theorem dX7_luck_34 : decode cX7_luck 34 = .ok (.i2l, 1) := by decide +kernel
theorem dX7_luck_35 : decode cX7_luck 35 = .ok (.lconst 0, 1) := by decide +kernel
theorem dX7_luck_36 : decode cX7_luck 36 = .ok (.ldc2_w 188, 3) := by decide +kernel
theorem dX7_luck_39 : decode cX7_luck 39 = .ok (.invokestatic 55, 3) := by decide +kernel
theorem dX7_luck_42 : decode cX7_luck 42 = .ok (.ifCond .eq 28, 3) := by decide +kernel
theorem dX7_luck_45 : decode cX7_luck 45 = .ok (.iload 5, 2) := by decide +kernel
theorem dX7_luck_47 : decode cX7_luck 47 = .ok (.i2l, 1) := by decide +kernel
theorem dX7_luck_48 : decode cX7_luck 48 = .ok (.lconst 0, 1) := by decide +kernel
theorem dX7_luck_49 : decode cX7_luck 49 = .ok (.lconst 1, 1) := by decide +kernel
theorem dX7_luck_50 : decode cX7_luck 50 = .ok (.invokestatic 55, 3) := by decide +kernel
theorem dX7_luck_53 : decode cX7_luck 53 = .ok (.ifCond .eq 17, 3) := by decide +kernel
theorem dX7_luck_56 : decode cX7_luck 56 = .ok (.aload_n 0, 1) := by decide +kernel
theorem dX7_luck_57 : decode cX7_luck 57 = .ok (.iload_n 1, 1) := by decide +kernel
theorem dX7_luck_58 : decode cX7_luck 58 = .ok (.iload_n 2, 1) := by decide +kernel
theorem dX7_luck_59 : decode cX7_luck 59 = .ok (.iload_n 3, 1) := by decide +kernel
theorem dX7_luck_60 : decode cX7_luck 60 = .ok (.iload 4, 2) := by decide +kernel
theorem dX7_luck_62 : decode cX7_luck 62 = .ok (.iload 5, 2) := by decide +kernel
theorem dX7_luck_64 : decode cX7_luck 64 = .ok (.invokevirtual 247, 3) := by decide +kernel
theorem dX7_luck_67 : decode cX7_luck 67 = .ok (.goto 6, 3) := by decide +kernel
theorem dX7_luck_70 : decode cX7_luck 70 = .ok (.ldc2_w 251, 3) := by decide +kernel
theorem dX7_luck_73 : decode cX7_luck 73 = .ok (.lreturn, 1) := by decide +kernel
theorem dX7_mean_0 : decode cX7_mean 0 = .ok (.iload_n 1, 1) := by decide +kernel
theorem dX7_mean_1 : decode cX7_mean 1 = .ok (.i2l, 1) := by decide +kernel
theorem dX7_mean_2 : decode cX7_mean 2 = .ok (.lconst 0, 1) := by decide +kernel
theorem dX7_mean_3 : decode cX7_mean 3 = .ok (.ldc2_w 239, 3) := by decide +kernel
theorem dX7_mean_6 : decode cX7_mean 6 = .ok (.invokestatic 55, 3) := by decide +kernel
theorem dX7_mean_9 : decode cX7_mean 9 = .ok (.ifCond .eq 38, 3) := by decide +kernel
theorem dX7_mean_12 : decode cX7_mean 12 = .ok (.iload_n 2, 1) := by decide +kernel
theorem dX7_mean_13 : decode cX7_mean 13 = .ok (.i2l, 1) := by decide +kernel
theorem dX7_mean_14 : decode cX7_mean 14 = .ok (.lconst 0, 1) := by decide +kernel
theorem dX7_mean_15 : decode cX7_mean 15 = .ok (.ldc2_w 245, 3) := by decide +kernel
theorem dX7_mean_18 : decode cX7_mean 18 = .ok (.invokestatic 55, 3) := by decide +kernel
theorem dX7_mean_21 : decode cX7_mean 21 = .ok (.ifCond .eq 26, 3) := by decide +kernel
theorem dX7_mean_24 : decode cX7_mean 24 = .ok (.iload_n 3, 1) := by decide +kernel
theorem dX7_mean_25 : decode cX7_mean 25 = .ok (.i2l, 1) := by decide +kernel
theorem dX7_mean_26 : decode cX7_mean 26 = .ok (.lconst 0, 1) := by decide +kernel
theorem dX7_mean_27 : decode cX7_mean 27 = .ok (.lconst 1, 1) := by decide +kernel
theorem dX7_mean_28 : decode cX7_mean 28 = .ok (.invokestatic 55, 3) := by decide +kernel
theorem dX7_mean_31 : decode cX7_mean 31 = .ok (.ifCond .eq 16, 3) := by decide +kernel
theorem dX7_mean_34 : decode cX7_mean 34 = .ok (.aload_n 0, 1) := by decide +kernel
theorem dX7_mean_35 : decode cX7_mean 35 = .ok (.iload_n 1, 1) := by decide +kernel
theorem dX7_mean_36 : decode cX7_mean 36 = .ok (.bipush (-4), 2) := by decide +kernel
theorem dX7_mean_38 : decode cX7_mean 38 = .ok (.iload_n 2, 1) := by decide +kernel
theorem dX7_mean_39 : decode cX7_mean 39 = .ok (.iconst 0, 1) := by decide +kernel
theorem dX7_mean_40 : decode cX7_mean 40 = .ok (.iload_n 3, 1) := by decide +kernel
theorem dX7_mean_41 : decode cX7_mean 41 = .ok (.invokevirtual 247, 3) := by decide +kernel
theorem dX7_mean_44 : decode cX7_mean 44 = .ok (.goto 6, 3) := by decide +kernel
theorem dX7_mean_47 : decode cX7_mean 47 = .ok (.ldc2_w 251, 3) := by decide +kernel
theorem dX7_mean_50 : decode cX7_mean 50 = .ok (.lreturn, 1) := by decide +kernel
theorem dX7_see_0 : decode cX7_see 0 = .ok (.iload_n 1, 1) := by decide +kernel
theorem dX7_see_1 : decode cX7_see 1 = .ok (.i2l, 1) := by decide +kernel
theorem dX7_see_2 : decode cX7_see 2 = .ok (.lconst 0, 1) := by decide +kernel
theorem dX7_see_3 : decode cX7_see 3 = .ok (.ldc2_w 253, 3) := by decide +kernel
theorem dX7_see_6 : decode cX7_see 6 = .ok (.invokestatic 55, 3) := by decide +kernel
theorem dX7_see_9 : decode cX7_see 9 = .ok (.ifCond .eq 23, 3) := by decide +kernel
theorem dX7_see_12 : decode cX7_see 12 = .ok (.aload_n 0, 1) := by decide +kernel
theorem dX7_see_13 : decode cX7_see 13 = .ok (.iload_n 2, 1) := by decide +kernel
theorem dX7_see_14 : decode cX7_see 14 = .ok (.invokevirtual 182, 3) := by decide +kernel
theorem dX7_see_17 : decode cX7_see 17 = .ok (.ifCond .eq 15, 3) := by decide +kernel
theorem dX7_see_20 : decode cX7_see 20 = .ok (.iload_n 3, 1) := by decide +kernel
theorem dX7_see_21 : decode cX7_see 21 = .ok (.i2l, 1) := by decide +kernel
theorem dX7_see_22 : decode cX7_see 22 = .ok (.lconst 0, 1) := by decide +kernel
theorem dX7_see_23 : decode cX7_see 23 = .ok (.ldc2_w 188, 3) := by decide +kernel
theorem dX7_see_26 : decode cX7_see 26 = .ok (.invokestatic 55, 3) := by decide +kernel
theorem dX7_see_29 : decode cX7_see 29 = .ok (.ifCond .ne 5, 3) := by decide +kernel
theorem dX7_see_32 : decode cX7_see 32 = .ok (.iconst (-1), 1) := by decide +kernel
theorem dX7_see_33 : decode cX7_see 33 = .ok (.ireturn, 1) := by decide +kernel
theorem dX7_see_34 : decode cX7_see 34 = .ok (.aload_n 0, 1) := by decide +kernel
theorem dX7_see_35 : decode cX7_see 35 = .ok (.getfield 148, 3) := by decide +kernel
theorem dX7_see_38 : decode cX7_see 38 = .ok (.bipush 6, 2) := by decide +kernel
theorem dX7_see_40 : decode cX7_see 40 = .ok (.if_icmp .ne 6, 3) := by decide +kernel
theorem dX7_see_43 : decode cX7_see 43 = .ok (.bipush (-3), 2) := by decide +kernel
theorem dX7_see_45 : decode cX7_see 45 = .ok (.ireturn, 1) := by decide +kernel
theorem dX7_see_46 : decode cX7_see 46 = .ok (.aload_n 0, 1) := by decide +kernel
theorem dX7_see_47 : decode cX7_see 47 = .ok (.getfield 34, 3) := by decide +kernel
theorem dX7_see_50 : decode cX7_see 50 = .ok (.iconst 3, 1) := by decide +kernel
theorem dX7_see_51 : decode cX7_see 51 = .ok (.aload_n 0, 1) := by decide +kernel
theorem dX7_see_52 : decode cX7_see 52 = .ok (.getfield 148, 3) := by decide +kernel
theorem dX7_see_55 : decode cX7_see 55 = .ok (.imul, 1) := by decide +kernel
theorem dX7_see_56 : decode cX7_see 56 = .ok (.iload_n 1, 1) := by decide +kernel
theorem dX7_see_57 : decode cX7_see 57 = .ok (.iastore, 1) := by decide +kernel
theorem dX7_see_58 : decode cX7_see 58 = .ok (.aload_n 0, 1) := by decide +kernel
theorem dX7_see_59 : decode cX7_see 59 = .ok (.getfield 34, 3) := by decide +kernel
theorem dX7_see_62 : decode cX7_see 62 = .ok (.iconst 3, 1) := by decide +kernel
theorem dX7_see_63 : decode cX7_see 63 = .ok (.aload_n 0, 1) := by decide +kernel
theorem dX7_see_64 : decode cX7_see 64 = .ok (.getfield 148, 3) := by decide +kernel
theorem dX7_see_67 : decode cX7_see 67 = .ok (.imul, 1) := by decide +kernel
theorem dX7_see_68 : decode cX7_see 68 = .ok (.iconst 1, 1) := by decide +kernel
theorem dX7_see_69 : decode cX7_see 69 = .ok (.iadd, 1) := by decide +kernel
theorem dX7_see_70 : decode cX7_see 70 = .ok (.iload_n 2, 1) := by decide +kernel
theorem dX7_see_71 : decode cX7_see 71 = .ok (.iastore, 1) := by decide +kernel
theorem dX7_see_72 : decode cX7_see 72 = .ok (.aload_n 0, 1) := by decide +kernel
theorem dX7_see_73 : decode cX7_see 73 = .ok (.getfield 34, 3) := by decide +kernel
theorem dX7_see_76 : decode cX7_see 76 = .ok (.iconst 3, 1) := by decide +kernel
theorem dX7_see_77 : decode cX7_see 77 = .ok (.aload_n 0, 1) := by decide +kernel
theorem dX7_see_78 : decode cX7_see 78 = .ok (.getfield 148, 3) := by decide +kernel
theorem dX7_see_81 : decode cX7_see 81 = .ok (.imul, 1) := by decide +kernel
theorem dX7_see_82 : decode cX7_see 82 = .ok (.iconst 2, 1) := by decide +kernel
theorem dX7_see_83 : decode cX7_see 83 = .ok (.iadd, 1) := by decide +kernel
theorem dX7_see_84 : decode cX7_see 84 = .ok (.iload_n 3, 1) := by decide +kernel
theorem dX7_see_85 : decode cX7_see 85 = .ok (.iastore, 1) := by decide +kernel
theorem dX7_see_86 : decode cX7_see 86 = .ok (.aload_n 0, 1) := by decide +kernel
theorem dX7_see_87 : decode cX7_see 87 = .ok (.dup, 1) := by decide +kernel
theorem dX7_see_88 : decode cX7_see 88 = .ok (.getfield 148, 3) := by decide +kernel
theorem dX7_see_91 : decode cX7_see 91 = .ok (.iconst 1, 1) := by decide +kernel
theorem dX7_see_92 : decode cX7_see 92 = .ok (.iadd, 1) := by decide +kernel
theorem dX7_see_93 : decode cX7_see 93 = .ok (.putfield 148, 3) := by decide +kernel
theorem dX7_see_96 : decode cX7_see 96 = .ok (.aload_n 0, 1) := by decide +kernel
theorem dX7_see_97 : decode cX7_see 97 = .ok (.getfield 148, 3) := by decide +kernel
theorem dX7_see_100 : decode cX7_see 100 = .ok (.ireturn, 1) := by decide +kernel
theorem dX7_forget_0 : decode cX7_forget 0 = .ok (.iload_n 1, 1) := by decide +kernel
theorem dX7_forget_1 : decode cX7_forget 1 = .ok (.i2l, 1) := by decide +kernel
theorem dX7_forget_2 : decode cX7_forget 2 = .ok (.lconst 0, 1) := by decide +kernel
theorem dX7_forget_3 : decode cX7_forget 3 = .ok (.aload_n 0, 1) := by decide +kernel
theorem dX7_forget_4 : decode cX7_forget 4 = .ok (.getfield 148, 3) := by decide +kernel
theorem dX7_forget_7 : decode cX7_forget 7 = .ok (.i2l, 1) := by decide +kernel
theorem dX7_forget_8 : decode cX7_forget 8 = .ok (.invokestatic 55, 3) := by decide +kernel
theorem dX7_forget_11 : decode cX7_forget 11 = .ok (.ifCond .ne 5, 3) := by decide +kernel
theorem dX7_forget_14 : decode cX7_forget 14 = .ok (.iconst (-1), 1) := by decide +kernel
theorem dX7_forget_15 : decode cX7_forget 15 = .ok (.ireturn, 1) := by decide +kernel
theorem dX7_forget_16 : decode cX7_forget 16 = .ok (.aload_n 0, 1) := by decide +kernel
theorem dX7_forget_17 : decode cX7_forget 17 = .ok (.getfield 148, 3) := by decide +kernel
theorem dX7_forget_20 : decode cX7_forget 20 = .ok (.istore_n 2, 1) := by decide +kernel
theorem dX7_forget_21 : decode cX7_forget 21 = .ok (.aload_n 0, 1) := by decide +kernel
theorem dX7_forget_22 : decode cX7_forget 22 = .ok (.iload_n 1, 1) := by decide +kernel
theorem dX7_forget_23 : decode cX7_forget 23 = .ok (.putfield 148, 3) := by decide +kernel
theorem dX7_forget_26 : decode cX7_forget 26 = .ok (.iload_n 2, 1) := by decide +kernel
theorem dX7_forget_27 : decode cX7_forget 27 = .ok (.ireturn, 1) := by decide +kernel
theorem dX7_isAsSeen_0 : decode cX7_isAsSeen 0 = .ok (.aload_n 0, 1) := by decide +kernel
theorem dX7_isAsSeen_1 : decode cX7_isAsSeen 1 = .ok (.iconst 0, 1) := by decide +kernel
theorem dX7_isAsSeen_2 : decode cX7_isAsSeen 2 = .ok (.sipush 220, 3) := by decide +kernel
theorem dX7_isAsSeen_5 : decode cX7_isAsSeen 5 = .ok (.invokevirtual 212, 3) := by decide +kernel
theorem dX7_isAsSeen_8 : decode cX7_isAsSeen 8 = .ok (.iconst 1, 1) := by decide +kernel
theorem dX7_isAsSeen_9 : decode cX7_isAsSeen 9 = .ok (.istore_n 2, 1) := by decide +kernel
theorem dX7_isAsSeen_10 : decode cX7_isAsSeen 10 = .ok (.iconst 0, 1) := by decide +kernel
theorem dX7_isAsSeen_11 : decode cX7_isAsSeen 11 = .ok (.istore_n 3, 1) := by decide +kernel
theorem dX7_isAsSeen_12 : decode cX7_isAsSeen 12 = .ok (.iload_n 3, 1) := by decide +kernel
theorem dX7_isAsSeen_13 : decode cX7_isAsSeen 13 = .ok (.bipush 20, 2) := by decide +kernel
theorem dX7_isAsSeen_15 : decode cX7_isAsSeen 15 = .ok (.if_icmp .gt 133, 3) := by decide +kernel
theorem dX7_isAsSeen_18 : decode cX7_isAsSeen 18 = .ok (.iconst 0, 1) := by decide +kernel
theorem dX7_isAsSeen_19 : decode cX7_isAsSeen 19 = .ok (.istore 4, 2) := by decide +kernel
theorem dX7_isAsSeen_21 : decode cX7_isAsSeen 21 = .ok (.iload 4, 2) := by decide +kernel
theorem dX7_isAsSeen_23 : decode cX7_isAsSeen 23 = .ok (.aload_n 0, 1) := by decide +kernel
theorem dX7_isAsSeen_24 : decode cX7_isAsSeen 24 = .ok (.getfield 145, 3) := by decide +kernel
theorem dX7_isAsSeen_27 : decode cX7_isAsSeen 27 = .ok (.if_icmp .ge 34, 3) := by decide +kernel
theorem dX7_isAsSeen_30 : decode cX7_isAsSeen 30 = .ok (.aload_n 0, 1) := by decide +kernel
theorem dX7_isAsSeen_31 : decode cX7_isAsSeen 31 = .ok (.getfield 37, 3) := by decide +kernel
theorem dX7_isAsSeen_34 : decode cX7_isAsSeen 34 = .ok (.bipush 84, 2) := by decide +kernel
theorem dX7_isAsSeen_36 : decode cX7_isAsSeen 36 = .ok (.iload_n 1, 1) := by decide +kernel
theorem dX7_isAsSeen_37 : decode cX7_isAsSeen 37 = .ok (.imul, 1) := by decide +kernel
theorem dX7_isAsSeen_38 : decode cX7_isAsSeen 38 = .ok (.iconst 4, 1) := by decide +kernel
theorem dX7_isAsSeen_39 : decode cX7_isAsSeen 39 = .ok (.iload_n 3, 1) := by decide +kernel
theorem dX7_isAsSeen_40 : decode cX7_isAsSeen 40 = .ok (.imul, 1) := by decide +kernel
theorem dX7_isAsSeen_41 : decode cX7_isAsSeen 41 = .ok (.iadd, 1) := by decide +kernel
theorem dX7_isAsSeen_42 : decode cX7_isAsSeen 42 = .ok (.iload 4, 2) := by decide +kernel
theorem dX7_isAsSeen_44 : decode cX7_isAsSeen 44 = .ok (.iadd, 1) := by decide +kernel
theorem dX7_isAsSeen_45 : decode cX7_isAsSeen 45 = .ok (.aload_n 0, 1) := by decide +kernel
theorem dX7_isAsSeen_46 : decode cX7_isAsSeen 46 = .ok (.sipush 220, 3) := by decide +kernel
theorem dX7_isAsSeen_49 : decode cX7_isAsSeen 49 = .ok (.iload 4, 2) := by decide +kernel
theorem dX7_isAsSeen_51 : decode cX7_isAsSeen 51 = .ok (.invokevirtual 185, 3) := by decide +kernel
theorem dX7_isAsSeen_54 : decode cX7_isAsSeen 54 = .ok (.iastore, 1) := by decide +kernel
theorem dX7_isAsSeen_55 : decode cX7_isAsSeen 55 = .ok (.iinc 4 1, 3) := by decide +kernel
theorem dX7_isAsSeen_58 : decode cX7_isAsSeen 58 = .ok (.goto (-37), 3) := by decide +kernel
theorem dX7_isAsSeen_61 : decode cX7_isAsSeen 61 = .ok (.iconst 0, 1) := by decide +kernel
theorem dX7_isAsSeen_62 : decode cX7_isAsSeen 62 = .ok (.istore 4, 2) := by decide +kernel
theorem dX7_isAsSeen_64 : decode cX7_isAsSeen 64 = .ok (.iload 4, 2) := by decide +kernel
theorem dX7_isAsSeen_66 : decode cX7_isAsSeen 66 = .ok (.aload_n 0, 1) := by decide +kernel
theorem dX7_isAsSeen_67 : decode cX7_isAsSeen 67 = .ok (.getfield 148, 3) := by decide +kernel
theorem dX7_isAsSeen_70 : decode cX7_isAsSeen 70 = .ok (.if_icmp .ge 64, 3) := by decide +kernel
theorem dX7_isAsSeen_73 : decode cX7_isAsSeen 73 = .ok (.iload_n 2, 1) := by decide +kernel
theorem dX7_isAsSeen_74 : decode cX7_isAsSeen 74 = .ok (.ifCond .eq 52, 3) := by decide +kernel
theorem dX7_isAsSeen_77 : decode cX7_isAsSeen 77 = .ok (.aload_n 0, 1) := by decide +kernel
theorem dX7_isAsSeen_78 : decode cX7_isAsSeen 78 = .ok (.getfield 34, 3) := by decide +kernel
theorem dX7_isAsSeen_81 : decode cX7_isAsSeen 81 = .ok (.iconst 3, 1) := by decide +kernel
theorem dX7_isAsSeen_82 : decode cX7_isAsSeen 82 = .ok (.iload 4, 2) := by decide +kernel
theorem dX7_isAsSeen_84 : decode cX7_isAsSeen 84 = .ok (.imul, 1) := by decide +kernel
theorem dX7_isAsSeen_85 : decode cX7_isAsSeen 85 = .ok (.iaload, 1) := by decide +kernel
theorem dX7_isAsSeen_86 : decode cX7_isAsSeen 86 = .ok (.iload_n 3, 1) := by decide +kernel
theorem dX7_isAsSeen_87 : decode cX7_isAsSeen 87 = .ok (.if_icmp .ne 35, 3) := by decide +kernel
theorem dX7_isAsSeen_90 : decode cX7_isAsSeen 90 = .ok (.aload_n 0, 1) := by decide +kernel
theorem dX7_isAsSeen_91 : decode cX7_isAsSeen 91 = .ok (.sipush 220, 3) := by decide +kernel
theorem dX7_isAsSeen_94 : decode cX7_isAsSeen 94 = .ok (.aload_n 0, 1) := by decide +kernel
theorem dX7_isAsSeen_95 : decode cX7_isAsSeen 95 = .ok (.getfield 34, 3) := by decide +kernel
theorem dX7_isAsSeen_98 : decode cX7_isAsSeen 98 = .ok (.iconst 3, 1) := by decide +kernel
theorem dX7_isAsSeen_99 : decode cX7_isAsSeen 99 = .ok (.iload 4, 2) := by decide +kernel
theorem dX7_isAsSeen_101 : decode cX7_isAsSeen 101 = .ok (.imul, 1) := by decide +kernel
theorem dX7_isAsSeen_102 : decode cX7_isAsSeen 102 = .ok (.iconst 1, 1) := by decide +kernel
theorem dX7_isAsSeen_103 : decode cX7_isAsSeen 103 = .ok (.iadd, 1) := by decide +kernel
theorem dX7_isAsSeen_104 : decode cX7_isAsSeen 104 = .ok (.iaload, 1) := by decide +kernel
theorem dX7_isAsSeen_105 : decode cX7_isAsSeen 105 = .ok (.invokevirtual 185, 3) := by decide +kernel
theorem dX7_isAsSeen_108 : decode cX7_isAsSeen 108 = .ok (.aload_n 0, 1) := by decide +kernel
theorem dX7_isAsSeen_109 : decode cX7_isAsSeen 109 = .ok (.getfield 34, 3) := by decide +kernel
theorem dX7_isAsSeen_112 : decode cX7_isAsSeen 112 = .ok (.iconst 3, 1) := by decide +kernel
theorem dX7_isAsSeen_113 : decode cX7_isAsSeen 113 = .ok (.iload 4, 2) := by decide +kernel
theorem dX7_isAsSeen_115 : decode cX7_isAsSeen 115 = .ok (.imul, 1) := by decide +kernel
theorem dX7_isAsSeen_116 : decode cX7_isAsSeen 116 = .ok (.iconst 2, 1) := by decide +kernel
theorem dX7_isAsSeen_117 : decode cX7_isAsSeen 117 = .ok (.iadd, 1) := by decide +kernel
theorem dX7_isAsSeen_118 : decode cX7_isAsSeen 118 = .ok (.iaload, 1) := by decide +kernel
theorem dX7_isAsSeen_119 : decode cX7_isAsSeen 119 = .ok (.if_icmp .ne 7, 3) := by decide +kernel
theorem dX7_isAsSeen_122 : decode cX7_isAsSeen 122 = .ok (.iconst 1, 1) := by decide +kernel
theorem dX7_isAsSeen_123 : decode cX7_isAsSeen 123 = .ok (.goto 4, 3) := by decide +kernel
theorem dX7_isAsSeen_126 : decode cX7_isAsSeen 126 = .ok (.iconst 0, 1) := by decide +kernel
theorem dX7_isAsSeen_127 : decode cX7_isAsSeen 127 = .ok (.istore_n 2, 1) := by decide +kernel
theorem dX7_isAsSeen_128 : decode cX7_isAsSeen 128 = .ok (.iinc 4 1, 3) := by decide +kernel
theorem dX7_isAsSeen_131 : decode cX7_isAsSeen 131 = .ok (.goto (-67), 3) := by decide +kernel
theorem dX7_isAsSeen_134 : decode cX7_isAsSeen 134 = .ok (.aload_n 0, 1) := by decide +kernel
theorem dX7_isAsSeen_135 : decode cX7_isAsSeen 135 = .ok (.sipush 220, 3) := by decide +kernel
theorem dX7_isAsSeen_138 : decode cX7_isAsSeen 138 = .ok (.iconst 1, 1) := by decide +kernel
theorem dX7_isAsSeen_139 : decode cX7_isAsSeen 139 = .ok (.invokevirtual 208, 3) := by decide +kernel
theorem dX7_isAsSeen_142 : decode cX7_isAsSeen 142 = .ok (.iinc 3 1, 3) := by decide +kernel
theorem dX7_isAsSeen_145 : decode cX7_isAsSeen 145 = .ok (.goto (-133), 3) := by decide +kernel
theorem dX7_isAsSeen_148 : decode cX7_isAsSeen 148 = .ok (.iload_n 2, 1) := by decide +kernel
theorem dX7_isAsSeen_149 : decode cX7_isAsSeen 149 = .ok (.ireturn, 1) := by decide +kernel
theorem dX7_kindsOf_0 : decode cX7_kindsOf 0 = .ok (.aload_n 0, 1) := by decide +kernel
theorem dX7_kindsOf_1 : decode cX7_kindsOf 1 = .ok (.getfield 7, 3) := by decide +kernel
theorem dX7_kindsOf_4 : decode cX7_kindsOf 4 = .ok (.iload_n 1, 1) := by decide +kernel
theorem dX7_kindsOf_5 : decode cX7_kindsOf 5 = .ok (.iaload, 1) := by decide +kernel
theorem dX7_kindsOf_6 : decode cX7_kindsOf 6 = .ok (.istore_n 2, 1) := by decide +kernel
theorem dX7_kindsOf_7 : decode cX7_kindsOf 7 = .ok (.iconst 0, 1) := by decide +kernel
theorem dX7_kindsOf_8 : decode cX7_kindsOf 8 = .ok (.istore_n 3, 1) := by decide +kernel
theorem dX7_kindsOf_9 : decode cX7_kindsOf 9 = .ok (.iconst 0, 1) := by decide +kernel
theorem dX7_kindsOf_10 : decode cX7_kindsOf 10 = .ok (.istore 4, 2) := by decide +kernel
theorem dX7_kindsOf_12 : decode cX7_kindsOf 12 = .ok (.iload 4, 2) := by decide +kernel
theorem dX7_kindsOf_14 : decode cX7_kindsOf 14 = .ok (.iconst 4, 1) := by decide +kernel
theorem dX7_kindsOf_15 : decode cX7_kindsOf 15 = .ok (.if_icmp .ge 37, 3) := by decide +kernel
theorem dX7_kindsOf_18 : decode cX7_kindsOf 18 = .ok (.aload_n 0, 1) := by decide +kernel
theorem dX7_kindsOf_19 : decode cX7_kindsOf 19 = .ok (.getfield 7, 3) := by decide +kernel
theorem dX7_kindsOf_22 : decode cX7_kindsOf 22 = .ok (.iload_n 1, 1) := by decide +kernel
theorem dX7_kindsOf_23 : decode cX7_kindsOf 23 = .ok (.iload 4, 2) := by decide +kernel
theorem dX7_kindsOf_25 : decode cX7_kindsOf 25 = .ok (.iastore, 1) := by decide +kernel
theorem dX7_kindsOf_26 : decode cX7_kindsOf 26 = .ok (.iload_n 3, 1) := by decide +kernel
theorem dX7_kindsOf_27 : decode cX7_kindsOf 27 = .ok (.aload_n 0, 1) := by decide +kernel
theorem dX7_kindsOf_28 : decode cX7_kindsOf 28 = .ok (.iload 4, 2) := by decide +kernel
theorem dX7_kindsOf_30 : decode cX7_kindsOf 30 = .ok (.invokevirtual 255, 3) := by decide +kernel
theorem dX7_kindsOf_33 : decode cX7_kindsOf 33 = .ok (.ifCond .eq 10, 3) := by decide +kernel
theorem dX7_kindsOf_36 : decode cX7_kindsOf 36 = .ok (.iconst 1, 1) := by decide +kernel
theorem dX7_kindsOf_37 : decode cX7_kindsOf 37 = .ok (.iload 4, 2) := by decide +kernel
theorem dX7_kindsOf_39 : decode cX7_kindsOf 39 = .ok (.ishl, 1) := by decide +kernel
theorem dX7_kindsOf_40 : decode cX7_kindsOf 40 = .ok (.goto 4, 3) := by decide +kernel
theorem dX7_kindsOf_43 : decode cX7_kindsOf 43 = .ok (.iconst 0, 1) := by decide +kernel
theorem dX7_kindsOf_44 : decode cX7_kindsOf 44 = .ok (.ior, 1) := by decide +kernel
theorem dX7_kindsOf_45 : decode cX7_kindsOf 45 = .ok (.istore_n 3, 1) := by decide +kernel
theorem dX7_kindsOf_46 : decode cX7_kindsOf 46 = .ok (.iinc 4 1, 3) := by decide +kernel
theorem dX7_kindsOf_49 : decode cX7_kindsOf 49 = .ok (.goto (-37), 3) := by decide +kernel
theorem dX7_kindsOf_52 : decode cX7_kindsOf 52 = .ok (.aload_n 0, 1) := by decide +kernel
theorem dX7_kindsOf_53 : decode cX7_kindsOf 53 = .ok (.getfield 7, 3) := by decide +kernel
theorem dX7_kindsOf_56 : decode cX7_kindsOf 56 = .ok (.iload_n 1, 1) := by decide +kernel
theorem dX7_kindsOf_57 : decode cX7_kindsOf 57 = .ok (.iload_n 2, 1) := by decide +kernel
theorem dX7_kindsOf_58 : decode cX7_kindsOf 58 = .ok (.iastore, 1) := by decide +kernel
theorem dX7_kindsOf_59 : decode cX7_kindsOf 59 = .ok (.iload_n 3, 1) := by decide +kernel
theorem dX7_kindsOf_60 : decode cX7_kindsOf 60 = .ok (.ireturn, 1) := by decide +kernel
theorem dX7_kinds_0 : decode cX7_kinds 0 = .ok (.aload_n 0, 1) := by decide +kernel
theorem dX7_kinds_1 : decode cX7_kinds 1 = .ok (.iload_n 1, 1) := by decide +kernel
theorem dX7_kinds_2 : decode cX7_kinds 2 = .ok (.invokevirtual 176, 3) := by decide +kernel
theorem dX7_kinds_5 : decode cX7_kinds 5 = .ok (.ifCond .eq 11, 3) := by decide +kernel
theorem dX7_kinds_8 : decode cX7_kinds 8 = .ok (.aload_n 0, 1) := by decide +kernel
theorem dX7_kinds_9 : decode cX7_kinds 9 = .ok (.iload_n 1, 1) := by decide +kernel
theorem dX7_kinds_10 : decode cX7_kinds 10 = .ok (.invokevirtual 258, 3) := by decide +kernel
theorem dX7_kinds_13 : decode cX7_kinds 13 = .ok (.goto 4, 3) := by decide +kernel
theorem dX7_kinds_16 : decode cX7_kinds 16 = .ok (.iconst (-1), 1) := by decide +kernel
theorem dX7_kinds_17 : decode cX7_kinds 17 = .ok (.ireturn, 1) := by decide +kernel
theorem dX7_drops_0 : decode cX7_drops 0 = .ok (.aload_n 0, 1) := by decide +kernel
theorem dX7_drops_1 : decode cX7_drops 1 = .ok (.iload_n 1, 1) := by decide +kernel
theorem dX7_drops_2 : decode cX7_drops 2 = .ok (.invokevirtual 182, 3) := by decide +kernel
theorem dX7_drops_5 : decode cX7_drops 5 = .ok (.ifCond .eq 11, 3) := by decide +kernel
theorem dX7_drops_8 : decode cX7_drops 8 = .ok (.aload_n 0, 1) := by decide +kernel
theorem dX7_drops_9 : decode cX7_drops 9 = .ok (.iload_n 2, 1) := by decide +kernel
theorem dX7_drops_10 : decode cX7_drops 10 = .ok (.invokevirtual 176, 3) := by decide +kernel
theorem dX7_drops_13 : decode cX7_drops 13 = .ok (.ifCond .ne 5, 3) := by decide +kernel
theorem dX7_drops_16 : decode cX7_drops 16 = .ok (.iconst (-1), 1) := by decide +kernel
theorem dX7_drops_17 : decode cX7_drops 17 = .ok (.ireturn, 1) := by decide +kernel
theorem dX7_drops_18 : decode cX7_drops 18 = .ok (.bipush 33, 2) := by decide +kernel
theorem dX7_drops_20 : decode cX7_drops 20 = .ok (.iconst 5, 1) := by decide +kernel
theorem dX7_drops_21 : decode cX7_drops 21 = .ok (.iload_n 1, 1) := by decide +kernel
theorem dX7_drops_22 : decode cX7_drops 22 = .ok (.imul, 1) := by decide +kernel
theorem dX7_drops_23 : decode cX7_drops 23 = .ok (.iadd, 1) := by decide +kernel
theorem dX7_drops_24 : decode cX7_drops 24 = .ok (.iload_n 2, 1) := by decide +kernel
theorem dX7_drops_25 : decode cX7_drops 25 = .ok (.iadd, 1) := by decide +kernel
theorem dX7_drops_26 : decode cX7_drops 26 = .ok (.istore_n 3, 1) := by decide +kernel
theorem dX7_drops_27 : decode cX7_drops 27 = .ok (.aload_n 0, 1) := by decide +kernel
theorem dX7_drops_28 : decode cX7_drops 28 = .ok (.getfield 7, 3) := by decide +kernel
theorem dX7_drops_31 : decode cX7_drops 31 = .ok (.iload_n 3, 1) := by decide +kernel
theorem dX7_drops_32 : decode cX7_drops 32 = .ok (.iaload, 1) := by decide +kernel
theorem dX7_drops_33 : decode cX7_drops 33 = .ok (.istore 4, 2) := by decide +kernel
theorem dX7_drops_35 : decode cX7_drops 35 = .ok (.iconst 0, 1) := by decide +kernel
theorem dX7_drops_36 : decode cX7_drops 36 = .ok (.istore 5, 2) := by decide +kernel
theorem dX7_drops_38 : decode cX7_drops 38 = .ok (.iconst 0, 1) := by decide +kernel
theorem dX7_drops_39 : decode cX7_drops 39 = .ok (.istore 6, 2) := by decide +kernel
theorem dX7_drops_41 : decode cX7_drops 41 = .ok (.iload 6, 2) := by decide +kernel
theorem dX7_drops_43 : decode cX7_drops 43 = .ok (.bipush 30, 2) := by decide +kernel
theorem dX7_drops_45 : decode cX7_drops 45 = .ok (.if_icmp .gt 38, 3) := by decide +kernel
theorem dX7_drops_48 : decode cX7_drops 48 = .ok (.aload_n 0, 1) := by decide +kernel
theorem dX7_drops_49 : decode cX7_drops 49 = .ok (.getfield 7, 3) := by decide +kernel
theorem dX7_drops_52 : decode cX7_drops 52 = .ok (.iload_n 3, 1) := by decide +kernel
theorem dX7_drops_53 : decode cX7_drops 53 = .ok (.iload 6, 2) := by decide +kernel
theorem dX7_drops_55 : decode cX7_drops 55 = .ok (.iastore, 1) := by decide +kernel
theorem dX7_drops_56 : decode cX7_drops 56 = .ok (.iload 5, 2) := by decide +kernel
theorem dX7_drops_58 : decode cX7_drops 58 = .ok (.aload_n 0, 1) := by decide +kernel
theorem dX7_drops_59 : decode cX7_drops 59 = .ok (.iconst 0, 1) := by decide +kernel
theorem dX7_drops_60 : decode cX7_drops 60 = .ok (.invokevirtual 255, 3) := by decide +kernel
theorem dX7_drops_63 : decode cX7_drops 63 = .ok (.ifCond .eq 10, 3) := by decide +kernel
theorem dX7_drops_66 : decode cX7_drops 66 = .ok (.iconst 1, 1) := by decide +kernel
theorem dX7_drops_67 : decode cX7_drops 67 = .ok (.iload 6, 2) := by decide +kernel
theorem dX7_drops_69 : decode cX7_drops 69 = .ok (.ishl, 1) := by decide +kernel
theorem dX7_drops_70 : decode cX7_drops 70 = .ok (.goto 4, 3) := by decide +kernel
theorem dX7_drops_73 : decode cX7_drops 73 = .ok (.iconst 0, 1) := by decide +kernel
theorem dX7_drops_74 : decode cX7_drops 74 = .ok (.ior, 1) := by decide +kernel
theorem dX7_drops_75 : decode cX7_drops 75 = .ok (.istore 5, 2) := by decide +kernel
theorem dX7_drops_77 : decode cX7_drops 77 = .ok (.iinc 6 1, 3) := by decide +kernel
theorem dX7_drops_80 : decode cX7_drops 80 = .ok (.goto (-39), 3) := by decide +kernel
theorem dX7_drops_83 : decode cX7_drops 83 = .ok (.aload_n 0, 1) := by decide +kernel
theorem dX7_drops_84 : decode cX7_drops 84 = .ok (.getfield 7, 3) := by decide +kernel
theorem dX7_drops_87 : decode cX7_drops 87 = .ok (.iload_n 3, 1) := by decide +kernel
theorem dX7_drops_88 : decode cX7_drops 88 = .ok (.iload 4, 2) := by decide +kernel
theorem dX7_drops_90 : decode cX7_drops 90 = .ok (.iastore, 1) := by decide +kernel
theorem dX7_drops_91 : decode cX7_drops 91 = .ok (.iload 5, 2) := by decide +kernel
theorem dX7_drops_93 : decode cX7_drops 93 = .ok (.ireturn, 1) := by decide +kernel
theorem dX7_ask_0 : decode cX7_ask 0 = .ok (.aload_n 0, 1) := by decide +kernel
theorem dX7_ask_1 : decode cX7_ask 1 = .ok (.iload_n 1, 1) := by decide +kernel
theorem dX7_ask_2 : decode cX7_ask 2 = .ok (.invokevirtual 176, 3) := by decide +kernel
theorem dX7_ask_5 : decode cX7_ask 5 = .ok (.ifCond .eq 13, 3) := by decide +kernel
theorem dX7_ask_8 : decode cX7_ask 8 = .ok (.iload_n 2, 1) := by decide +kernel
theorem dX7_ask_9 : decode cX7_ask 9 = .ok (.i2l, 1) := by decide +kernel
theorem dX7_ask_10 : decode cX7_ask 10 = .ok (.lconst 0, 1) := by decide +kernel
theorem dX7_ask_11 : decode cX7_ask 11 = .ok (.lconst 1, 1) := by decide +kernel
theorem dX7_ask_12 : decode cX7_ask 12 = .ok (.invokestatic 55, 3) := by decide +kernel
theorem dX7_ask_15 : decode cX7_ask 15 = .ok (.ifCond .ne 5, 3) := by decide +kernel
theorem dX7_ask_18 : decode cX7_ask 18 = .ok (.iconst (-1), 1) := by decide +kernel
theorem dX7_ask_19 : decode cX7_ask 19 = .ok (.ireturn, 1) := by decide +kernel
theorem dX7_ask_20 : decode cX7_ask 20 = .ok (.aload_n 0, 1) := by decide +kernel
theorem dX7_ask_21 : decode cX7_ask 21 = .ok (.iload_n 1, 1) := by decide +kernel
theorem dX7_ask_22 : decode cX7_ask 22 = .ok (.invokevirtual 258, 3) := by decide +kernel
theorem dX7_ask_25 : decode cX7_ask 25 = .ok (.istore_n 3, 1) := by decide +kernel
theorem dX7_ask_26 : decode cX7_ask 26 = .ok (.iconst 0, 1) := by decide +kernel
theorem dX7_ask_27 : decode cX7_ask 27 = .ok (.istore 4, 2) := by decide +kernel
theorem dX7_ask_29 : decode cX7_ask 29 = .ok (.iconst 0, 1) := by decide +kernel
theorem dX7_ask_30 : decode cX7_ask 30 = .ok (.istore 5, 2) := by decide +kernel
theorem dX7_ask_32 : decode cX7_ask 32 = .ok (.iload 5, 2) := by decide +kernel
theorem dX7_ask_34 : decode cX7_ask 34 = .ok (.iconst 4, 1) := by decide +kernel
theorem dX7_ask_35 : decode cX7_ask 35 = .ok (.if_icmp .ge 20, 3) := by decide +kernel
theorem dX7_ask_38 : decode cX7_ask 38 = .ok (.iload 4, 2) := by decide +kernel
theorem dX7_ask_40 : decode cX7_ask 40 = .ok (.iload_n 3, 1) := by decide +kernel
theorem dX7_ask_41 : decode cX7_ask 41 = .ok (.iload 5, 2) := by decide +kernel
theorem dX7_ask_43 : decode cX7_ask 43 = .ok (.ishr, 1) := by decide +kernel
theorem dX7_ask_44 : decode cX7_ask 44 = .ok (.iconst 1, 1) := by decide +kernel
theorem dX7_ask_45 : decode cX7_ask 45 = .ok (.iand, 1) := by decide +kernel
theorem dX7_ask_46 : decode cX7_ask 46 = .ok (.iadd, 1) := by decide +kernel
theorem dX7_ask_47 : decode cX7_ask 47 = .ok (.istore 4, 2) := by decide +kernel
theorem dX7_ask_49 : decode cX7_ask 49 = .ok (.iinc 5 1, 3) := by decide +kernel
theorem dX7_ask_52 : decode cX7_ask 52 = .ok (.goto (-20), 3) := by decide +kernel
theorem dX7_ask_55 : decode cX7_ask 55 = .ok (.bipush (-4), 2) := by decide +kernel
theorem dX7_ask_57 : decode cX7_ask 57 = .ok (.istore 5, 2) := by decide +kernel
theorem dX7_ask_59 : decode cX7_ask 59 = .ok (.iconst 0, 1) := by decide +kernel
theorem dX7_ask_60 : decode cX7_ask 60 = .ok (.istore 6, 2) := by decide +kernel
theorem dX7_ask_62 : decode cX7_ask 62 = .ok (.iload 6, 2) := by decide +kernel
theorem dX7_ask_64 : decode cX7_ask 64 = .ok (.bipush 20, 2) := by decide +kernel
theorem dX7_ask_66 : decode cX7_ask 66 = .ok (.if_icmp .gt 186, 3) := by decide +kernel
theorem dX7_ask_69 : decode cX7_ask 69 = .ok (.iconst 0, 1) := by decide +kernel
theorem dX7_ask_70 : decode cX7_ask 70 = .ok (.istore 7, 2) := by decide +kernel
theorem dX7_ask_72 : decode cX7_ask 72 = .ok (.iload 7, 2) := by decide +kernel
theorem dX7_ask_74 : decode cX7_ask 74 = .ok (.aload_n 0, 1) := by decide +kernel
theorem dX7_ask_75 : decode cX7_ask 75 = .ok (.getfield 145, 3) := by decide +kernel
theorem dX7_ask_78 : decode cX7_ask 78 = .ok (.if_icmp .ge 168, 3) := by decide +kernel
theorem dX7_ask_81 : decode cX7_ask 81 = .ok (.iconst 0, 1) := by decide +kernel
theorem dX7_ask_82 : decode cX7_ask 82 = .ok (.istore 8, 2) := by decide +kernel
theorem dX7_ask_84 : decode cX7_ask 84 = .ok (.iconst 0, 1) := by decide +kernel
theorem dX7_ask_85 : decode cX7_ask 85 = .ok (.istore 9, 2) := by decide +kernel
theorem dX7_ask_87 : decode cX7_ask 87 = .ok (.iload 9, 2) := by decide +kernel
theorem dX7_ask_89 : decode cX7_ask 89 = .ok (.iconst 4, 1) := by decide +kernel
theorem dX7_ask_90 : decode cX7_ask 90 = .ok (.if_icmp .ge 112, 3) := by decide +kernel
theorem dX7_ask_93 : decode cX7_ask 93 = .ok (.iconst 0, 1) := by decide +kernel
theorem dX7_ask_94 : decode cX7_ask 94 = .ok (.istore 10, 2) := by decide +kernel
theorem dX7_ask_96 : decode cX7_ask 96 = .ok (.iconst 0, 1) := by decide +kernel
theorem dX7_ask_97 : decode cX7_ask 97 = .ok (.istore 11, 2) := by decide +kernel
theorem dX7_ask_99 : decode cX7_ask 99 = .ok (.iload 11, 2) := by decide +kernel
theorem dX7_ask_101 : decode cX7_ask 101 = .ok (.iconst 4, 1) := by decide +kernel
theorem dX7_ask_102 : decode cX7_ask 102 = .ok (.if_icmp .ge 78, 3) := by decide +kernel
theorem dX7_ask_105 : decode cX7_ask 105 = .ok (.iload_n 3, 1) := by decide +kernel
theorem dX7_ask_106 : decode cX7_ask 106 = .ok (.iload 9, 2) := by decide +kernel
theorem dX7_ask_108 : decode cX7_ask 108 = .ok (.ishr, 1) := by decide +kernel
theorem dX7_ask_109 : decode cX7_ask 109 = .ok (.iconst 1, 1) := by decide +kernel
theorem dX7_ask_110 : decode cX7_ask 110 = .ok (.iand, 1) := by decide +kernel
theorem dX7_ask_111 : decode cX7_ask 111 = .ok (.iconst 1, 1) := by decide +kernel
theorem dX7_ask_112 : decode cX7_ask 112 = .ok (.if_icmp .ne 68, 3) := by decide +kernel
theorem dX7_ask_115 : decode cX7_ask 115 = .ok (.iload 10, 2) := by decide +kernel
theorem dX7_ask_117 : decode cX7_ask 117 = .ok (.iload_n 3, 1) := by decide +kernel
theorem dX7_ask_118 : decode cX7_ask 118 = .ok (.iload 11, 2) := by decide +kernel
theorem dX7_ask_120 : decode cX7_ask 120 = .ok (.ishr, 1) := by decide +kernel
theorem dX7_ask_121 : decode cX7_ask 121 = .ok (.iconst 1, 1) := by decide +kernel
theorem dX7_ask_122 : decode cX7_ask 122 = .ok (.iand, 1) := by decide +kernel
theorem dX7_ask_123 : decode cX7_ask 123 = .ok (.iconst 1, 1) := by decide +kernel
theorem dX7_ask_124 : decode cX7_ask 124 = .ok (.if_icmp .ne 46, 3) := by decide +kernel
theorem dX7_ask_127 : decode cX7_ask 127 = .ok (.aload_n 0, 1) := by decide +kernel
theorem dX7_ask_128 : decode cX7_ask 128 = .ok (.getfield 37, 3) := by decide +kernel
theorem dX7_ask_131 : decode cX7_ask 131 = .ok (.bipush 84, 2) := by decide +kernel
theorem dX7_ask_133 : decode cX7_ask 133 = .ok (.iload 9, 2) := by decide +kernel
theorem dX7_ask_135 : decode cX7_ask 135 = .ok (.imul, 1) := by decide +kernel
theorem dX7_ask_136 : decode cX7_ask 136 = .ok (.iconst 4, 1) := by decide +kernel
theorem dX7_ask_137 : decode cX7_ask 137 = .ok (.iload 6, 2) := by decide +kernel
theorem dX7_ask_139 : decode cX7_ask 139 = .ok (.imul, 1) := by decide +kernel
theorem dX7_ask_140 : decode cX7_ask 140 = .ok (.iadd, 1) := by decide +kernel
theorem dX7_ask_141 : decode cX7_ask 141 = .ok (.iload 7, 2) := by decide +kernel
theorem dX7_ask_143 : decode cX7_ask 143 = .ok (.iadd, 1) := by decide +kernel
theorem dX7_ask_144 : decode cX7_ask 144 = .ok (.iaload, 1) := by decide +kernel
theorem dX7_ask_145 : decode cX7_ask 145 = .ok (.aload_n 0, 1) := by decide +kernel
theorem dX7_ask_146 : decode cX7_ask 146 = .ok (.getfield 37, 3) := by decide +kernel
theorem dX7_ask_149 : decode cX7_ask 149 = .ok (.bipush 84, 2) := by decide +kernel
theorem dX7_ask_151 : decode cX7_ask 151 = .ok (.iload 11, 2) := by decide +kernel
theorem dX7_ask_153 : decode cX7_ask 153 = .ok (.imul, 1) := by decide +kernel
theorem dX7_ask_154 : decode cX7_ask 154 = .ok (.iconst 4, 1) := by decide +kernel
theorem dX7_ask_155 : decode cX7_ask 155 = .ok (.iload 6, 2) := by decide +kernel
theorem dX7_ask_157 : decode cX7_ask 157 = .ok (.imul, 1) := by decide +kernel
theorem dX7_ask_158 : decode cX7_ask 158 = .ok (.iadd, 1) := by decide +kernel
theorem dX7_ask_159 : decode cX7_ask 159 = .ok (.iload 7, 2) := by decide +kernel
theorem dX7_ask_161 : decode cX7_ask 161 = .ok (.iadd, 1) := by decide +kernel
theorem dX7_ask_162 : decode cX7_ask 162 = .ok (.iaload, 1) := by decide +kernel
theorem dX7_ask_163 : decode cX7_ask 163 = .ok (.if_icmp .ne 7, 3) := by decide +kernel
theorem dX7_ask_166 : decode cX7_ask 166 = .ok (.iconst 1, 1) := by decide +kernel
theorem dX7_ask_167 : decode cX7_ask 167 = .ok (.goto 4, 3) := by decide +kernel
theorem dX7_ask_170 : decode cX7_ask 170 = .ok (.iconst 0, 1) := by decide +kernel
theorem dX7_ask_171 : decode cX7_ask 171 = .ok (.iadd, 1) := by decide +kernel
theorem dX7_ask_172 : decode cX7_ask 172 = .ok (.istore 10, 2) := by decide +kernel
theorem dX7_ask_174 : decode cX7_ask 174 = .ok (.iinc 11 1, 3) := by decide +kernel
theorem dX7_ask_177 : decode cX7_ask 177 = .ok (.goto (-78), 3) := by decide +kernel
theorem dX7_ask_180 : decode cX7_ask 180 = .ok (.iload 10, 2) := by decide +kernel
theorem dX7_ask_182 : decode cX7_ask 182 = .ok (.iload 8, 2) := by decide +kernel
theorem dX7_ask_184 : decode cX7_ask 184 = .ok (.if_icmp .le 8, 3) := by decide +kernel
theorem dX7_ask_187 : decode cX7_ask 187 = .ok (.iload 10, 2) := by decide +kernel
theorem dX7_ask_189 : decode cX7_ask 189 = .ok (.goto 5, 3) := by decide +kernel
theorem dX7_ask_192 : decode cX7_ask 192 = .ok (.iload 8, 2) := by decide +kernel
theorem dX7_ask_194 : decode cX7_ask 194 = .ok (.istore 8, 2) := by decide +kernel
theorem dX7_ask_196 : decode cX7_ask 196 = .ok (.iinc 9 1, 3) := by decide +kernel
theorem dX7_ask_199 : decode cX7_ask 199 = .ok (.goto (-112), 3) := by decide +kernel
theorem dX7_ask_202 : decode cX7_ask 202 = .ok (.iload 8, 2) := by decide +kernel
theorem dX7_ask_204 : decode cX7_ask 204 = .ok (.iload 4, 2) := by decide +kernel
theorem dX7_ask_206 : decode cX7_ask 206 = .ok (.if_icmp .ge 14, 3) := by decide +kernel
theorem dX7_ask_209 : decode cX7_ask 209 = .ok (.bipush 10, 2) := by decide +kernel
theorem dX7_ask_211 : decode cX7_ask 211 = .ok (.iload 6, 2) := by decide +kernel
theorem dX7_ask_213 : decode cX7_ask 213 = .ok (.imul, 1) := by decide +kernel
theorem dX7_ask_214 : decode cX7_ask 214 = .ok (.iload 7, 2) := by decide +kernel
theorem dX7_ask_216 : decode cX7_ask 216 = .ok (.iadd, 1) := by decide +kernel
theorem dX7_ask_217 : decode cX7_ask 217 = .ok (.goto 5, 3) := by decide +kernel
theorem dX7_ask_220 : decode cX7_ask 220 = .ok (.iload 5, 2) := by decide +kernel
theorem dX7_ask_222 : decode cX7_ask 222 = .ok (.istore 5, 2) := by decide +kernel
theorem dX7_ask_224 : decode cX7_ask 224 = .ok (.iload 8, 2) := by decide +kernel
theorem dX7_ask_226 : decode cX7_ask 226 = .ok (.iload 4, 2) := by decide +kernel
theorem dX7_ask_228 : decode cX7_ask 228 = .ok (.if_icmp .ge 8, 3) := by decide +kernel
theorem dX7_ask_231 : decode cX7_ask 231 = .ok (.iload 8, 2) := by decide +kernel
theorem dX7_ask_233 : decode cX7_ask 233 = .ok (.goto 5, 3) := by decide +kernel
theorem dX7_ask_236 : decode cX7_ask 236 = .ok (.iload 4, 2) := by decide +kernel
theorem dX7_ask_238 : decode cX7_ask 238 = .ok (.istore 4, 2) := by decide +kernel
theorem dX7_ask_240 : decode cX7_ask 240 = .ok (.iinc 7 1, 3) := by decide +kernel
theorem dX7_ask_243 : decode cX7_ask 243 = .ok (.goto (-171), 3) := by decide +kernel
theorem dX7_ask_246 : decode cX7_ask 246 = .ok (.iinc 6 1, 3) := by decide +kernel
theorem dX7_ask_249 : decode cX7_ask 249 = .ok (.goto (-187), 3) := by decide +kernel
theorem dX7_ask_252 : decode cX7_ask 252 = .ok (.iload 5, 2) := by decide +kernel
theorem dX7_ask_254 : decode cX7_ask 254 = .ok (.bipush (-4), 2) := by decide +kernel
theorem dX7_ask_256 : decode cX7_ask 256 = .ok (.if_icmp .eq 7, 3) := by decide +kernel
theorem dX7_ask_259 : decode cX7_ask 259 = .ok (.iload_n 2, 1) := by decide +kernel
theorem dX7_ask_260 : decode cX7_ask 260 = .ok (.ifCond .ne 8, 3) := by decide +kernel
theorem dX7_ask_263 : decode cX7_ask 263 = .ok (.iload 5, 2) := by decide +kernel
theorem dX7_ask_265 : decode cX7_ask 265 = .ok (.goto 5, 3) := by decide +kernel
theorem dX7_ask_268 : decode cX7_ask 268 = .ok (.iload 4, 2) := by decide +kernel
theorem dX7_ask_270 : decode cX7_ask 270 = .ok (.ireturn, 1) := by decide +kernel
theorem dX7_drift_0 : decode cX7_drift 0 = .ok (.iload_n 2, 1) := by decide +kernel
theorem dX7_drift_1 : decode cX7_drift 1 = .ok (.i2l, 1) := by decide +kernel
theorem dX7_drift_2 : decode cX7_drift 2 = .ok (.lconst 1, 1) := by decide +kernel
theorem dX7_drift_3 : decode cX7_drift 3 = .ok (.ldc2_w 218, 3) := by decide +kernel
theorem dX7_drift_6 : decode cX7_drift 6 = .ok (.invokestatic 55, 3) := by decide +kernel
theorem dX7_drift_9 : decode cX7_drift 9 = .ok (.ifCond .eq 13, 3) := by decide +kernel
theorem dX7_drift_12 : decode cX7_drift 12 = .ok (.iload_n 3, 1) := by decide +kernel
theorem dX7_drift_13 : decode cX7_drift 13 = .ok (.i2l, 1) := by decide +kernel
theorem dX7_drift_14 : decode cX7_drift 14 = .ok (.lconst 0, 1) := by decide +kernel
theorem dX7_drift_15 : decode cX7_drift 15 = .ok (.lconst 1, 1) := by decide +kernel
theorem dX7_drift_16 : decode cX7_drift 16 = .ok (.invokestatic 55, 3) := by decide +kernel
theorem dX7_drift_19 : decode cX7_drift 19 = .ok (.ifCond .ne 5, 3) := by decide +kernel
theorem dX7_drift_22 : decode cX7_drift 22 = .ok (.iconst (-1), 1) := by decide +kernel
theorem dX7_drift_23 : decode cX7_drift 23 = .ok (.ireturn, 1) := by decide +kernel
theorem dX7_drift_24 : decode cX7_drift 24 = .ok (.aload_n 0, 1) := by decide +kernel
theorem dX7_drift_25 : decode cX7_drift 25 = .ok (.getfield 142, 3) := by decide +kernel
theorem dX7_drift_28 : decode cX7_drift 28 = .ok (.ifCond .eq 10, 3) := by decide +kernel
theorem dX7_drift_31 : decode cX7_drift 31 = .ok (.aload_n 0, 1) := by decide +kernel
theorem dX7_drift_32 : decode cX7_drift 32 = .ok (.getfield 145, 3) := by decide +kernel
theorem dX7_drift_35 : decode cX7_drift 35 = .ok (.ifCond .ne 6, 3) := by decide +kernel
theorem dX7_drift_38 : decode cX7_drift 38 = .ok (.bipush (-2), 2) := by decide +kernel
theorem dX7_drift_40 : decode cX7_drift 40 = .ok (.ireturn, 1) := by decide +kernel
theorem dX7_drift_41 : decode cX7_drift 41 = .ok (.aload_n 0, 1) := by decide +kernel
theorem dX7_drift_42 : decode cX7_drift 42 = .ok (.iconst 0, 1) := by decide +kernel
theorem dX7_drift_43 : decode cX7_drift 43 = .ok (.sipush 220, 3) := by decide +kernel
theorem dX7_drift_46 : decode cX7_drift 46 = .ok (.invokevirtual 212, 3) := by decide +kernel
theorem dX7_drift_49 : decode cX7_drift 49 = .ok (.iload_n 1, 1) := by decide +kernel
theorem dX7_drift_50 : decode cX7_drift 50 = .ok (.istore 4, 2) := by decide +kernel
theorem dX7_drift_52 : decode cX7_drift 52 = .ok (.iconst 0, 1) := by decide +kernel
theorem dX7_drift_53 : decode cX7_drift 53 = .ok (.istore 5, 2) := by decide +kernel
theorem dX7_drift_55 : decode cX7_drift 55 = .ok (.iload 5, 2) := by decide +kernel
theorem dX7_drift_57 : decode cX7_drift 57 = .ok (.iload_n 2, 1) := by decide +kernel
theorem dX7_drift_58 : decode cX7_drift 58 = .ok (.if_icmp .ge 75, 3) := by decide +kernel
theorem dX7_drift_61 : decode cX7_drift 61 = .ok (.iload 4, 2) := by decide +kernel
theorem dX7_drift_63 : decode cX7_drift 63 = .ok (.ldc_w 261, 3) := by decide +kernel
theorem dX7_drift_66 : decode cX7_drift 66 = .ok (.imul, 1) := by decide +kernel
theorem dX7_drift_67 : decode cX7_drift 67 = .ok (.sipush 12345, 3) := by decide +kernel
theorem dX7_drift_70 : decode cX7_drift 70 = .ok (.iadd, 1) := by decide +kernel
theorem dX7_drift_71 : decode cX7_drift 71 = .ok (.istore 4, 2) := by decide +kernel
theorem dX7_drift_73 : decode cX7_drift 73 = .ok (.iload 4, 2) := by decide +kernel
theorem dX7_drift_75 : decode cX7_drift 75 = .ok (.bipush 16, 2) := by decide +kernel
theorem dX7_drift_77 : decode cX7_drift 77 = .ok (.ishr, 1) := by decide +kernel
theorem dX7_drift_78 : decode cX7_drift 78 = .ok (.sipush 32767, 3) := by decide +kernel
theorem dX7_drift_81 : decode cX7_drift 81 = .ok (.iand, 1) := by decide +kernel
theorem dX7_drift_82 : decode cX7_drift 82 = .ok (.istore 6, 2) := by decide +kernel
theorem dX7_drift_84 : decode cX7_drift 84 = .ok (.aload_n 0, 1) := by decide +kernel
theorem dX7_drift_85 : decode cX7_drift 85 = .ok (.sipush 220, 3) := by decide +kernel
theorem dX7_drift_88 : decode cX7_drift 88 = .ok (.iload 6, 2) := by decide +kernel
theorem dX7_drift_90 : decode cX7_drift 90 = .ok (.aload_n 0, 1) := by decide +kernel
theorem dX7_drift_91 : decode cX7_drift 91 = .ok (.getfield 145, 3) := by decide +kernel
theorem dX7_drift_94 : decode cX7_drift 94 = .ok (.irem, 1) := by decide +kernel
theorem dX7_drift_95 : decode cX7_drift 95 = .ok (.iload 6, 2) := by decide +kernel
theorem dX7_drift_97 : decode cX7_drift 97 = .ok (.bipush 8, 2) := by decide +kernel
theorem dX7_drift_99 : decode cX7_drift 99 = .ok (.idiv, 1) := by decide +kernel
theorem dX7_drift_100 : decode cX7_drift 100 = .ok (.aload_n 0, 1) := by decide +kernel
theorem dX7_drift_101 : decode cX7_drift 101 = .ok (.getfield 142, 3) := by decide +kernel
theorem dX7_drift_104 : decode cX7_drift 104 = .ok (.irem, 1) := by decide +kernel
theorem dX7_drift_105 : decode cX7_drift 105 = .ok (.iconst 1, 1) := by decide +kernel
theorem dX7_drift_106 : decode cX7_drift 106 = .ok (.iload 6, 2) := by decide +kernel
theorem dX7_drift_108 : decode cX7_drift 108 = .ok (.bipush 64, 2) := by decide +kernel
theorem dX7_drift_110 : decode cX7_drift 110 = .ok (.idiv, 1) := by decide +kernel
theorem dX7_drift_111 : decode cX7_drift 111 = .ok (.bipush 9, 2) := by decide +kernel
theorem dX7_drift_113 : decode cX7_drift 113 = .ok (.irem, 1) := by decide +kernel
theorem dX7_drift_114 : decode cX7_drift 114 = .ok (.iadd, 1) := by decide +kernel
theorem dX7_drift_115 : decode cX7_drift 115 = .ok (.invokevirtual 199, 3) := by decide +kernel
theorem dX7_drift_118 : decode cX7_drift 118 = .ok (.pop, 1) := by decide +kernel
theorem dX7_drift_119 : decode cX7_drift 119 = .ok (.aload_n 0, 1) := by decide +kernel
theorem dX7_drift_120 : decode cX7_drift 120 = .ok (.sipush 220, 3) := by decide +kernel
theorem dX7_drift_123 : decode cX7_drift 123 = .ok (.iconst 1, 1) := by decide +kernel
theorem dX7_drift_124 : decode cX7_drift 124 = .ok (.invokevirtual 208, 3) := by decide +kernel
theorem dX7_drift_127 : decode cX7_drift 127 = .ok (.iinc 5 1, 3) := by decide +kernel
theorem dX7_drift_130 : decode cX7_drift 130 = .ok (.goto (-75), 3) := by decide +kernel
theorem dX7_drift_133 : decode cX7_drift 133 = .ok (.iload_n 3, 1) := by decide +kernel
theorem dX7_drift_134 : decode cX7_drift 134 = .ok (.ifCond .ne 13, 3) := by decide +kernel
theorem dX7_drift_137 : decode cX7_drift 137 = .ok (.aload_n 0, 1) := by decide +kernel
theorem dX7_drift_138 : decode cX7_drift 138 = .ok (.sipush 220, 3) := by decide +kernel
theorem dX7_drift_141 : decode cX7_drift 141 = .ok (.invokevirtual 173, 3) := by decide +kernel
theorem dX7_drift_144 : decode cX7_drift 144 = .ok (.goto 19, 3) := by decide +kernel
theorem dX7_drift_147 : decode cX7_drift 147 = .ok (.aload_n 0, 1) := by decide +kernel
theorem dX7_drift_148 : decode cX7_drift 148 = .ok (.getfield 7, 3) := by decide +kernel
theorem dX7_drift_151 : decode cX7_drift 151 = .ok (.sipush 274, 3) := by decide +kernel
theorem dX7_drift_154 : decode cX7_drift 154 = .ok (.iaload, 1) := by decide +kernel
theorem dX7_drift_155 : decode cX7_drift 155 = .ok (.aload_n 0, 1) := by decide +kernel
theorem dX7_drift_156 : decode cX7_drift 156 = .ok (.getfield 7, 3) := by decide +kernel
theorem dX7_drift_159 : decode cX7_drift 159 = .ok (.bipush 54, 2) := by decide +kernel
theorem dX7_drift_161 : decode cX7_drift 161 = .ok (.iaload, 1) := by decide +kernel
theorem dX7_drift_162 : decode cX7_drift 162 = .ok (.isub, 1) := by decide +kernel
theorem dX7_drift_163 : decode cX7_drift 163 = .ok (.ireturn, 1) := by decide +kernel
theorem dX7_keep_0 : decode cX7_keep 0 = .ok (.iload_n 1, 1) := by decide +kernel
theorem dX7_keep_1 : decode cX7_keep 1 = .ok (.i2l, 1) := by decide +kernel
theorem dX7_keep_2 : decode cX7_keep 2 = .ok (.lconst 0, 1) := by decide +kernel
theorem dX7_keep_3 : decode cX7_keep 3 = .ok (.lconst 1, 1) := by decide +kernel
theorem dX7_keep_4 : decode cX7_keep 4 = .ok (.invokestatic 55, 3) := by decide +kernel
theorem dX7_keep_7 : decode cX7_keep 7 = .ok (.ifCond .ne 5, 3) := by decide +kernel
theorem dX7_keep_10 : decode cX7_keep 10 = .ok (.iconst (-1), 1) := by decide +kernel
theorem dX7_keep_11 : decode cX7_keep 11 = .ok (.ireturn, 1) := by decide +kernel
theorem dX7_keep_12 : decode cX7_keep 12 = .ok (.aload_n 0, 1) := by decide +kernel
theorem dX7_keep_13 : decode cX7_keep 13 = .ok (.iconst 0, 1) := by decide +kernel
theorem dX7_keep_14 : decode cX7_keep 14 = .ok (.bipush 55, 2) := by decide +kernel
theorem dX7_keep_16 : decode cX7_keep 16 = .ok (.iload_n 1, 1) := by decide +kernel
theorem dX7_keep_17 : decode cX7_keep 17 = .ok (.iconst 1, 1) := by decide +kernel
theorem dX7_keep_18 : decode cX7_keep 18 = .ok (.iadd, 1) := by decide +kernel
theorem dX7_keep_19 : decode cX7_keep 19 = .ok (.imul, 1) := by decide +kernel
theorem dX7_keep_20 : decode cX7_keep 20 = .ok (.invokevirtual 212, 3) := by decide +kernel
theorem dX7_keep_23 : decode cX7_keep 23 = .ok (.aload_n 0, 1) := by decide +kernel
theorem dX7_keep_24 : decode cX7_keep 24 = .ok (.getfield 40, 3) := by decide +kernel
theorem dX7_keep_27 : decode cX7_keep 27 = .ok (.iload_n 1, 1) := by decide +kernel
theorem dX7_keep_28 : decode cX7_keep 28 = .ok (.baload, 1) := by decide +kernel
theorem dX7_keep_29 : decode cX7_keep 29 = .ok (.ifCond .eq 7, 3) := by decide +kernel
theorem dX7_keep_32 : decode cX7_keep 32 = .ok (.iconst 1, 1) := by decide +kernel
theorem dX7_keep_33 : decode cX7_keep 33 = .ok (.goto 4, 3) := by decide +kernel
theorem dX7_keep_36 : decode cX7_keep 36 = .ok (.iconst 0, 1) := by decide +kernel
theorem dX7_keep_37 : decode cX7_keep 37 = .ok (.istore_n 2, 1) := by decide +kernel
theorem dX7_keep_38 : decode cX7_keep 38 = .ok (.aload_n 0, 1) := by decide +kernel
theorem dX7_keep_39 : decode cX7_keep 39 = .ok (.getfield 40, 3) := by decide +kernel
theorem dX7_keep_42 : decode cX7_keep 42 = .ok (.iload_n 1, 1) := by decide +kernel
theorem dX7_keep_43 : decode cX7_keep 43 = .ok (.iconst 1, 1) := by decide +kernel
theorem dX7_keep_44 : decode cX7_keep 44 = .ok (.bastore, 1) := by decide +kernel
theorem dX7_keep_45 : decode cX7_keep 45 = .ok (.iload_n 2, 1) := by decide +kernel
theorem dX7_keep_46 : decode cX7_keep 46 = .ok (.ireturn, 1) := by decide +kernel
theorem dX7_back_0 : decode cX7_back 0 = .ok (.iload_n 1, 1) := by decide +kernel
theorem dX7_back_1 : decode cX7_back 1 = .ok (.i2l, 1) := by decide +kernel
theorem dX7_back_2 : decode cX7_back 2 = .ok (.lconst 0, 1) := by decide +kernel
theorem dX7_back_3 : decode cX7_back 3 = .ok (.lconst 1, 1) := by decide +kernel
theorem dX7_back_4 : decode cX7_back 4 = .ok (.invokestatic 55, 3) := by decide +kernel
theorem dX7_back_7 : decode cX7_back 7 = .ok (.ifCond .ne 5, 3) := by decide +kernel
theorem dX7_back_10 : decode cX7_back 10 = .ok (.iconst (-1), 1) := by decide +kernel
theorem dX7_back_11 : decode cX7_back 11 = .ok (.ireturn, 1) := by decide +kernel
theorem dX7_back_12 : decode cX7_back 12 = .ok (.aload_n 0, 1) := by decide +kernel
theorem dX7_back_13 : decode cX7_back 13 = .ok (.getfield 40, 3) := by decide +kernel
theorem dX7_back_16 : decode cX7_back 16 = .ok (.iload_n 1, 1) := by decide +kernel
theorem dX7_back_17 : decode cX7_back 17 = .ok (.baload, 1) := by decide +kernel
theorem dX7_back_18 : decode cX7_back 18 = .ok (.ifCond .ne 6, 3) := by decide +kernel
theorem dX7_back_21 : decode cX7_back 21 = .ok (.bipush (-2), 2) := by decide +kernel
theorem dX7_back_23 : decode cX7_back 23 = .ok (.ireturn, 1) := by decide +kernel
theorem dX7_back_24 : decode cX7_back 24 = .ok (.aload_n 0, 1) := by decide +kernel
theorem dX7_back_25 : decode cX7_back 25 = .ok (.bipush 55, 2) := by decide +kernel
theorem dX7_back_27 : decode cX7_back 27 = .ok (.iload_n 1, 1) := by decide +kernel
theorem dX7_back_28 : decode cX7_back 28 = .ok (.iconst 1, 1) := by decide +kernel
theorem dX7_back_29 : decode cX7_back 29 = .ok (.iadd, 1) := by decide +kernel
theorem dX7_back_30 : decode cX7_back 30 = .ok (.imul, 1) := by decide +kernel
theorem dX7_back_31 : decode cX7_back 31 = .ok (.iconst 0, 1) := by decide +kernel
theorem dX7_back_32 : decode cX7_back 32 = .ok (.invokevirtual 212, 3) := by decide +kernel
theorem dX7_back_35 : decode cX7_back 35 = .ok (.aload_n 0, 1) := by decide +kernel
theorem dX7_back_36 : decode cX7_back 36 = .ok (.getfield 7, 3) := by decide +kernel
theorem dX7_back_39 : decode cX7_back 39 = .ok (.bipush 53, 2) := by decide +kernel
theorem dX7_back_41 : decode cX7_back 41 = .ok (.iaload, 1) := by decide +kernel
theorem dX7_back_42 : decode cX7_back 42 = .ok (.ireturn, 1) := by decide +kernel
theorem dX7_sheet_0 : decode cX7_sheet 0 = .ok (.iload_n 1, 1) := by decide +kernel
theorem dX7_sheet_1 : decode cX7_sheet 1 = .ok (.i2l, 1) := by decide +kernel
theorem dX7_sheet_2 : decode cX7_sheet 2 = .ok (.lconst 0, 1) := by decide +kernel
theorem dX7_sheet_3 : decode cX7_sheet 3 = .ok (.ldc2_w 220, 3) := by decide +kernel
theorem dX7_sheet_6 : decode cX7_sheet 6 = .ok (.invokestatic 55, 3) := by decide +kernel
theorem dX7_sheet_9 : decode cX7_sheet 9 = .ok (.ifCond .eq 21, 3) := by decide +kernel
theorem dX7_sheet_12 : decode cX7_sheet 12 = .ok (.iload_n 2, 1) := by decide +kernel
theorem dX7_sheet_13 : decode cX7_sheet 13 = .ok (.i2l, 1) := by decide +kernel
theorem dX7_sheet_14 : decode cX7_sheet 14 = .ok (.lconst 0, 1) := by decide +kernel
theorem dX7_sheet_15 : decode cX7_sheet 15 = .ok (.ldc2_w 225, 3) := by decide +kernel
theorem dX7_sheet_18 : decode cX7_sheet 18 = .ok (.invokestatic 55, 3) := by decide +kernel
theorem dX7_sheet_21 : decode cX7_sheet 21 = .ok (.ifCond .eq 9, 3) := by decide +kernel
theorem dX7_sheet_24 : decode cX7_sheet 24 = .ok (.iload_n 3, 1) := by decide +kernel
theorem dX7_sheet_25 : decode cX7_sheet 25 = .ok (.bipush 40, 2) := by decide +kernel
theorem dX7_sheet_27 : decode cX7_sheet 27 = .ok (.if_icmp .le 5, 3) := by decide +kernel
theorem dX7_sheet_30 : decode cX7_sheet 30 = .ok (.iconst (-1), 1) := by decide +kernel
theorem dX7_sheet_31 : decode cX7_sheet 31 = .ok (.ireturn, 1) := by decide +kernel
theorem dX7_sheet_32 : decode cX7_sheet 32 = .ok (.iload_n 3, 1) := by decide +kernel
theorem dX7_sheet_33 : decode cX7_sheet 33 = .ok (.ifCond .ge 6, 3) := by decide +kernel
theorem dX7_sheet_36 : decode cX7_sheet 36 = .ok (.bipush (-14), 2) := by decide +kernel
theorem dX7_sheet_38 : decode cX7_sheet 38 = .ok (.ireturn, 1) := by decide +kernel
theorem dX7_sheet_39 : decode cX7_sheet 39 = .ok (.aload_n 0, 1) := by decide +kernel
theorem dX7_sheet_40 : decode cX7_sheet 40 = .ok (.getfield 44, 3) := by decide +kernel
theorem dX7_sheet_43 : decode cX7_sheet 43 = .ok (.iload_n 1, 1) := by decide +kernel
theorem dX7_sheet_44 : decode cX7_sheet 44 = .ok (.iload_n 2, 1) := by decide +kernel
theorem dX7_sheet_45 : decode cX7_sheet 45 = .ok (.iastore, 1) := by decide +kernel
theorem dX7_sheet_46 : decode cX7_sheet 46 = .ok (.aload_n 0, 1) := by decide +kernel
theorem dX7_sheet_47 : decode cX7_sheet 47 = .ok (.getfield 47, 3) := by decide +kernel
theorem dX7_sheet_50 : decode cX7_sheet 50 = .ok (.iload_n 1, 1) := by decide +kernel
theorem dX7_sheet_51 : decode cX7_sheet 51 = .ok (.iload_n 3, 1) := by decide +kernel
theorem dX7_sheet_52 : decode cX7_sheet 52 = .ok (.iastore, 1) := by decide +kernel
theorem dX7_sheet_53 : decode cX7_sheet 53 = .ok (.iconst 0, 1) := by decide +kernel
theorem dX7_sheet_54 : decode cX7_sheet 54 = .ok (.istore 4, 2) := by decide +kernel
theorem dX7_sheet_56 : decode cX7_sheet 56 = .ok (.iload 4, 2) := by decide +kernel
theorem dX7_sheet_58 : decode cX7_sheet 58 = .ok (.bipush 40, 2) := by decide +kernel
theorem dX7_sheet_60 : decode cX7_sheet 60 = .ok (.if_icmp .ge 22, 3) := by decide +kernel
theorem dX7_sheet_63 : decode cX7_sheet 63 = .ok (.aload_n 0, 1) := by decide +kernel
theorem dX7_sheet_64 : decode cX7_sheet 64 = .ok (.getfield 50, 3) := by decide +kernel
theorem dX7_sheet_67 : decode cX7_sheet 67 = .ok (.bipush 40, 2) := by decide +kernel
theorem dX7_sheet_69 : decode cX7_sheet 69 = .ok (.iload_n 1, 1) := by decide +kernel
theorem dX7_sheet_70 : decode cX7_sheet 70 = .ok (.imul, 1) := by decide +kernel
theorem dX7_sheet_71 : decode cX7_sheet 71 = .ok (.iload 4, 2) := by decide +kernel
theorem dX7_sheet_73 : decode cX7_sheet 73 = .ok (.iadd, 1) := by decide +kernel
theorem dX7_sheet_74 : decode cX7_sheet 74 = .ok (.iconst 0, 1) := by decide +kernel
theorem dX7_sheet_75 : decode cX7_sheet 75 = .ok (.iastore, 1) := by decide +kernel
theorem dX7_sheet_76 : decode cX7_sheet 76 = .ok (.iinc 4 1, 3) := by decide +kernel
theorem dX7_sheet_79 : decode cX7_sheet 79 = .ok (.goto (-23), 3) := by decide +kernel
theorem dX7_sheet_82 : decode cX7_sheet 82 = .ok (.iconst 1, 1) := by decide +kernel
theorem dX7_sheet_83 : decode cX7_sheet 83 = .ok (.ireturn, 1) := by decide +kernel
theorem dX7_lay_0 : decode cX7_lay 0 = .ok (.iload_n 1, 1) := by decide +kernel
theorem dX7_lay_1 : decode cX7_lay 1 = .ok (.i2l, 1) := by decide +kernel
theorem dX7_lay_2 : decode cX7_lay 2 = .ok (.lconst 0, 1) := by decide +kernel
theorem dX7_lay_3 : decode cX7_lay 3 = .ok (.ldc2_w 220, 3) := by decide +kernel
theorem dX7_lay_6 : decode cX7_lay 6 = .ok (.invokestatic 55, 3) := by decide +kernel
theorem dX7_lay_9 : decode cX7_lay 9 = .ok (.ifCond .ne 5, 3) := by decide +kernel
theorem dX7_lay_12 : decode cX7_lay 12 = .ok (.iconst (-1), 1) := by decide +kernel
theorem dX7_lay_13 : decode cX7_lay 13 = .ok (.ireturn, 1) := by decide +kernel
theorem dX7_lay_14 : decode cX7_lay 14 = .ok (.aload_n 0, 1) := by decide +kernel
theorem dX7_lay_15 : decode cX7_lay 15 = .ok (.getfield 44, 3) := by decide +kernel
theorem dX7_lay_18 : decode cX7_lay 18 = .ok (.iload_n 1, 1) := by decide +kernel
theorem dX7_lay_19 : decode cX7_lay 19 = .ok (.iaload, 1) := by decide +kernel
theorem dX7_lay_20 : decode cX7_lay 20 = .ok (.bipush (-4), 2) := by decide +kernel
theorem dX7_lay_22 : decode cX7_lay 22 = .ok (.if_icmp .ne 6, 3) := by decide +kernel
theorem dX7_lay_25 : decode cX7_lay 25 = .ok (.bipush (-11), 2) := by decide +kernel
theorem dX7_lay_27 : decode cX7_lay 27 = .ok (.ireturn, 1) := by decide +kernel
theorem dX7_lay_28 : decode cX7_lay 28 = .ok (.iload_n 2, 1) := by decide +kernel
theorem dX7_lay_29 : decode cX7_lay 29 = .ok (.i2l, 1) := by decide +kernel
theorem dX7_lay_30 : decode cX7_lay 30 = .ok (.lconst 0, 1) := by decide +kernel
theorem dX7_lay_31 : decode cX7_lay 31 = .ok (.aload_n 0, 1) := by decide +kernel
theorem dX7_lay_32 : decode cX7_lay 32 = .ok (.getfield 47, 3) := by decide +kernel
theorem dX7_lay_35 : decode cX7_lay 35 = .ok (.iload_n 1, 1) := by decide +kernel
theorem dX7_lay_36 : decode cX7_lay 36 = .ok (.iaload, 1) := by decide +kernel
theorem dX7_lay_37 : decode cX7_lay 37 = .ok (.iconst 1, 1) := by decide +kernel
theorem dX7_lay_38 : decode cX7_lay 38 = .ok (.isub, 1) := by decide +kernel
theorem dX7_lay_39 : decode cX7_lay 39 = .ok (.i2l, 1) := by decide +kernel
theorem dX7_lay_40 : decode cX7_lay 40 = .ok (.invokestatic 55, 3) := by decide +kernel
theorem dX7_lay_43 : decode cX7_lay 43 = .ok (.ifCond .ne 6, 3) := by decide +kernel
theorem dX7_lay_46 : decode cX7_lay 46 = .ok (.bipush (-12), 2) := by decide +kernel
theorem dX7_lay_48 : decode cX7_lay 48 = .ok (.ireturn, 1) := by decide +kernel
theorem dX7_lay_49 : decode cX7_lay 49 = .ok (.aload_n 0, 1) := by decide +kernel
theorem dX7_lay_50 : decode cX7_lay 50 = .ok (.getfield 50, 3) := by decide +kernel
theorem dX7_lay_53 : decode cX7_lay 53 = .ok (.bipush 40, 2) := by decide +kernel
theorem dX7_lay_55 : decode cX7_lay 55 = .ok (.iload_n 1, 1) := by decide +kernel
theorem dX7_lay_56 : decode cX7_lay 56 = .ok (.imul, 1) := by decide +kernel
theorem dX7_lay_57 : decode cX7_lay 57 = .ok (.iload_n 2, 1) := by decide +kernel
theorem dX7_lay_58 : decode cX7_lay 58 = .ok (.iadd, 1) := by decide +kernel
theorem dX7_lay_59 : decode cX7_lay 59 = .ok (.aload_n 0, 1) := by decide +kernel
theorem dX7_lay_60 : decode cX7_lay 60 = .ok (.getfield 44, 3) := by decide +kernel
theorem dX7_lay_63 : decode cX7_lay 63 = .ok (.iload_n 1, 1) := by decide +kernel
theorem dX7_lay_64 : decode cX7_lay 64 = .ok (.iaload, 1) := by decide +kernel
theorem dX7_lay_65 : decode cX7_lay 65 = .ok (.ifCond .ne 13, 3) := by decide +kernel
theorem dX7_lay_68 : decode cX7_lay 68 = .ok (.iload_n 3, 1) := by decide +kernel
theorem dX7_lay_69 : decode cX7_lay 69 = .ok (.bipush 24, 2) := by decide +kernel
theorem dX7_lay_71 : decode cX7_lay 71 = .ok (.ishl, 1) := by decide +kernel
theorem dX7_lay_72 : decode cX7_lay 72 = .ok (.bipush 24, 2) := by decide +kernel
theorem dX7_lay_74 : decode cX7_lay 74 = .ok (.ishr, 1) := by decide +kernel
theorem dX7_lay_75 : decode cX7_lay 75 = .ok (.goto 24, 3) := by decide +kernel
theorem dX7_lay_78 : decode cX7_lay 78 = .ok (.aload_n 0, 1) := by decide +kernel
theorem dX7_lay_79 : decode cX7_lay 79 = .ok (.getfield 44, 3) := by decide +kernel
theorem dX7_lay_82 : decode cX7_lay 82 = .ok (.iload_n 1, 1) := by decide +kernel
theorem dX7_lay_83 : decode cX7_lay 83 = .ok (.iaload, 1) := by decide +kernel
theorem dX7_lay_84 : decode cX7_lay 84 = .ok (.iconst 1, 1) := by decide +kernel
theorem dX7_lay_85 : decode cX7_lay 85 = .ok (.if_icmp .ne 13, 3) := by decide +kernel
theorem dX7_lay_88 : decode cX7_lay 88 = .ok (.iload_n 3, 1) := by decide +kernel
theorem dX7_lay_89 : decode cX7_lay 89 = .ok (.bipush 16, 2) := by decide +kernel
theorem dX7_lay_91 : decode cX7_lay 91 = .ok (.ishl, 1) := by decide +kernel
theorem dX7_lay_92 : decode cX7_lay 92 = .ok (.bipush 16, 2) := by decide +kernel
theorem dX7_lay_94 : decode cX7_lay 94 = .ok (.ishr, 1) := by decide +kernel
theorem dX7_lay_95 : decode cX7_lay 95 = .ok (.goto 4, 3) := by decide +kernel
theorem dX7_lay_98 : decode cX7_lay 98 = .ok (.iload_n 3, 1) := by decide +kernel
theorem dX7_lay_99 : decode cX7_lay 99 = .ok (.iastore, 1) := by decide +kernel
theorem dX7_lay_100 : decode cX7_lay 100 = .ok (.iconst 1, 1) := by decide +kernel
theorem dX7_lay_101 : decode cX7_lay 101 = .ok (.ireturn, 1) := by decide +kernel
theorem dX7_read_0 : decode cX7_read 0 = .ok (.iload_n 1, 1) := by decide +kernel
theorem dX7_read_1 : decode cX7_read 1 = .ok (.i2l, 1) := by decide +kernel
theorem dX7_read_2 : decode cX7_read 2 = .ok (.lconst 0, 1) := by decide +kernel
theorem dX7_read_3 : decode cX7_read 3 = .ok (.ldc2_w 220, 3) := by decide +kernel
theorem dX7_read_6 : decode cX7_read 6 = .ok (.invokestatic 55, 3) := by decide +kernel
theorem dX7_read_9 : decode cX7_read 9 = .ok (.ifCond .eq 28, 3) := by decide +kernel
theorem dX7_read_12 : decode cX7_read 12 = .ok (.iload_n 2, 1) := by decide +kernel
theorem dX7_read_13 : decode cX7_read 13 = .ok (.i2l, 1) := by decide +kernel
theorem dX7_read_14 : decode cX7_read 14 = .ok (.lconst 0, 1) := by decide +kernel
theorem dX7_read_15 : decode cX7_read 15 = .ok (.ldc2_w 225, 3) := by decide +kernel
theorem dX7_read_18 : decode cX7_read 18 = .ok (.invokestatic 55, 3) := by decide +kernel
theorem dX7_read_21 : decode cX7_read 21 = .ok (.ifCond .eq 16, 3) := by decide +kernel
theorem dX7_read_24 : decode cX7_read 24 = .ok (.iload 4, 2) := by decide +kernel
theorem dX7_read_26 : decode cX7_read 26 = .ok (.i2l, 1) := by decide +kernel
theorem dX7_read_27 : decode cX7_read 27 = .ok (.lconst 0, 1) := by decide +kernel
theorem dX7_read_28 : decode cX7_read 28 = .ok (.ldc2_w 262, 3) := by decide +kernel
theorem dX7_read_31 : decode cX7_read 31 = .ok (.invokestatic 55, 3) := by decide +kernel
theorem dX7_read_34 : decode cX7_read 34 = .ok (.ifCond .ne 5, 3) := by decide +kernel
theorem dX7_read_37 : decode cX7_read 37 = .ok (.iconst (-1), 1) := by decide +kernel
theorem dX7_read_38 : decode cX7_read 38 = .ok (.ireturn, 1) := by decide +kernel
theorem dX7_read_39 : decode cX7_read 39 = .ok (.aload_n 0, 1) := by decide +kernel
theorem dX7_read_40 : decode cX7_read 40 = .ok (.iconst 0, 1) := by decide +kernel
theorem dX7_read_41 : decode cX7_read 41 = .ok (.sipush 165, 3) := by decide +kernel
theorem dX7_read_44 : decode cX7_read 44 = .ok (.invokevirtual 212, 3) := by decide +kernel
theorem dX7_read_47 : decode cX7_read 47 = .ok (.iconst 0, 1) := by decide +kernel
theorem dX7_read_48 : decode cX7_read 48 = .ok (.istore 5, 2) := by decide +kernel
theorem dX7_read_50 : decode cX7_read 50 = .ok (.iconst 0, 1) := by decide +kernel
theorem dX7_read_51 : decode cX7_read 51 = .ok (.istore 6, 2) := by decide +kernel
theorem dX7_read_53 : decode cX7_read 53 = .ok (.iconst 0, 1) := by decide +kernel
theorem dX7_read_54 : decode cX7_read 54 = .ok (.istore 7, 2) := by decide +kernel
theorem dX7_read_56 : decode cX7_read 56 = .ok (.iload 7, 2) := by decide +kernel
theorem dX7_read_58 : decode cX7_read 58 = .ok (.iconst 3, 1) := by decide +kernel
theorem dX7_read_59 : decode cX7_read 59 = .ok (.iload 4, 2) := by decide +kernel
theorem dX7_read_61 : decode cX7_read 61 = .ok (.imul, 1) := by decide +kernel
theorem dX7_read_62 : decode cX7_read 62 = .ok (.if_icmp .ge 146, 3) := by decide +kernel
theorem dX7_read_65 : decode cX7_read 65 = .ok (.iload 5, 2) := by decide +kernel
theorem dX7_read_67 : decode cX7_read 67 = .ok (.ifCond .ne 141, 3) := by decide +kernel
theorem dX7_read_70 : decode cX7_read 70 = .ok (.aload_n 0, 1) := by decide +kernel
theorem dX7_read_71 : decode cX7_read 71 = .ok (.getfield 44, 3) := by decide +kernel
theorem dX7_read_74 : decode cX7_read 74 = .ok (.iload_n 1, 1) := by decide +kernel
theorem dX7_read_75 : decode cX7_read 75 = .ok (.iaload, 1) := by decide +kernel
theorem dX7_read_76 : decode cX7_read 76 = .ok (.bipush (-4), 2) := by decide +kernel
theorem dX7_read_78 : decode cX7_read 78 = .ok (.if_icmp .ne 7, 3) := by decide +kernel
theorem dX7_read_81 : decode cX7_read 81 = .ok (.iconst 1, 1) := by decide +kernel
theorem dX7_read_82 : decode cX7_read 82 = .ok (.goto 44, 3) := by decide +kernel
theorem dX7_read_85 : decode cX7_read 85 = .ok (.aload_n 0, 1) := by decide +kernel
theorem dX7_read_86 : decode cX7_read 86 = .ok (.getfield 44, 3) := by decide +kernel
theorem dX7_read_89 : decode cX7_read 89 = .ok (.iload_n 1, 1) := by decide +kernel
theorem dX7_read_90 : decode cX7_read 90 = .ok (.iaload, 1) := by decide +kernel
theorem dX7_read_91 : decode cX7_read 91 = .ok (.iload_n 2, 1) := by decide +kernel
theorem dX7_read_92 : decode cX7_read 92 = .ok (.if_icmp .eq 7, 3) := by decide +kernel
theorem dX7_read_95 : decode cX7_read 95 = .ok (.iconst 3, 1) := by decide +kernel
theorem dX7_read_96 : decode cX7_read 96 = .ok (.goto 30, 3) := by decide +kernel
theorem dX7_read_99 : decode cX7_read 99 = .ok (.iload_n 3, 1) := by decide +kernel
theorem dX7_read_100 : decode cX7_read 100 = .ok (.i2l, 1) := by decide +kernel
theorem dX7_read_101 : decode cX7_read 101 = .ok (.iload 7, 2) := by decide +kernel
theorem dX7_read_103 : decode cX7_read 103 = .ok (.i2l, 1) := by decide +kernel
theorem dX7_read_104 : decode cX7_read 104 = .ok (.ladd, 1) := by decide +kernel
theorem dX7_read_105 : decode cX7_read 105 = .ok (.lconst 0, 1) := by decide +kernel
theorem dX7_read_106 : decode cX7_read 106 = .ok (.aload_n 0, 1) := by decide +kernel
theorem dX7_read_107 : decode cX7_read 107 = .ok (.getfield 47, 3) := by decide +kernel
theorem dX7_read_110 : decode cX7_read 110 = .ok (.iload_n 1, 1) := by decide +kernel
theorem dX7_read_111 : decode cX7_read 111 = .ok (.iaload, 1) := by decide +kernel
theorem dX7_read_112 : decode cX7_read 112 = .ok (.iconst 1, 1) := by decide +kernel
theorem dX7_read_113 : decode cX7_read 113 = .ok (.isub, 1) := by decide +kernel
theorem dX7_read_114 : decode cX7_read 114 = .ok (.i2l, 1) := by decide +kernel
theorem dX7_read_115 : decode cX7_read 115 = .ok (.invokestatic 55, 3) := by decide +kernel
theorem dX7_read_118 : decode cX7_read 118 = .ok (.ifCond .ne 7, 3) := by decide +kernel
theorem dX7_read_121 : decode cX7_read 121 = .ok (.iconst 2, 1) := by decide +kernel
theorem dX7_read_122 : decode cX7_read 122 = .ok (.goto 4, 3) := by decide +kernel
theorem dX7_read_125 : decode cX7_read 125 = .ok (.iconst 0, 1) := by decide +kernel
theorem dX7_read_126 : decode cX7_read 126 = .ok (.istore 5, 2) := by decide +kernel
theorem dX7_read_128 : decode cX7_read 128 = .ok (.iload 5, 2) := by decide +kernel
theorem dX7_read_130 : decode cX7_read 130 = .ok (.ifCond .ne 72, 3) := by decide +kernel
theorem dX7_read_133 : decode cX7_read 133 = .ok (.iload 7, 2) := by decide +kernel
theorem dX7_read_135 : decode cX7_read 135 = .ok (.iconst 3, 1) := by decide +kernel
theorem dX7_read_136 : decode cX7_read 136 = .ok (.irem, 1) := by decide +kernel
theorem dX7_read_137 : decode cX7_read 137 = .ok (.iconst 2, 1) := by decide +kernel
theorem dX7_read_138 : decode cX7_read 138 = .ok (.if_icmp .ne 64, 3) := by decide +kernel
theorem dX7_read_141 : decode cX7_read 141 = .ok (.bipush 40, 2) := by decide +kernel
theorem dX7_read_143 : decode cX7_read 143 = .ok (.iload_n 1, 1) := by decide +kernel
theorem dX7_read_144 : decode cX7_read 144 = .ok (.imul, 1) := by decide +kernel
theorem dX7_read_145 : decode cX7_read 145 = .ok (.iload_n 3, 1) := by decide +kernel
theorem dX7_read_146 : decode cX7_read 146 = .ok (.iadd, 1) := by decide +kernel
theorem dX7_read_147 : decode cX7_read 147 = .ok (.iload 7, 2) := by decide +kernel
theorem dX7_read_149 : decode cX7_read 149 = .ok (.iadd, 1) := by decide +kernel
theorem dX7_read_150 : decode cX7_read 150 = .ok (.istore 8, 2) := by decide +kernel
theorem dX7_read_152 : decode cX7_read 152 = .ok (.aload_n 0, 1) := by decide +kernel
theorem dX7_read_153 : decode cX7_read 153 = .ok (.iconst 0, 1) := by decide +kernel
theorem dX7_read_154 : decode cX7_read 154 = .ok (.aload_n 0, 1) := by decide +kernel
theorem dX7_read_155 : decode cX7_read 155 = .ok (.getfield 50, 3) := by decide +kernel
theorem dX7_read_158 : decode cX7_read 158 = .ok (.iload 8, 2) := by decide +kernel
theorem dX7_read_160 : decode cX7_read 160 = .ok (.iconst 2, 1) := by decide +kernel
theorem dX7_read_161 : decode cX7_read 161 = .ok (.isub, 1) := by decide +kernel
theorem dX7_read_162 : decode cX7_read 162 = .ok (.iaload, 1) := by decide +kernel
theorem dX7_read_163 : decode cX7_read 163 = .ok (.aload_n 0, 1) := by decide +kernel
theorem dX7_read_164 : decode cX7_read 164 = .ok (.getfield 50, 3) := by decide +kernel
theorem dX7_read_167 : decode cX7_read 167 = .ok (.iload 8, 2) := by decide +kernel
theorem dX7_read_169 : decode cX7_read 169 = .ok (.iconst 1, 1) := by decide +kernel
theorem dX7_read_170 : decode cX7_read 170 = .ok (.isub, 1) := by decide +kernel
theorem dX7_read_171 : decode cX7_read 171 = .ok (.iaload, 1) := by decide +kernel
theorem dX7_read_172 : decode cX7_read 172 = .ok (.aload_n 0, 1) := by decide +kernel
theorem dX7_read_173 : decode cX7_read 173 = .ok (.getfield 50, 3) := by decide +kernel
theorem dX7_read_176 : decode cX7_read 176 = .ok (.iload 8, 2) := by decide +kernel
theorem dX7_read_178 : decode cX7_read 178 = .ok (.iaload, 1) := by decide +kernel
theorem dX7_read_179 : decode cX7_read 179 = .ok (.invokevirtual 199, 3) := by decide +kernel
theorem dX7_read_182 : decode cX7_read 182 = .ok (.ifCond .ge 17, 3) := by decide +kernel
theorem dX7_read_185 : decode cX7_read 185 = .ok (.aload_n 0, 1) := by decide +kernel
theorem dX7_read_186 : decode cX7_read 186 = .ok (.sipush 165, 3) := by decide +kernel
theorem dX7_read_189 : decode cX7_read 189 = .ok (.iconst 0, 1) := by decide +kernel
theorem dX7_read_190 : decode cX7_read 190 = .ok (.invokevirtual 212, 3) := by decide +kernel
theorem dX7_read_193 : decode cX7_read 193 = .ok (.bipush (-20), 2) := by decide +kernel
theorem dX7_read_195 : decode cX7_read 195 = .ok (.iload 6, 2) := by decide +kernel
theorem dX7_read_197 : decode cX7_read 197 = .ok (.isub, 1) := by decide +kernel
theorem dX7_read_198 : decode cX7_read 198 = .ok (.ireturn, 1) := by decide +kernel
theorem dX7_read_199 : decode cX7_read 199 = .ok (.iinc 6 1, 3) := by decide +kernel
theorem dX7_read_202 : decode cX7_read 202 = .ok (.iinc 7 1, 3) := by decide +kernel
theorem dX7_read_205 : decode cX7_read 205 = .ok (.goto (-149), 3) := by decide +kernel
theorem dX7_read_208 : decode cX7_read 208 = .ok (.aload_n 0, 1) := by decide +kernel
theorem dX7_read_209 : decode cX7_read 209 = .ok (.iload 5, 2) := by decide +kernel
theorem dX7_read_211 : decode cX7_read 211 = .ok (.putfield 264, 3) := by decide +kernel
theorem dX7_read_214 : decode cX7_read 214 = .ok (.iload 6, 2) := by decide +kernel
theorem dX7_read_216 : decode cX7_read 216 = .ok (.ireturn, 1) := by decide +kernel
theorem dX7_torn_0 : decode cX7_torn 0 = .ok (.aload_n 0, 1) := by decide +kernel
theorem dX7_torn_1 : decode cX7_torn 1 = .ok (.getfield 264, 3) := by decide +kernel
theorem dX7_torn_4 : decode cX7_torn 4 = .ok (.ireturn, 1) := by decide +kernel
theorem dX7_count_0 : decode cX7_count 0 = .ok (.iconst 0, 1) := by decide +kernel
theorem dX7_count_1 : decode cX7_count 1 = .ok (.istore_n 2, 1) := by decide +kernel
theorem dX7_count_2 : decode cX7_count 2 = .ok (.iconst 0, 1) := by decide +kernel
theorem dX7_count_3 : decode cX7_count 3 = .ok (.istore_n 3, 1) := by decide +kernel
theorem dX7_count_4 : decode cX7_count 4 = .ok (.iconst 0, 1) := by decide +kernel
theorem dX7_count_5 : decode cX7_count 5 = .ok (.istore 4, 2) := by decide +kernel
theorem dX7_count_7 : decode cX7_count 7 = .ok (.iload 4, 2) := by decide +kernel
theorem dX7_count_9 : decode cX7_count 9 = .ok (.aload_n 0, 1) := by decide +kernel
theorem dX7_count_10 : decode cX7_count 10 = .ok (.getfield 145, 3) := by decide +kernel
theorem dX7_count_13 : decode cX7_count 13 = .ok (.if_icmp .ge 35, 3) := by decide +kernel
theorem dX7_count_16 : decode cX7_count 16 = .ok (.iload_n 2, 1) := by decide +kernel
theorem dX7_count_17 : decode cX7_count 17 = .ok (.aload_n 0, 1) := by decide +kernel
theorem dX7_count_18 : decode cX7_count 18 = .ok (.getfield 7, 3) := by decide +kernel
theorem dX7_count_21 : decode cX7_count 21 = .ok (.bipush 25, 2) := by decide +kernel
theorem dX7_count_23 : decode cX7_count 23 = .ok (.iload 4, 2) := by decide +kernel
theorem dX7_count_25 : decode cX7_count 25 = .ok (.iadd, 1) := by decide +kernel
theorem dX7_count_26 : decode cX7_count 26 = .ok (.iaload, 1) := by decide +kernel
theorem dX7_count_27 : decode cX7_count 27 = .ok (.iadd, 1) := by decide +kernel
theorem dX7_count_28 : decode cX7_count 28 = .ok (.istore_n 2, 1) := by decide +kernel
theorem dX7_count_29 : decode cX7_count 29 = .ok (.iload_n 3, 1) := by decide +kernel
theorem dX7_count_30 : decode cX7_count 30 = .ok (.aload_n 0, 1) := by decide +kernel
theorem dX7_count_31 : decode cX7_count 31 = .ok (.getfield 7, 3) := by decide +kernel
theorem dX7_count_34 : decode cX7_count 34 = .ok (.bipush 29, 2) := by decide +kernel
theorem dX7_count_36 : decode cX7_count 36 = .ok (.iload 4, 2) := by decide +kernel
theorem dX7_count_38 : decode cX7_count 38 = .ok (.iadd, 1) := by decide +kernel
theorem dX7_count_39 : decode cX7_count 39 = .ok (.iaload, 1) := by decide +kernel
theorem dX7_count_40 : decode cX7_count 40 = .ok (.iadd, 1) := by decide +kernel
theorem dX7_count_41 : decode cX7_count 41 = .ok (.istore_n 3, 1) := by decide +kernel
theorem dX7_count_42 : decode cX7_count 42 = .ok (.iinc 4 1, 3) := by decide +kernel
theorem dX7_count_45 : decode cX7_count 45 = .ok (.goto (-38), 3) := by decide +kernel
theorem dX7_count_48 : decode cX7_count 48 = .ok (.iload_n 1, 1) := by decide +kernel
theorem dX7_count_49 : decode cX7_count 49 = .ok (.tableswitch 106 0 5 #[39, 44, 74, 79, 102, 104], 39) := by decide +kernel
theorem dX7_count_88 : decode cX7_count 88 = .ok (.aload_n 0, 1) := by decide +kernel
theorem dX7_count_89 : decode cX7_count 89 = .ok (.getfield 148, 3) := by decide +kernel
theorem dX7_count_92 : decode cX7_count 92 = .ok (.ireturn, 1) := by decide +kernel
theorem dX7_count_93 : decode cX7_count 93 = .ok (.aload_n 0, 1) := by decide +kernel
theorem dX7_count_94 : decode cX7_count 94 = .ok (.getfield 40, 3) := by decide +kernel
theorem dX7_count_97 : decode cX7_count 97 = .ok (.iconst 0, 1) := by decide +kernel
theorem dX7_count_98 : decode cX7_count 98 = .ok (.baload, 1) := by decide +kernel
theorem dX7_count_99 : decode cX7_count 99 = .ok (.ifCond .eq 7, 3) := by decide +kernel
theorem dX7_count_102 : decode cX7_count 102 = .ok (.iconst 1, 1) := by decide +kernel
theorem dX7_count_103 : decode cX7_count 103 = .ok (.goto 4, 3) := by decide +kernel
theorem dX7_count_106 : decode cX7_count 106 = .ok (.iconst 0, 1) := by decide +kernel
theorem dX7_count_107 : decode cX7_count 107 = .ok (.aload_n 0, 1) := by decide +kernel
theorem dX7_count_108 : decode cX7_count 108 = .ok (.getfield 40, 3) := by decide +kernel
theorem dX7_count_111 : decode cX7_count 111 = .ok (.iconst 1, 1) := by decide +kernel
theorem dX7_count_112 : decode cX7_count 112 = .ok (.baload, 1) := by decide +kernel
theorem dX7_count_113 : decode cX7_count 113 = .ok (.ifCond .eq 7, 3) := by decide +kernel
theorem dX7_count_116 : decode cX7_count 116 = .ok (.iconst 1, 1) := by decide +kernel
theorem dX7_count_117 : decode cX7_count 117 = .ok (.goto 4, 3) := by decide +kernel
theorem dX7_count_120 : decode cX7_count 120 = .ok (.iconst 0, 1) := by decide +kernel
theorem dX7_count_121 : decode cX7_count 121 = .ok (.iadd, 1) := by decide +kernel
theorem dX7_count_122 : decode cX7_count 122 = .ok (.ireturn, 1) := by decide +kernel
theorem dX7_count_123 : decode cX7_count 123 = .ok (.aload_n 0, 1) := by decide +kernel
theorem dX7_count_124 : decode cX7_count 124 = .ok (.getfield 59, 3) := by decide +kernel
theorem dX7_count_127 : decode cX7_count 127 = .ok (.ireturn, 1) := by decide +kernel
theorem dX7_count_128 : decode cX7_count 128 = .ok (.aload_n 0, 1) := by decide +kernel
theorem dX7_count_129 : decode cX7_count 129 = .ok (.getfield 44, 3) := by decide +kernel
theorem dX7_count_132 : decode cX7_count 132 = .ok (.iconst 0, 1) := by decide +kernel
theorem dX7_count_133 : decode cX7_count 133 = .ok (.iaload, 1) := by decide +kernel
theorem dX7_count_134 : decode cX7_count 134 = .ok (.bipush (-4), 2) := by decide +kernel
theorem dX7_count_136 : decode cX7_count 136 = .ok (.if_icmp .ne 8, 3) := by decide +kernel
theorem dX7_count_139 : decode cX7_count 139 = .ok (.bipush (-4), 2) := by decide +kernel
theorem dX7_count_141 : decode cX7_count 141 = .ok (.goto 9, 3) := by decide +kernel
theorem dX7_count_144 : decode cX7_count 144 = .ok (.aload_n 0, 1) := by decide +kernel
theorem dX7_count_145 : decode cX7_count 145 = .ok (.getfield 47, 3) := by decide +kernel
theorem dX7_count_148 : decode cX7_count 148 = .ok (.iconst 0, 1) := by decide +kernel
theorem dX7_count_149 : decode cX7_count 149 = .ok (.iaload, 1) := by decide +kernel
theorem dX7_count_150 : decode cX7_count 150 = .ok (.ireturn, 1) := by decide +kernel
theorem dX7_count_151 : decode cX7_count 151 = .ok (.iload_n 2, 1) := by decide +kernel
theorem dX7_count_152 : decode cX7_count 152 = .ok (.ireturn, 1) := by decide +kernel
theorem dX7_count_153 : decode cX7_count 153 = .ok (.iload_n 3, 1) := by decide +kernel
theorem dX7_count_154 : decode cX7_count 154 = .ok (.ireturn, 1) := by decide +kernel
theorem dX7_count_155 : decode cX7_count 155 = .ok (.iconst (-1), 1) := by decide +kernel
theorem dX7_count_156 : decode cX7_count 156 = .ok (.ireturn, 1) := by decide +kernel
end
section
theorem dL_law_0 : decode cL_law 0 = .ok (.new 7, 3) := by decide +kernel
theorem dL_law_3 : decode cL_law 3 = .ok (.dup, 1) := by decide +kernel
theorem dL_law_4 : decode cL_law 4 = .ok (.invokespecial 9, 3) := by decide +kernel
theorem dL_law_7 : decode cL_law 7 = .ok (.astore_n 1, 1) := by decide +kernel
theorem dL_law_8 : decode cL_law 8 = .ok (.new 10, 3) := by decide +kernel
theorem dL_law_11 : decode cL_law 11 = .ok (.dup, 1) := by decide +kernel
theorem dL_law_12 : decode cL_law 12 = .ok (.invokespecial 12, 3) := by decide +kernel
theorem dL_law_15 : decode cL_law 15 = .ok (.astore_n 2, 1) := by decide +kernel
theorem dL_law_16 : decode cL_law 16 = .ok (.iconst 0, 1) := by decide +kernel
theorem dL_law_17 : decode cL_law 17 = .ok (.istore_n 3, 1) := by decide +kernel
theorem dL_law_18 : decode cL_law 18 = .ok (.iload_n 3, 1) := by decide +kernel
theorem dL_law_19 : decode cL_law 19 = .ok (.aload_n 0, 1) := by decide +kernel
theorem dL_law_20 : decode cL_law 20 = .ok (.arraylength, 1) := by decide +kernel
theorem dL_law_21 : decode cL_law 21 = .ok (.bipush 6, 2) := by decide +kernel
theorem dL_law_23 : decode cL_law 23 = .ok (.isub, 1) := by decide +kernel
theorem dL_law_24 : decode cL_law 24 = .ok (.if_icmp .gt 1485, 3) := by decide +kernel
theorem dL_law_27 : decode cL_law 27 = .ok (.aload_n 0, 1) := by decide +kernel
theorem dL_law_28 : decode cL_law 28 = .ok (.iload_n 3, 1) := by decide +kernel
theorem dL_law_29 : decode cL_law 29 = .ok (.iaload, 1) := by decide +kernel
theorem dL_law_30 : decode cL_law 30 = .ok (.bipush 63, 2) := by decide +kernel
theorem dL_law_32 : decode cL_law 32 = .ok (.iand, 1) := by decide +kernel
theorem dL_law_33 : decode cL_law 33 = .ok (.tableswitch 1470 0 38 #[171, 194, 217, 230, 243, 266, 299, 332, 365, 398, 441, 484, 527, 570, 593, 626, 669, 692, 735, 778, 811, 834, 867, 900, 943, 1007, 1051, 1094, 1117, 1140, 1173, 1206, 1249, 1272, 1295, 1338, 1381, 1434, 1447], 171) := by decide +kernel
theorem dL_law_204 : decode cL_law 204 = .ok (.aload_n 1, 1) := by decide +kernel
theorem dL_law_205 : decode cL_law 205 = .ok (.aload_n 0, 1) := by decide +kernel
theorem dL_law_206 : decode cL_law 206 = .ok (.iload_n 3, 1) := by decide +kernel
theorem dL_law_207 : decode cL_law 207 = .ok (.iconst 1, 1) := by decide +kernel
theorem dL_law_208 : decode cL_law 208 = .ok (.iadd, 1) := by decide +kernel
theorem dL_law_209 : decode cL_law 209 = .ok (.iaload, 1) := by decide +kernel
theorem dL_law_210 : decode cL_law 210 = .ok (.invokevirtual 13, 3) := by decide +kernel
theorem dL_law_213 : decode cL_law 213 = .ok (.aload_n 2, 1) := by decide +kernel
theorem dL_law_214 : decode cL_law 214 = .ok (.aload_n 0, 1) := by decide +kernel
theorem dL_law_215 : decode cL_law 215 = .ok (.iload_n 3, 1) := by decide +kernel
theorem dL_law_216 : decode cL_law 216 = .ok (.iconst 1, 1) := by decide +kernel
theorem dL_law_217 : decode cL_law 217 = .ok (.iadd, 1) := by decide +kernel
theorem dL_law_218 : decode cL_law 218 = .ok (.iaload, 1) := by decide +kernel
theorem dL_law_219 : decode cL_law 219 = .ok (.invokevirtual 17, 3) := by decide +kernel
theorem dL_law_222 : decode cL_law 222 = .ok (.if_icmp .eq 1281, 3) := by decide +kernel
theorem dL_law_225 : decode cL_law 225 = .ok (.iconst 0, 1) := by decide +kernel
theorem dL_law_226 : decode cL_law 226 = .ok (.ireturn, 1) := by decide +kernel
theorem dL_law_227 : decode cL_law 227 = .ok (.aload_n 1, 1) := by decide +kernel
theorem dL_law_228 : decode cL_law 228 = .ok (.aload_n 0, 1) := by decide +kernel
theorem dL_law_229 : decode cL_law 229 = .ok (.iload_n 3, 1) := by decide +kernel
theorem dL_law_230 : decode cL_law 230 = .ok (.iconst 1, 1) := by decide +kernel
theorem dL_law_231 : decode cL_law 231 = .ok (.iadd, 1) := by decide +kernel
theorem dL_law_232 : decode cL_law 232 = .ok (.iaload, 1) := by decide +kernel
theorem dL_law_233 : decode cL_law 233 = .ok (.invokevirtual 18, 3) := by decide +kernel
theorem dL_law_236 : decode cL_law 236 = .ok (.aload_n 2, 1) := by decide +kernel
theorem dL_law_237 : decode cL_law 237 = .ok (.aload_n 0, 1) := by decide +kernel
theorem dL_law_238 : decode cL_law 238 = .ok (.iload_n 3, 1) := by decide +kernel
theorem dL_law_239 : decode cL_law 239 = .ok (.iconst 1, 1) := by decide +kernel
theorem dL_law_240 : decode cL_law 240 = .ok (.iadd, 1) := by decide +kernel
theorem dL_law_241 : decode cL_law 241 = .ok (.iaload, 1) := by decide +kernel
theorem dL_law_242 : decode cL_law 242 = .ok (.invokevirtual 21, 3) := by decide +kernel
theorem dL_law_245 : decode cL_law 245 = .ok (.if_icmp .eq 1258, 3) := by decide +kernel
theorem dL_law_248 : decode cL_law 248 = .ok (.iconst 0, 1) := by decide +kernel
theorem dL_law_249 : decode cL_law 249 = .ok (.ireturn, 1) := by decide +kernel
theorem dL_law_250 : decode cL_law 250 = .ok (.aload_n 1, 1) := by decide +kernel
theorem dL_law_251 : decode cL_law 251 = .ok (.invokevirtual 22, 3) := by decide +kernel
theorem dL_law_254 : decode cL_law 254 = .ok (.aload_n 2, 1) := by decide +kernel
theorem dL_law_255 : decode cL_law 255 = .ok (.invokevirtual 26, 3) := by decide +kernel
theorem dL_law_258 : decode cL_law 258 = .ok (.if_icmp .eq 1245, 3) := by decide +kernel
theorem dL_law_261 : decode cL_law 261 = .ok (.iconst 0, 1) := by decide +kernel
theorem dL_law_262 : decode cL_law 262 = .ok (.ireturn, 1) := by decide +kernel
theorem dL_law_263 : decode cL_law 263 = .ok (.aload_n 1, 1) := by decide +kernel
theorem dL_law_264 : decode cL_law 264 = .ok (.invokevirtual 27, 3) := by decide +kernel
theorem dL_law_267 : decode cL_law 267 = .ok (.aload_n 2, 1) := by decide +kernel
theorem dL_law_268 : decode cL_law 268 = .ok (.invokevirtual 30, 3) := by decide +kernel
theorem dL_law_271 : decode cL_law 271 = .ok (.if_icmp .eq 1232, 3) := by decide +kernel
theorem dL_law_274 : decode cL_law 274 = .ok (.iconst 0, 1) := by decide +kernel
theorem dL_law_275 : decode cL_law 275 = .ok (.ireturn, 1) := by decide +kernel
theorem dL_law_276 : decode cL_law 276 = .ok (.aload_n 1, 1) := by decide +kernel
theorem dL_law_277 : decode cL_law 277 = .ok (.aload_n 0, 1) := by decide +kernel
theorem dL_law_278 : decode cL_law 278 = .ok (.iload_n 3, 1) := by decide +kernel
theorem dL_law_279 : decode cL_law 279 = .ok (.iconst 1, 1) := by decide +kernel
theorem dL_law_280 : decode cL_law 280 = .ok (.iadd, 1) := by decide +kernel
theorem dL_law_281 : decode cL_law 281 = .ok (.iaload, 1) := by decide +kernel
theorem dL_law_282 : decode cL_law 282 = .ok (.invokevirtual 31, 3) := by decide +kernel
theorem dL_law_285 : decode cL_law 285 = .ok (.aload_n 2, 1) := by decide +kernel
theorem dL_law_286 : decode cL_law 286 = .ok (.aload_n 0, 1) := by decide +kernel
theorem dL_law_287 : decode cL_law 287 = .ok (.iload_n 3, 1) := by decide +kernel
theorem dL_law_288 : decode cL_law 288 = .ok (.iconst 1, 1) := by decide +kernel
theorem dL_law_289 : decode cL_law 289 = .ok (.iadd, 1) := by decide +kernel
theorem dL_law_290 : decode cL_law 290 = .ok (.iaload, 1) := by decide +kernel
theorem dL_law_291 : decode cL_law 291 = .ok (.invokevirtual 34, 3) := by decide +kernel
theorem dL_law_294 : decode cL_law 294 = .ok (.if_icmp .eq 1209, 3) := by decide +kernel
theorem dL_law_297 : decode cL_law 297 = .ok (.iconst 0, 1) := by decide +kernel
theorem dL_law_298 : decode cL_law 298 = .ok (.ireturn, 1) := by decide +kernel
theorem dL_law_299 : decode cL_law 299 = .ok (.aload_n 1, 1) := by decide +kernel
theorem dL_law_300 : decode cL_law 300 = .ok (.aload_n 0, 1) := by decide +kernel
theorem dL_law_301 : decode cL_law 301 = .ok (.iload_n 3, 1) := by decide +kernel
theorem dL_law_302 : decode cL_law 302 = .ok (.iconst 1, 1) := by decide +kernel
theorem dL_law_303 : decode cL_law 303 = .ok (.iadd, 1) := by decide +kernel
theorem dL_law_304 : decode cL_law 304 = .ok (.iaload, 1) := by decide +kernel
theorem dL_law_305 : decode cL_law 305 = .ok (.aload_n 0, 1) := by decide +kernel
theorem dL_law_306 : decode cL_law 306 = .ok (.iload_n 3, 1) := by decide +kernel
theorem dL_law_307 : decode cL_law 307 = .ok (.iconst 2, 1) := by decide +kernel
theorem dL_law_308 : decode cL_law 308 = .ok (.iadd, 1) := by decide +kernel
theorem dL_law_309 : decode cL_law 309 = .ok (.iaload, 1) := by decide +kernel
theorem dL_law_310 : decode cL_law 310 = .ok (.invokevirtual 35, 3) := by decide +kernel
theorem dL_law_313 : decode cL_law 313 = .ok (.aload_n 2, 1) := by decide +kernel
theorem dL_law_314 : decode cL_law 314 = .ok (.aload_n 0, 1) := by decide +kernel
theorem dL_law_315 : decode cL_law 315 = .ok (.iload_n 3, 1) := by decide +kernel
theorem dL_law_316 : decode cL_law 316 = .ok (.iconst 1, 1) := by decide +kernel
theorem dL_law_317 : decode cL_law 317 = .ok (.iadd, 1) := by decide +kernel
theorem dL_law_318 : decode cL_law 318 = .ok (.iaload, 1) := by decide +kernel
theorem dL_law_319 : decode cL_law 319 = .ok (.aload_n 0, 1) := by decide +kernel
theorem dL_law_320 : decode cL_law 320 = .ok (.iload_n 3, 1) := by decide +kernel
theorem dL_law_321 : decode cL_law 321 = .ok (.iconst 2, 1) := by decide +kernel
theorem dL_law_322 : decode cL_law 322 = .ok (.iadd, 1) := by decide +kernel
theorem dL_law_323 : decode cL_law 323 = .ok (.iaload, 1) := by decide +kernel
theorem dL_law_324 : decode cL_law 324 = .ok (.invokevirtual 39, 3) := by decide +kernel
theorem dL_law_327 : decode cL_law 327 = .ok (.if_icmp .eq 1176, 3) := by decide +kernel
theorem dL_law_330 : decode cL_law 330 = .ok (.iconst 0, 1) := by decide +kernel
theorem dL_law_331 : decode cL_law 331 = .ok (.ireturn, 1) := by decide +kernel
theorem dL_law_332 : decode cL_law 332 = .ok (.aload_n 1, 1) := by decide +kernel
theorem dL_law_333 : decode cL_law 333 = .ok (.aload_n 0, 1) := by decide +kernel
theorem dL_law_334 : decode cL_law 334 = .ok (.iload_n 3, 1) := by decide +kernel
theorem dL_law_335 : decode cL_law 335 = .ok (.iconst 1, 1) := by decide +kernel
theorem dL_law_336 : decode cL_law 336 = .ok (.iadd, 1) := by decide +kernel
theorem dL_law_337 : decode cL_law 337 = .ok (.iaload, 1) := by decide +kernel
theorem dL_law_338 : decode cL_law 338 = .ok (.aload_n 0, 1) := by decide +kernel
theorem dL_law_339 : decode cL_law 339 = .ok (.iload_n 3, 1) := by decide +kernel
theorem dL_law_340 : decode cL_law 340 = .ok (.iconst 2, 1) := by decide +kernel
theorem dL_law_341 : decode cL_law 341 = .ok (.iadd, 1) := by decide +kernel
theorem dL_law_342 : decode cL_law 342 = .ok (.iaload, 1) := by decide +kernel
theorem dL_law_343 : decode cL_law 343 = .ok (.invokevirtual 40, 3) := by decide +kernel
theorem dL_law_346 : decode cL_law 346 = .ok (.aload_n 2, 1) := by decide +kernel
theorem dL_law_347 : decode cL_law 347 = .ok (.aload_n 0, 1) := by decide +kernel
theorem dL_law_348 : decode cL_law 348 = .ok (.iload_n 3, 1) := by decide +kernel
theorem dL_law_349 : decode cL_law 349 = .ok (.iconst 1, 1) := by decide +kernel
theorem dL_law_350 : decode cL_law 350 = .ok (.iadd, 1) := by decide +kernel
theorem dL_law_351 : decode cL_law 351 = .ok (.iaload, 1) := by decide +kernel
theorem dL_law_352 : decode cL_law 352 = .ok (.aload_n 0, 1) := by decide +kernel
theorem dL_law_353 : decode cL_law 353 = .ok (.iload_n 3, 1) := by decide +kernel
theorem dL_law_354 : decode cL_law 354 = .ok (.iconst 2, 1) := by decide +kernel
theorem dL_law_355 : decode cL_law 355 = .ok (.iadd, 1) := by decide +kernel
theorem dL_law_356 : decode cL_law 356 = .ok (.iaload, 1) := by decide +kernel
theorem dL_law_357 : decode cL_law 357 = .ok (.invokevirtual 43, 3) := by decide +kernel
theorem dL_law_360 : decode cL_law 360 = .ok (.if_icmp .eq 1143, 3) := by decide +kernel
theorem dL_law_363 : decode cL_law 363 = .ok (.iconst 0, 1) := by decide +kernel
theorem dL_law_364 : decode cL_law 364 = .ok (.ireturn, 1) := by decide +kernel
theorem dL_law_365 : decode cL_law 365 = .ok (.aload_n 1, 1) := by decide +kernel
theorem dL_law_366 : decode cL_law 366 = .ok (.aload_n 0, 1) := by decide +kernel
theorem dL_law_367 : decode cL_law 367 = .ok (.iload_n 3, 1) := by decide +kernel
theorem dL_law_368 : decode cL_law 368 = .ok (.iconst 1, 1) := by decide +kernel
theorem dL_law_369 : decode cL_law 369 = .ok (.iadd, 1) := by decide +kernel
theorem dL_law_370 : decode cL_law 370 = .ok (.iaload, 1) := by decide +kernel
theorem dL_law_371 : decode cL_law 371 = .ok (.aload_n 0, 1) := by decide +kernel
theorem dL_law_372 : decode cL_law 372 = .ok (.iload_n 3, 1) := by decide +kernel
theorem dL_law_373 : decode cL_law 373 = .ok (.iconst 2, 1) := by decide +kernel
theorem dL_law_374 : decode cL_law 374 = .ok (.iadd, 1) := by decide +kernel
theorem dL_law_375 : decode cL_law 375 = .ok (.iaload, 1) := by decide +kernel
theorem dL_law_376 : decode cL_law 376 = .ok (.invokevirtual 44, 3) := by decide +kernel
theorem dL_law_379 : decode cL_law 379 = .ok (.aload_n 2, 1) := by decide +kernel
theorem dL_law_380 : decode cL_law 380 = .ok (.aload_n 0, 1) := by decide +kernel
theorem dL_law_381 : decode cL_law 381 = .ok (.iload_n 3, 1) := by decide +kernel
theorem dL_law_382 : decode cL_law 382 = .ok (.iconst 1, 1) := by decide +kernel
theorem dL_law_383 : decode cL_law 383 = .ok (.iadd, 1) := by decide +kernel
theorem dL_law_384 : decode cL_law 384 = .ok (.iaload, 1) := by decide +kernel
theorem dL_law_385 : decode cL_law 385 = .ok (.aload_n 0, 1) := by decide +kernel
theorem dL_law_386 : decode cL_law 386 = .ok (.iload_n 3, 1) := by decide +kernel
theorem dL_law_387 : decode cL_law 387 = .ok (.iconst 2, 1) := by decide +kernel
theorem dL_law_388 : decode cL_law 388 = .ok (.iadd, 1) := by decide +kernel
theorem dL_law_389 : decode cL_law 389 = .ok (.iaload, 1) := by decide +kernel
theorem dL_law_390 : decode cL_law 390 = .ok (.invokevirtual 47, 3) := by decide +kernel
theorem dL_law_393 : decode cL_law 393 = .ok (.if_icmp .eq 1110, 3) := by decide +kernel
theorem dL_law_396 : decode cL_law 396 = .ok (.iconst 0, 1) := by decide +kernel
theorem dL_law_397 : decode cL_law 397 = .ok (.ireturn, 1) := by decide +kernel
theorem dL_law_398 : decode cL_law 398 = .ok (.aload_n 1, 1) := by decide +kernel
theorem dL_law_399 : decode cL_law 399 = .ok (.aload_n 0, 1) := by decide +kernel
theorem dL_law_400 : decode cL_law 400 = .ok (.iload_n 3, 1) := by decide +kernel
theorem dL_law_401 : decode cL_law 401 = .ok (.iconst 1, 1) := by decide +kernel
theorem dL_law_402 : decode cL_law 402 = .ok (.iadd, 1) := by decide +kernel
theorem dL_law_403 : decode cL_law 403 = .ok (.iaload, 1) := by decide +kernel
theorem dL_law_404 : decode cL_law 404 = .ok (.aload_n 0, 1) := by decide +kernel
theorem dL_law_405 : decode cL_law 405 = .ok (.iload_n 3, 1) := by decide +kernel
theorem dL_law_406 : decode cL_law 406 = .ok (.iconst 2, 1) := by decide +kernel
theorem dL_law_407 : decode cL_law 407 = .ok (.iadd, 1) := by decide +kernel
theorem dL_law_408 : decode cL_law 408 = .ok (.iaload, 1) := by decide +kernel
theorem dL_law_409 : decode cL_law 409 = .ok (.invokevirtual 48, 3) := by decide +kernel
theorem dL_law_412 : decode cL_law 412 = .ok (.aload_n 2, 1) := by decide +kernel
theorem dL_law_413 : decode cL_law 413 = .ok (.aload_n 0, 1) := by decide +kernel
theorem dL_law_414 : decode cL_law 414 = .ok (.iload_n 3, 1) := by decide +kernel
theorem dL_law_415 : decode cL_law 415 = .ok (.iconst 1, 1) := by decide +kernel
theorem dL_law_416 : decode cL_law 416 = .ok (.iadd, 1) := by decide +kernel
theorem dL_law_417 : decode cL_law 417 = .ok (.iaload, 1) := by decide +kernel
theorem dL_law_418 : decode cL_law 418 = .ok (.aload_n 0, 1) := by decide +kernel
theorem dL_law_419 : decode cL_law 419 = .ok (.iload_n 3, 1) := by decide +kernel
theorem dL_law_420 : decode cL_law 420 = .ok (.iconst 2, 1) := by decide +kernel
theorem dL_law_421 : decode cL_law 421 = .ok (.iadd, 1) := by decide +kernel
theorem dL_law_422 : decode cL_law 422 = .ok (.iaload, 1) := by decide +kernel
theorem dL_law_423 : decode cL_law 423 = .ok (.invokevirtual 51, 3) := by decide +kernel
theorem dL_law_426 : decode cL_law 426 = .ok (.if_icmp .eq 1077, 3) := by decide +kernel
theorem dL_law_429 : decode cL_law 429 = .ok (.iconst 0, 1) := by decide +kernel
theorem dL_law_430 : decode cL_law 430 = .ok (.ireturn, 1) := by decide +kernel
theorem dL_law_431 : decode cL_law 431 = .ok (.aload_n 1, 1) := by decide +kernel
theorem dL_law_432 : decode cL_law 432 = .ok (.aload_n 0, 1) := by decide +kernel
theorem dL_law_433 : decode cL_law 433 = .ok (.iload_n 3, 1) := by decide +kernel
theorem dL_law_434 : decode cL_law 434 = .ok (.iconst 1, 1) := by decide +kernel
theorem dL_law_435 : decode cL_law 435 = .ok (.iadd, 1) := by decide +kernel
theorem dL_law_436 : decode cL_law 436 = .ok (.iaload, 1) := by decide +kernel
theorem dL_law_437 : decode cL_law 437 = .ok (.aload_n 0, 1) := by decide +kernel
theorem dL_law_438 : decode cL_law 438 = .ok (.iload_n 3, 1) := by decide +kernel
theorem dL_law_439 : decode cL_law 439 = .ok (.iconst 2, 1) := by decide +kernel
theorem dL_law_440 : decode cL_law 440 = .ok (.iadd, 1) := by decide +kernel
theorem dL_law_441 : decode cL_law 441 = .ok (.iaload, 1) := by decide +kernel
theorem dL_law_442 : decode cL_law 442 = .ok (.aload_n 0, 1) := by decide +kernel
theorem dL_law_443 : decode cL_law 443 = .ok (.iload_n 3, 1) := by decide +kernel
theorem dL_law_444 : decode cL_law 444 = .ok (.iconst 3, 1) := by decide +kernel
theorem dL_law_445 : decode cL_law 445 = .ok (.iadd, 1) := by decide +kernel
theorem dL_law_446 : decode cL_law 446 = .ok (.iaload, 1) := by decide +kernel
theorem dL_law_447 : decode cL_law 447 = .ok (.invokevirtual 52, 3) := by decide +kernel
theorem dL_law_450 : decode cL_law 450 = .ok (.aload_n 2, 1) := by decide +kernel
theorem dL_law_451 : decode cL_law 451 = .ok (.aload_n 0, 1) := by decide +kernel
theorem dL_law_452 : decode cL_law 452 = .ok (.iload_n 3, 1) := by decide +kernel
theorem dL_law_453 : decode cL_law 453 = .ok (.iconst 1, 1) := by decide +kernel
theorem dL_law_454 : decode cL_law 454 = .ok (.iadd, 1) := by decide +kernel
theorem dL_law_455 : decode cL_law 455 = .ok (.iaload, 1) := by decide +kernel
theorem dL_law_456 : decode cL_law 456 = .ok (.aload_n 0, 1) := by decide +kernel
theorem dL_law_457 : decode cL_law 457 = .ok (.iload_n 3, 1) := by decide +kernel
theorem dL_law_458 : decode cL_law 458 = .ok (.iconst 2, 1) := by decide +kernel
theorem dL_law_459 : decode cL_law 459 = .ok (.iadd, 1) := by decide +kernel
theorem dL_law_460 : decode cL_law 460 = .ok (.iaload, 1) := by decide +kernel
theorem dL_law_461 : decode cL_law 461 = .ok (.aload_n 0, 1) := by decide +kernel
theorem dL_law_462 : decode cL_law 462 = .ok (.iload_n 3, 1) := by decide +kernel
theorem dL_law_463 : decode cL_law 463 = .ok (.iconst 3, 1) := by decide +kernel
theorem dL_law_464 : decode cL_law 464 = .ok (.iadd, 1) := by decide +kernel
theorem dL_law_465 : decode cL_law 465 = .ok (.iaload, 1) := by decide +kernel
theorem dL_law_466 : decode cL_law 466 = .ok (.invokevirtual 56, 3) := by decide +kernel
theorem dL_law_469 : decode cL_law 469 = .ok (.if_icmp .eq 1034, 3) := by decide +kernel
theorem dL_law_472 : decode cL_law 472 = .ok (.iconst 0, 1) := by decide +kernel
theorem dL_law_473 : decode cL_law 473 = .ok (.ireturn, 1) := by decide +kernel
theorem dL_law_474 : decode cL_law 474 = .ok (.aload_n 1, 1) := by decide +kernel
theorem dL_law_475 : decode cL_law 475 = .ok (.aload_n 0, 1) := by decide +kernel
theorem dL_law_476 : decode cL_law 476 = .ok (.iload_n 3, 1) := by decide +kernel
theorem dL_law_477 : decode cL_law 477 = .ok (.iconst 1, 1) := by decide +kernel
theorem dL_law_478 : decode cL_law 478 = .ok (.iadd, 1) := by decide +kernel
theorem dL_law_479 : decode cL_law 479 = .ok (.iaload, 1) := by decide +kernel
theorem dL_law_480 : decode cL_law 480 = .ok (.aload_n 0, 1) := by decide +kernel
theorem dL_law_481 : decode cL_law 481 = .ok (.iload_n 3, 1) := by decide +kernel
theorem dL_law_482 : decode cL_law 482 = .ok (.iconst 2, 1) := by decide +kernel
theorem dL_law_483 : decode cL_law 483 = .ok (.iadd, 1) := by decide +kernel
theorem dL_law_484 : decode cL_law 484 = .ok (.iaload, 1) := by decide +kernel
theorem dL_law_485 : decode cL_law 485 = .ok (.aload_n 0, 1) := by decide +kernel
theorem dL_law_486 : decode cL_law 486 = .ok (.iload_n 3, 1) := by decide +kernel
theorem dL_law_487 : decode cL_law 487 = .ok (.iconst 3, 1) := by decide +kernel
theorem dL_law_488 : decode cL_law 488 = .ok (.iadd, 1) := by decide +kernel
theorem dL_law_489 : decode cL_law 489 = .ok (.iaload, 1) := by decide +kernel
theorem dL_law_490 : decode cL_law 490 = .ok (.invokevirtual 57, 3) := by decide +kernel
theorem dL_law_493 : decode cL_law 493 = .ok (.aload_n 2, 1) := by decide +kernel
theorem dL_law_494 : decode cL_law 494 = .ok (.aload_n 0, 1) := by decide +kernel
theorem dL_law_495 : decode cL_law 495 = .ok (.iload_n 3, 1) := by decide +kernel
theorem dL_law_496 : decode cL_law 496 = .ok (.iconst 1, 1) := by decide +kernel
theorem dL_law_497 : decode cL_law 497 = .ok (.iadd, 1) := by decide +kernel
theorem dL_law_498 : decode cL_law 498 = .ok (.iaload, 1) := by decide +kernel
theorem dL_law_499 : decode cL_law 499 = .ok (.aload_n 0, 1) := by decide +kernel
theorem dL_law_500 : decode cL_law 500 = .ok (.iload_n 3, 1) := by decide +kernel
theorem dL_law_501 : decode cL_law 501 = .ok (.iconst 2, 1) := by decide +kernel
theorem dL_law_502 : decode cL_law 502 = .ok (.iadd, 1) := by decide +kernel
theorem dL_law_503 : decode cL_law 503 = .ok (.iaload, 1) := by decide +kernel
theorem dL_law_504 : decode cL_law 504 = .ok (.aload_n 0, 1) := by decide +kernel
theorem dL_law_505 : decode cL_law 505 = .ok (.iload_n 3, 1) := by decide +kernel
theorem dL_law_506 : decode cL_law 506 = .ok (.iconst 3, 1) := by decide +kernel
theorem dL_law_507 : decode cL_law 507 = .ok (.iadd, 1) := by decide +kernel
theorem dL_law_508 : decode cL_law 508 = .ok (.iaload, 1) := by decide +kernel
theorem dL_law_509 : decode cL_law 509 = .ok (.invokevirtual 60, 3) := by decide +kernel
theorem dL_law_512 : decode cL_law 512 = .ok (.if_icmp .eq 991, 3) := by decide +kernel
theorem dL_law_515 : decode cL_law 515 = .ok (.iconst 0, 1) := by decide +kernel
theorem dL_law_516 : decode cL_law 516 = .ok (.ireturn, 1) := by decide +kernel
theorem dL_law_517 : decode cL_law 517 = .ok (.aload_n 1, 1) := by decide +kernel
theorem dL_law_518 : decode cL_law 518 = .ok (.aload_n 0, 1) := by decide +kernel
theorem dL_law_519 : decode cL_law 519 = .ok (.iload_n 3, 1) := by decide +kernel
theorem dL_law_520 : decode cL_law 520 = .ok (.iconst 1, 1) := by decide +kernel
theorem dL_law_521 : decode cL_law 521 = .ok (.iadd, 1) := by decide +kernel
theorem dL_law_522 : decode cL_law 522 = .ok (.iaload, 1) := by decide +kernel
theorem dL_law_523 : decode cL_law 523 = .ok (.aload_n 0, 1) := by decide +kernel
theorem dL_law_524 : decode cL_law 524 = .ok (.iload_n 3, 1) := by decide +kernel
theorem dL_law_525 : decode cL_law 525 = .ok (.iconst 2, 1) := by decide +kernel
theorem dL_law_526 : decode cL_law 526 = .ok (.iadd, 1) := by decide +kernel
theorem dL_law_527 : decode cL_law 527 = .ok (.iaload, 1) := by decide +kernel
theorem dL_law_528 : decode cL_law 528 = .ok (.aload_n 0, 1) := by decide +kernel
theorem dL_law_529 : decode cL_law 529 = .ok (.iload_n 3, 1) := by decide +kernel
theorem dL_law_530 : decode cL_law 530 = .ok (.iconst 3, 1) := by decide +kernel
theorem dL_law_531 : decode cL_law 531 = .ok (.iadd, 1) := by decide +kernel
theorem dL_law_532 : decode cL_law 532 = .ok (.iaload, 1) := by decide +kernel
theorem dL_law_533 : decode cL_law 533 = .ok (.invokevirtual 61, 3) := by decide +kernel
theorem dL_law_536 : decode cL_law 536 = .ok (.aload_n 2, 1) := by decide +kernel
theorem dL_law_537 : decode cL_law 537 = .ok (.aload_n 0, 1) := by decide +kernel
theorem dL_law_538 : decode cL_law 538 = .ok (.iload_n 3, 1) := by decide +kernel
theorem dL_law_539 : decode cL_law 539 = .ok (.iconst 1, 1) := by decide +kernel
theorem dL_law_540 : decode cL_law 540 = .ok (.iadd, 1) := by decide +kernel
theorem dL_law_541 : decode cL_law 541 = .ok (.iaload, 1) := by decide +kernel
theorem dL_law_542 : decode cL_law 542 = .ok (.aload_n 0, 1) := by decide +kernel
theorem dL_law_543 : decode cL_law 543 = .ok (.iload_n 3, 1) := by decide +kernel
theorem dL_law_544 : decode cL_law 544 = .ok (.iconst 2, 1) := by decide +kernel
theorem dL_law_545 : decode cL_law 545 = .ok (.iadd, 1) := by decide +kernel
theorem dL_law_546 : decode cL_law 546 = .ok (.iaload, 1) := by decide +kernel
theorem dL_law_547 : decode cL_law 547 = .ok (.aload_n 0, 1) := by decide +kernel
theorem dL_law_548 : decode cL_law 548 = .ok (.iload_n 3, 1) := by decide +kernel
theorem dL_law_549 : decode cL_law 549 = .ok (.iconst 3, 1) := by decide +kernel
theorem dL_law_550 : decode cL_law 550 = .ok (.iadd, 1) := by decide +kernel
theorem dL_law_551 : decode cL_law 551 = .ok (.iaload, 1) := by decide +kernel
theorem dL_law_552 : decode cL_law 552 = .ok (.invokevirtual 64, 3) := by decide +kernel
theorem dL_law_555 : decode cL_law 555 = .ok (.if_icmp .eq 948, 3) := by decide +kernel
theorem dL_law_558 : decode cL_law 558 = .ok (.iconst 0, 1) := by decide +kernel
theorem dL_law_559 : decode cL_law 559 = .ok (.ireturn, 1) := by decide +kernel
theorem dL_law_560 : decode cL_law 560 = .ok (.aload_n 1, 1) := by decide +kernel
theorem dL_law_561 : decode cL_law 561 = .ok (.aload_n 0, 1) := by decide +kernel
theorem dL_law_562 : decode cL_law 562 = .ok (.iload_n 3, 1) := by decide +kernel
theorem dL_law_563 : decode cL_law 563 = .ok (.iconst 1, 1) := by decide +kernel
theorem dL_law_564 : decode cL_law 564 = .ok (.iadd, 1) := by decide +kernel
theorem dL_law_565 : decode cL_law 565 = .ok (.iaload, 1) := by decide +kernel
theorem dL_law_566 : decode cL_law 566 = .ok (.aload_n 0, 1) := by decide +kernel
theorem dL_law_567 : decode cL_law 567 = .ok (.iload_n 3, 1) := by decide +kernel
theorem dL_law_568 : decode cL_law 568 = .ok (.iconst 2, 1) := by decide +kernel
theorem dL_law_569 : decode cL_law 569 = .ok (.iadd, 1) := by decide +kernel
theorem dL_law_570 : decode cL_law 570 = .ok (.iaload, 1) := by decide +kernel
theorem dL_law_571 : decode cL_law 571 = .ok (.aload_n 0, 1) := by decide +kernel
theorem dL_law_572 : decode cL_law 572 = .ok (.iload_n 3, 1) := by decide +kernel
theorem dL_law_573 : decode cL_law 573 = .ok (.iconst 3, 1) := by decide +kernel
theorem dL_law_574 : decode cL_law 574 = .ok (.iadd, 1) := by decide +kernel
theorem dL_law_575 : decode cL_law 575 = .ok (.iaload, 1) := by decide +kernel
theorem dL_law_576 : decode cL_law 576 = .ok (.invokevirtual 65, 3) := by decide +kernel
theorem dL_law_579 : decode cL_law 579 = .ok (.aload_n 2, 1) := by decide +kernel
theorem dL_law_580 : decode cL_law 580 = .ok (.aload_n 0, 1) := by decide +kernel
theorem dL_law_581 : decode cL_law 581 = .ok (.iload_n 3, 1) := by decide +kernel
theorem dL_law_582 : decode cL_law 582 = .ok (.iconst 1, 1) := by decide +kernel
theorem dL_law_583 : decode cL_law 583 = .ok (.iadd, 1) := by decide +kernel
theorem dL_law_584 : decode cL_law 584 = .ok (.iaload, 1) := by decide +kernel
theorem dL_law_585 : decode cL_law 585 = .ok (.aload_n 0, 1) := by decide +kernel
theorem dL_law_586 : decode cL_law 586 = .ok (.iload_n 3, 1) := by decide +kernel
theorem dL_law_587 : decode cL_law 587 = .ok (.iconst 2, 1) := by decide +kernel
theorem dL_law_588 : decode cL_law 588 = .ok (.iadd, 1) := by decide +kernel
theorem dL_law_589 : decode cL_law 589 = .ok (.iaload, 1) := by decide +kernel
theorem dL_law_590 : decode cL_law 590 = .ok (.aload_n 0, 1) := by decide +kernel
theorem dL_law_591 : decode cL_law 591 = .ok (.iload_n 3, 1) := by decide +kernel
theorem dL_law_592 : decode cL_law 592 = .ok (.iconst 3, 1) := by decide +kernel
theorem dL_law_593 : decode cL_law 593 = .ok (.iadd, 1) := by decide +kernel
theorem dL_law_594 : decode cL_law 594 = .ok (.iaload, 1) := by decide +kernel
theorem dL_law_595 : decode cL_law 595 = .ok (.invokevirtual 68, 3) := by decide +kernel
theorem dL_law_598 : decode cL_law 598 = .ok (.if_icmp .eq 905, 3) := by decide +kernel
theorem dL_law_601 : decode cL_law 601 = .ok (.iconst 0, 1) := by decide +kernel
theorem dL_law_602 : decode cL_law 602 = .ok (.ireturn, 1) := by decide +kernel
theorem dL_law_603 : decode cL_law 603 = .ok (.aload_n 1, 1) := by decide +kernel
theorem dL_law_604 : decode cL_law 604 = .ok (.aload_n 0, 1) := by decide +kernel
theorem dL_law_605 : decode cL_law 605 = .ok (.iload_n 3, 1) := by decide +kernel
theorem dL_law_606 : decode cL_law 606 = .ok (.iconst 1, 1) := by decide +kernel
theorem dL_law_607 : decode cL_law 607 = .ok (.iadd, 1) := by decide +kernel
theorem dL_law_608 : decode cL_law 608 = .ok (.iaload, 1) := by decide +kernel
theorem dL_law_609 : decode cL_law 609 = .ok (.invokevirtual 69, 3) := by decide +kernel
theorem dL_law_612 : decode cL_law 612 = .ok (.aload_n 2, 1) := by decide +kernel
theorem dL_law_613 : decode cL_law 613 = .ok (.aload_n 0, 1) := by decide +kernel
theorem dL_law_614 : decode cL_law 614 = .ok (.iload_n 3, 1) := by decide +kernel
theorem dL_law_615 : decode cL_law 615 = .ok (.iconst 1, 1) := by decide +kernel
theorem dL_law_616 : decode cL_law 616 = .ok (.iadd, 1) := by decide +kernel
theorem dL_law_617 : decode cL_law 617 = .ok (.iaload, 1) := by decide +kernel
theorem dL_law_618 : decode cL_law 618 = .ok (.invokevirtual 72, 3) := by decide +kernel
theorem dL_law_621 : decode cL_law 621 = .ok (.if_icmp .eq 882, 3) := by decide +kernel
theorem dL_law_624 : decode cL_law 624 = .ok (.iconst 0, 1) := by decide +kernel
theorem dL_law_625 : decode cL_law 625 = .ok (.ireturn, 1) := by decide +kernel
theorem dL_law_626 : decode cL_law 626 = .ok (.aload_n 1, 1) := by decide +kernel
theorem dL_law_627 : decode cL_law 627 = .ok (.aload_n 0, 1) := by decide +kernel
theorem dL_law_628 : decode cL_law 628 = .ok (.iload_n 3, 1) := by decide +kernel
theorem dL_law_629 : decode cL_law 629 = .ok (.iconst 1, 1) := by decide +kernel
theorem dL_law_630 : decode cL_law 630 = .ok (.iadd, 1) := by decide +kernel
theorem dL_law_631 : decode cL_law 631 = .ok (.iaload, 1) := by decide +kernel
theorem dL_law_632 : decode cL_law 632 = .ok (.aload_n 0, 1) := by decide +kernel
theorem dL_law_633 : decode cL_law 633 = .ok (.iload_n 3, 1) := by decide +kernel
theorem dL_law_634 : decode cL_law 634 = .ok (.iconst 2, 1) := by decide +kernel
theorem dL_law_635 : decode cL_law 635 = .ok (.iadd, 1) := by decide +kernel
theorem dL_law_636 : decode cL_law 636 = .ok (.iaload, 1) := by decide +kernel
theorem dL_law_637 : decode cL_law 637 = .ok (.invokevirtual 73, 3) := by decide +kernel
theorem dL_law_640 : decode cL_law 640 = .ok (.aload_n 2, 1) := by decide +kernel
theorem dL_law_641 : decode cL_law 641 = .ok (.aload_n 0, 1) := by decide +kernel
theorem dL_law_642 : decode cL_law 642 = .ok (.iload_n 3, 1) := by decide +kernel
theorem dL_law_643 : decode cL_law 643 = .ok (.iconst 1, 1) := by decide +kernel
theorem dL_law_644 : decode cL_law 644 = .ok (.iadd, 1) := by decide +kernel
theorem dL_law_645 : decode cL_law 645 = .ok (.iaload, 1) := by decide +kernel
theorem dL_law_646 : decode cL_law 646 = .ok (.aload_n 0, 1) := by decide +kernel
theorem dL_law_647 : decode cL_law 647 = .ok (.iload_n 3, 1) := by decide +kernel
theorem dL_law_648 : decode cL_law 648 = .ok (.iconst 2, 1) := by decide +kernel
theorem dL_law_649 : decode cL_law 649 = .ok (.iadd, 1) := by decide +kernel
theorem dL_law_650 : decode cL_law 650 = .ok (.iaload, 1) := by decide +kernel
theorem dL_law_651 : decode cL_law 651 = .ok (.invokevirtual 76, 3) := by decide +kernel
theorem dL_law_654 : decode cL_law 654 = .ok (.if_icmp .eq 849, 3) := by decide +kernel
theorem dL_law_657 : decode cL_law 657 = .ok (.iconst 0, 1) := by decide +kernel
theorem dL_law_658 : decode cL_law 658 = .ok (.ireturn, 1) := by decide +kernel
theorem dL_law_659 : decode cL_law 659 = .ok (.aload_n 1, 1) := by decide +kernel
theorem dL_law_660 : decode cL_law 660 = .ok (.aload_n 0, 1) := by decide +kernel
theorem dL_law_661 : decode cL_law 661 = .ok (.iload_n 3, 1) := by decide +kernel
theorem dL_law_662 : decode cL_law 662 = .ok (.iconst 1, 1) := by decide +kernel
theorem dL_law_663 : decode cL_law 663 = .ok (.iadd, 1) := by decide +kernel
theorem dL_law_664 : decode cL_law 664 = .ok (.iaload, 1) := by decide +kernel
theorem dL_law_665 : decode cL_law 665 = .ok (.aload_n 0, 1) := by decide +kernel
theorem dL_law_666 : decode cL_law 666 = .ok (.iload_n 3, 1) := by decide +kernel
theorem dL_law_667 : decode cL_law 667 = .ok (.iconst 2, 1) := by decide +kernel
theorem dL_law_668 : decode cL_law 668 = .ok (.iadd, 1) := by decide +kernel
theorem dL_law_669 : decode cL_law 669 = .ok (.iaload, 1) := by decide +kernel
theorem dL_law_670 : decode cL_law 670 = .ok (.aload_n 0, 1) := by decide +kernel
theorem dL_law_671 : decode cL_law 671 = .ok (.iload_n 3, 1) := by decide +kernel
theorem dL_law_672 : decode cL_law 672 = .ok (.iconst 3, 1) := by decide +kernel
theorem dL_law_673 : decode cL_law 673 = .ok (.iadd, 1) := by decide +kernel
theorem dL_law_674 : decode cL_law 674 = .ok (.iaload, 1) := by decide +kernel
theorem dL_law_675 : decode cL_law 675 = .ok (.invokevirtual 77, 3) := by decide +kernel
theorem dL_law_678 : decode cL_law 678 = .ok (.aload_n 2, 1) := by decide +kernel
theorem dL_law_679 : decode cL_law 679 = .ok (.aload_n 0, 1) := by decide +kernel
theorem dL_law_680 : decode cL_law 680 = .ok (.iload_n 3, 1) := by decide +kernel
theorem dL_law_681 : decode cL_law 681 = .ok (.iconst 1, 1) := by decide +kernel
theorem dL_law_682 : decode cL_law 682 = .ok (.iadd, 1) := by decide +kernel
theorem dL_law_683 : decode cL_law 683 = .ok (.iaload, 1) := by decide +kernel
theorem dL_law_684 : decode cL_law 684 = .ok (.aload_n 0, 1) := by decide +kernel
theorem dL_law_685 : decode cL_law 685 = .ok (.iload_n 3, 1) := by decide +kernel
theorem dL_law_686 : decode cL_law 686 = .ok (.iconst 2, 1) := by decide +kernel
theorem dL_law_687 : decode cL_law 687 = .ok (.iadd, 1) := by decide +kernel
theorem dL_law_688 : decode cL_law 688 = .ok (.iaload, 1) := by decide +kernel
theorem dL_law_689 : decode cL_law 689 = .ok (.aload_n 0, 1) := by decide +kernel
theorem dL_law_690 : decode cL_law 690 = .ok (.iload_n 3, 1) := by decide +kernel
theorem dL_law_691 : decode cL_law 691 = .ok (.iconst 3, 1) := by decide +kernel
theorem dL_law_692 : decode cL_law 692 = .ok (.iadd, 1) := by decide +kernel
theorem dL_law_693 : decode cL_law 693 = .ok (.iaload, 1) := by decide +kernel
theorem dL_law_694 : decode cL_law 694 = .ok (.invokevirtual 80, 3) := by decide +kernel
theorem dL_law_697 : decode cL_law 697 = .ok (.if_icmp .eq 806, 3) := by decide +kernel
theorem dL_law_700 : decode cL_law 700 = .ok (.iconst 0, 1) := by decide +kernel
theorem dL_law_701 : decode cL_law 701 = .ok (.ireturn, 1) := by decide +kernel
theorem dL_law_702 : decode cL_law 702 = .ok (.aload_n 1, 1) := by decide +kernel
theorem dL_law_703 : decode cL_law 703 = .ok (.aload_n 0, 1) := by decide +kernel
theorem dL_law_704 : decode cL_law 704 = .ok (.iload_n 3, 1) := by decide +kernel
theorem dL_law_705 : decode cL_law 705 = .ok (.iconst 1, 1) := by decide +kernel
theorem dL_law_706 : decode cL_law 706 = .ok (.iadd, 1) := by decide +kernel
theorem dL_law_707 : decode cL_law 707 = .ok (.iaload, 1) := by decide +kernel
theorem dL_law_708 : decode cL_law 708 = .ok (.invokevirtual 81, 3) := by decide +kernel
theorem dL_law_711 : decode cL_law 711 = .ok (.aload_n 2, 1) := by decide +kernel
theorem dL_law_712 : decode cL_law 712 = .ok (.aload_n 0, 1) := by decide +kernel
theorem dL_law_713 : decode cL_law 713 = .ok (.iload_n 3, 1) := by decide +kernel
theorem dL_law_714 : decode cL_law 714 = .ok (.iconst 1, 1) := by decide +kernel
theorem dL_law_715 : decode cL_law 715 = .ok (.iadd, 1) := by decide +kernel
theorem dL_law_716 : decode cL_law 716 = .ok (.iaload, 1) := by decide +kernel
theorem dL_law_717 : decode cL_law 717 = .ok (.invokevirtual 84, 3) := by decide +kernel
theorem dL_law_720 : decode cL_law 720 = .ok (.if_icmp .eq 783, 3) := by decide +kernel
theorem dL_law_723 : decode cL_law 723 = .ok (.iconst 0, 1) := by decide +kernel
theorem dL_law_724 : decode cL_law 724 = .ok (.ireturn, 1) := by decide +kernel
theorem dL_law_725 : decode cL_law 725 = .ok (.aload_n 1, 1) := by decide +kernel
theorem dL_law_726 : decode cL_law 726 = .ok (.aload_n 0, 1) := by decide +kernel
theorem dL_law_727 : decode cL_law 727 = .ok (.iload_n 3, 1) := by decide +kernel
theorem dL_law_728 : decode cL_law 728 = .ok (.iconst 1, 1) := by decide +kernel
theorem dL_law_729 : decode cL_law 729 = .ok (.iadd, 1) := by decide +kernel
theorem dL_law_730 : decode cL_law 730 = .ok (.iaload, 1) := by decide +kernel
theorem dL_law_731 : decode cL_law 731 = .ok (.aload_n 0, 1) := by decide +kernel
theorem dL_law_732 : decode cL_law 732 = .ok (.iload_n 3, 1) := by decide +kernel
theorem dL_law_733 : decode cL_law 733 = .ok (.iconst 2, 1) := by decide +kernel
theorem dL_law_734 : decode cL_law 734 = .ok (.iadd, 1) := by decide +kernel
theorem dL_law_735 : decode cL_law 735 = .ok (.iaload, 1) := by decide +kernel
theorem dL_law_736 : decode cL_law 736 = .ok (.aload_n 0, 1) := by decide +kernel
theorem dL_law_737 : decode cL_law 737 = .ok (.iload_n 3, 1) := by decide +kernel
theorem dL_law_738 : decode cL_law 738 = .ok (.iconst 3, 1) := by decide +kernel
theorem dL_law_739 : decode cL_law 739 = .ok (.iadd, 1) := by decide +kernel
theorem dL_law_740 : decode cL_law 740 = .ok (.iaload, 1) := by decide +kernel
theorem dL_law_741 : decode cL_law 741 = .ok (.invokevirtual 85, 3) := by decide +kernel
theorem dL_law_744 : decode cL_law 744 = .ok (.aload_n 2, 1) := by decide +kernel
theorem dL_law_745 : decode cL_law 745 = .ok (.aload_n 0, 1) := by decide +kernel
theorem dL_law_746 : decode cL_law 746 = .ok (.iload_n 3, 1) := by decide +kernel
theorem dL_law_747 : decode cL_law 747 = .ok (.iconst 1, 1) := by decide +kernel
theorem dL_law_748 : decode cL_law 748 = .ok (.iadd, 1) := by decide +kernel
theorem dL_law_749 : decode cL_law 749 = .ok (.iaload, 1) := by decide +kernel
theorem dL_law_750 : decode cL_law 750 = .ok (.aload_n 0, 1) := by decide +kernel
theorem dL_law_751 : decode cL_law 751 = .ok (.iload_n 3, 1) := by decide +kernel
theorem dL_law_752 : decode cL_law 752 = .ok (.iconst 2, 1) := by decide +kernel
theorem dL_law_753 : decode cL_law 753 = .ok (.iadd, 1) := by decide +kernel
theorem dL_law_754 : decode cL_law 754 = .ok (.iaload, 1) := by decide +kernel
theorem dL_law_755 : decode cL_law 755 = .ok (.aload_n 0, 1) := by decide +kernel
theorem dL_law_756 : decode cL_law 756 = .ok (.iload_n 3, 1) := by decide +kernel
theorem dL_law_757 : decode cL_law 757 = .ok (.iconst 3, 1) := by decide +kernel
theorem dL_law_758 : decode cL_law 758 = .ok (.iadd, 1) := by decide +kernel
theorem dL_law_759 : decode cL_law 759 = .ok (.iaload, 1) := by decide +kernel
theorem dL_law_760 : decode cL_law 760 = .ok (.invokevirtual 88, 3) := by decide +kernel
theorem dL_law_763 : decode cL_law 763 = .ok (.if_icmp .eq 740, 3) := by decide +kernel
theorem dL_law_766 : decode cL_law 766 = .ok (.iconst 0, 1) := by decide +kernel
theorem dL_law_767 : decode cL_law 767 = .ok (.ireturn, 1) := by decide +kernel
theorem dL_law_768 : decode cL_law 768 = .ok (.aload_n 1, 1) := by decide +kernel
theorem dL_law_769 : decode cL_law 769 = .ok (.aload_n 0, 1) := by decide +kernel
theorem dL_law_770 : decode cL_law 770 = .ok (.iload_n 3, 1) := by decide +kernel
theorem dL_law_771 : decode cL_law 771 = .ok (.iconst 1, 1) := by decide +kernel
theorem dL_law_772 : decode cL_law 772 = .ok (.iadd, 1) := by decide +kernel
theorem dL_law_773 : decode cL_law 773 = .ok (.iaload, 1) := by decide +kernel
theorem dL_law_774 : decode cL_law 774 = .ok (.aload_n 0, 1) := by decide +kernel
theorem dL_law_775 : decode cL_law 775 = .ok (.iload_n 3, 1) := by decide +kernel
theorem dL_law_776 : decode cL_law 776 = .ok (.iconst 2, 1) := by decide +kernel
theorem dL_law_777 : decode cL_law 777 = .ok (.iadd, 1) := by decide +kernel
theorem dL_law_778 : decode cL_law 778 = .ok (.iaload, 1) := by decide +kernel
theorem dL_law_779 : decode cL_law 779 = .ok (.aload_n 0, 1) := by decide +kernel
theorem dL_law_780 : decode cL_law 780 = .ok (.iload_n 3, 1) := by decide +kernel
theorem dL_law_781 : decode cL_law 781 = .ok (.iconst 3, 1) := by decide +kernel
theorem dL_law_782 : decode cL_law 782 = .ok (.iadd, 1) := by decide +kernel
theorem dL_law_783 : decode cL_law 783 = .ok (.iaload, 1) := by decide +kernel
theorem dL_law_784 : decode cL_law 784 = .ok (.invokevirtual 89, 3) := by decide +kernel
theorem dL_law_787 : decode cL_law 787 = .ok (.aload_n 2, 1) := by decide +kernel
theorem dL_law_788 : decode cL_law 788 = .ok (.aload_n 0, 1) := by decide +kernel
theorem dL_law_789 : decode cL_law 789 = .ok (.iload_n 3, 1) := by decide +kernel
theorem dL_law_790 : decode cL_law 790 = .ok (.iconst 1, 1) := by decide +kernel
theorem dL_law_791 : decode cL_law 791 = .ok (.iadd, 1) := by decide +kernel
theorem dL_law_792 : decode cL_law 792 = .ok (.iaload, 1) := by decide +kernel
theorem dL_law_793 : decode cL_law 793 = .ok (.aload_n 0, 1) := by decide +kernel
theorem dL_law_794 : decode cL_law 794 = .ok (.iload_n 3, 1) := by decide +kernel
theorem dL_law_795 : decode cL_law 795 = .ok (.iconst 2, 1) := by decide +kernel
theorem dL_law_796 : decode cL_law 796 = .ok (.iadd, 1) := by decide +kernel
theorem dL_law_797 : decode cL_law 797 = .ok (.iaload, 1) := by decide +kernel
theorem dL_law_798 : decode cL_law 798 = .ok (.aload_n 0, 1) := by decide +kernel
theorem dL_law_799 : decode cL_law 799 = .ok (.iload_n 3, 1) := by decide +kernel
theorem dL_law_800 : decode cL_law 800 = .ok (.iconst 3, 1) := by decide +kernel
theorem dL_law_801 : decode cL_law 801 = .ok (.iadd, 1) := by decide +kernel
theorem dL_law_802 : decode cL_law 802 = .ok (.iaload, 1) := by decide +kernel
theorem dL_law_803 : decode cL_law 803 = .ok (.invokevirtual 92, 3) := by decide +kernel
theorem dL_law_806 : decode cL_law 806 = .ok (.if_icmp .eq 697, 3) := by decide +kernel
theorem dL_law_809 : decode cL_law 809 = .ok (.iconst 0, 1) := by decide +kernel
theorem dL_law_810 : decode cL_law 810 = .ok (.ireturn, 1) := by decide +kernel
theorem dL_law_811 : decode cL_law 811 = .ok (.aload_n 1, 1) := by decide +kernel
theorem dL_law_812 : decode cL_law 812 = .ok (.aload_n 0, 1) := by decide +kernel
theorem dL_law_813 : decode cL_law 813 = .ok (.iload_n 3, 1) := by decide +kernel
theorem dL_law_814 : decode cL_law 814 = .ok (.iconst 1, 1) := by decide +kernel
theorem dL_law_815 : decode cL_law 815 = .ok (.iadd, 1) := by decide +kernel
theorem dL_law_816 : decode cL_law 816 = .ok (.iaload, 1) := by decide +kernel
theorem dL_law_817 : decode cL_law 817 = .ok (.aload_n 0, 1) := by decide +kernel
theorem dL_law_818 : decode cL_law 818 = .ok (.iload_n 3, 1) := by decide +kernel
theorem dL_law_819 : decode cL_law 819 = .ok (.iconst 2, 1) := by decide +kernel
theorem dL_law_820 : decode cL_law 820 = .ok (.iadd, 1) := by decide +kernel
theorem dL_law_821 : decode cL_law 821 = .ok (.iaload, 1) := by decide +kernel
theorem dL_law_822 : decode cL_law 822 = .ok (.invokevirtual 93, 3) := by decide +kernel
theorem dL_law_825 : decode cL_law 825 = .ok (.aload_n 2, 1) := by decide +kernel
theorem dL_law_826 : decode cL_law 826 = .ok (.aload_n 0, 1) := by decide +kernel
theorem dL_law_827 : decode cL_law 827 = .ok (.iload_n 3, 1) := by decide +kernel
theorem dL_law_828 : decode cL_law 828 = .ok (.iconst 1, 1) := by decide +kernel
theorem dL_law_829 : decode cL_law 829 = .ok (.iadd, 1) := by decide +kernel
theorem dL_law_830 : decode cL_law 830 = .ok (.iaload, 1) := by decide +kernel
theorem dL_law_831 : decode cL_law 831 = .ok (.aload_n 0, 1) := by decide +kernel
theorem dL_law_832 : decode cL_law 832 = .ok (.iload_n 3, 1) := by decide +kernel
theorem dL_law_833 : decode cL_law 833 = .ok (.iconst 2, 1) := by decide +kernel
theorem dL_law_834 : decode cL_law 834 = .ok (.iadd, 1) := by decide +kernel
theorem dL_law_835 : decode cL_law 835 = .ok (.iaload, 1) := by decide +kernel
theorem dL_law_836 : decode cL_law 836 = .ok (.invokevirtual 96, 3) := by decide +kernel
theorem dL_law_839 : decode cL_law 839 = .ok (.if_icmp .eq 664, 3) := by decide +kernel
theorem dL_law_842 : decode cL_law 842 = .ok (.iconst 0, 1) := by decide +kernel
theorem dL_law_843 : decode cL_law 843 = .ok (.ireturn, 1) := by decide +kernel
theorem dL_law_844 : decode cL_law 844 = .ok (.aload_n 1, 1) := by decide +kernel
theorem dL_law_845 : decode cL_law 845 = .ok (.aload_n 0, 1) := by decide +kernel
theorem dL_law_846 : decode cL_law 846 = .ok (.iload_n 3, 1) := by decide +kernel
theorem dL_law_847 : decode cL_law 847 = .ok (.iconst 1, 1) := by decide +kernel
theorem dL_law_848 : decode cL_law 848 = .ok (.iadd, 1) := by decide +kernel
theorem dL_law_849 : decode cL_law 849 = .ok (.iaload, 1) := by decide +kernel
theorem dL_law_850 : decode cL_law 850 = .ok (.invokevirtual 97, 3) := by decide +kernel
theorem dL_law_853 : decode cL_law 853 = .ok (.aload_n 2, 1) := by decide +kernel
theorem dL_law_854 : decode cL_law 854 = .ok (.aload_n 0, 1) := by decide +kernel
theorem dL_law_855 : decode cL_law 855 = .ok (.iload_n 3, 1) := by decide +kernel
theorem dL_law_856 : decode cL_law 856 = .ok (.iconst 1, 1) := by decide +kernel
theorem dL_law_857 : decode cL_law 857 = .ok (.iadd, 1) := by decide +kernel
theorem dL_law_858 : decode cL_law 858 = .ok (.iaload, 1) := by decide +kernel
theorem dL_law_859 : decode cL_law 859 = .ok (.invokevirtual 100, 3) := by decide +kernel
theorem dL_law_862 : decode cL_law 862 = .ok (.if_icmp .eq 641, 3) := by decide +kernel
theorem dL_law_865 : decode cL_law 865 = .ok (.iconst 0, 1) := by decide +kernel
theorem dL_law_866 : decode cL_law 866 = .ok (.ireturn, 1) := by decide +kernel
theorem dL_law_867 : decode cL_law 867 = .ok (.aload_n 1, 1) := by decide +kernel
theorem dL_law_868 : decode cL_law 868 = .ok (.aload_n 0, 1) := by decide +kernel
theorem dL_law_869 : decode cL_law 869 = .ok (.iload_n 3, 1) := by decide +kernel
theorem dL_law_870 : decode cL_law 870 = .ok (.iconst 1, 1) := by decide +kernel
theorem dL_law_871 : decode cL_law 871 = .ok (.iadd, 1) := by decide +kernel
theorem dL_law_872 : decode cL_law 872 = .ok (.iaload, 1) := by decide +kernel
theorem dL_law_873 : decode cL_law 873 = .ok (.aload_n 0, 1) := by decide +kernel
theorem dL_law_874 : decode cL_law 874 = .ok (.iload_n 3, 1) := by decide +kernel
theorem dL_law_875 : decode cL_law 875 = .ok (.iconst 2, 1) := by decide +kernel
theorem dL_law_876 : decode cL_law 876 = .ok (.iadd, 1) := by decide +kernel
theorem dL_law_877 : decode cL_law 877 = .ok (.iaload, 1) := by decide +kernel
theorem dL_law_878 : decode cL_law 878 = .ok (.invokevirtual 101, 3) := by decide +kernel
theorem dL_law_881 : decode cL_law 881 = .ok (.aload_n 2, 1) := by decide +kernel
theorem dL_law_882 : decode cL_law 882 = .ok (.aload_n 0, 1) := by decide +kernel
theorem dL_law_883 : decode cL_law 883 = .ok (.iload_n 3, 1) := by decide +kernel
theorem dL_law_884 : decode cL_law 884 = .ok (.iconst 1, 1) := by decide +kernel
theorem dL_law_885 : decode cL_law 885 = .ok (.iadd, 1) := by decide +kernel
theorem dL_law_886 : decode cL_law 886 = .ok (.iaload, 1) := by decide +kernel
theorem dL_law_887 : decode cL_law 887 = .ok (.aload_n 0, 1) := by decide +kernel
theorem dL_law_888 : decode cL_law 888 = .ok (.iload_n 3, 1) := by decide +kernel
theorem dL_law_889 : decode cL_law 889 = .ok (.iconst 2, 1) := by decide +kernel
theorem dL_law_890 : decode cL_law 890 = .ok (.iadd, 1) := by decide +kernel
theorem dL_law_891 : decode cL_law 891 = .ok (.iaload, 1) := by decide +kernel
theorem dL_law_892 : decode cL_law 892 = .ok (.invokevirtual 104, 3) := by decide +kernel
theorem dL_law_895 : decode cL_law 895 = .ok (.if_icmp .eq 608, 3) := by decide +kernel
theorem dL_law_898 : decode cL_law 898 = .ok (.iconst 0, 1) := by decide +kernel
theorem dL_law_899 : decode cL_law 899 = .ok (.ireturn, 1) := by decide +kernel
theorem dL_law_900 : decode cL_law 900 = .ok (.aload_n 1, 1) := by decide +kernel
theorem dL_law_901 : decode cL_law 901 = .ok (.aload_n 0, 1) := by decide +kernel
theorem dL_law_902 : decode cL_law 902 = .ok (.iload_n 3, 1) := by decide +kernel
theorem dL_law_903 : decode cL_law 903 = .ok (.iconst 1, 1) := by decide +kernel
theorem dL_law_904 : decode cL_law 904 = .ok (.iadd, 1) := by decide +kernel
theorem dL_law_905 : decode cL_law 905 = .ok (.iaload, 1) := by decide +kernel
theorem dL_law_906 : decode cL_law 906 = .ok (.aload_n 0, 1) := by decide +kernel
theorem dL_law_907 : decode cL_law 907 = .ok (.iload_n 3, 1) := by decide +kernel
theorem dL_law_908 : decode cL_law 908 = .ok (.iconst 2, 1) := by decide +kernel
theorem dL_law_909 : decode cL_law 909 = .ok (.iadd, 1) := by decide +kernel
theorem dL_law_910 : decode cL_law 910 = .ok (.iaload, 1) := by decide +kernel
theorem dL_law_911 : decode cL_law 911 = .ok (.invokevirtual 105, 3) := by decide +kernel
theorem dL_law_914 : decode cL_law 914 = .ok (.aload_n 2, 1) := by decide +kernel
theorem dL_law_915 : decode cL_law 915 = .ok (.aload_n 0, 1) := by decide +kernel
theorem dL_law_916 : decode cL_law 916 = .ok (.iload_n 3, 1) := by decide +kernel
theorem dL_law_917 : decode cL_law 917 = .ok (.iconst 1, 1) := by decide +kernel
theorem dL_law_918 : decode cL_law 918 = .ok (.iadd, 1) := by decide +kernel
theorem dL_law_919 : decode cL_law 919 = .ok (.iaload, 1) := by decide +kernel
theorem dL_law_920 : decode cL_law 920 = .ok (.aload_n 0, 1) := by decide +kernel
theorem dL_law_921 : decode cL_law 921 = .ok (.iload_n 3, 1) := by decide +kernel
theorem dL_law_922 : decode cL_law 922 = .ok (.iconst 2, 1) := by decide +kernel
theorem dL_law_923 : decode cL_law 923 = .ok (.iadd, 1) := by decide +kernel
theorem dL_law_924 : decode cL_law 924 = .ok (.iaload, 1) := by decide +kernel
theorem dL_law_925 : decode cL_law 925 = .ok (.invokevirtual 108, 3) := by decide +kernel
theorem dL_law_928 : decode cL_law 928 = .ok (.if_icmp .eq 575, 3) := by decide +kernel
theorem dL_law_931 : decode cL_law 931 = .ok (.iconst 0, 1) := by decide +kernel
theorem dL_law_932 : decode cL_law 932 = .ok (.ireturn, 1) := by decide +kernel
theorem dL_law_933 : decode cL_law 933 = .ok (.aload_n 1, 1) := by decide +kernel
theorem dL_law_934 : decode cL_law 934 = .ok (.aload_n 0, 1) := by decide +kernel
theorem dL_law_935 : decode cL_law 935 = .ok (.iload_n 3, 1) := by decide +kernel
theorem dL_law_936 : decode cL_law 936 = .ok (.iconst 1, 1) := by decide +kernel
theorem dL_law_937 : decode cL_law 937 = .ok (.iadd, 1) := by decide +kernel
theorem dL_law_938 : decode cL_law 938 = .ok (.iaload, 1) := by decide +kernel
theorem dL_law_939 : decode cL_law 939 = .ok (.aload_n 0, 1) := by decide +kernel
theorem dL_law_940 : decode cL_law 940 = .ok (.iload_n 3, 1) := by decide +kernel
theorem dL_law_941 : decode cL_law 941 = .ok (.iconst 2, 1) := by decide +kernel
theorem dL_law_942 : decode cL_law 942 = .ok (.iadd, 1) := by decide +kernel
theorem dL_law_943 : decode cL_law 943 = .ok (.iaload, 1) := by decide +kernel
theorem dL_law_944 : decode cL_law 944 = .ok (.aload_n 0, 1) := by decide +kernel
theorem dL_law_945 : decode cL_law 945 = .ok (.iload_n 3, 1) := by decide +kernel
theorem dL_law_946 : decode cL_law 946 = .ok (.iconst 3, 1) := by decide +kernel
theorem dL_law_947 : decode cL_law 947 = .ok (.iadd, 1) := by decide +kernel
theorem dL_law_948 : decode cL_law 948 = .ok (.iaload, 1) := by decide +kernel
theorem dL_law_949 : decode cL_law 949 = .ok (.invokevirtual 109, 3) := by decide +kernel
theorem dL_law_952 : decode cL_law 952 = .ok (.aload_n 2, 1) := by decide +kernel
theorem dL_law_953 : decode cL_law 953 = .ok (.aload_n 0, 1) := by decide +kernel
theorem dL_law_954 : decode cL_law 954 = .ok (.iload_n 3, 1) := by decide +kernel
theorem dL_law_955 : decode cL_law 955 = .ok (.iconst 1, 1) := by decide +kernel
theorem dL_law_956 : decode cL_law 956 = .ok (.iadd, 1) := by decide +kernel
theorem dL_law_957 : decode cL_law 957 = .ok (.iaload, 1) := by decide +kernel
theorem dL_law_958 : decode cL_law 958 = .ok (.aload_n 0, 1) := by decide +kernel
theorem dL_law_959 : decode cL_law 959 = .ok (.iload_n 3, 1) := by decide +kernel
theorem dL_law_960 : decode cL_law 960 = .ok (.iconst 2, 1) := by decide +kernel
theorem dL_law_961 : decode cL_law 961 = .ok (.iadd, 1) := by decide +kernel
theorem dL_law_962 : decode cL_law 962 = .ok (.iaload, 1) := by decide +kernel
theorem dL_law_963 : decode cL_law 963 = .ok (.aload_n 0, 1) := by decide +kernel
theorem dL_law_964 : decode cL_law 964 = .ok (.iload_n 3, 1) := by decide +kernel
theorem dL_law_965 : decode cL_law 965 = .ok (.iconst 3, 1) := by decide +kernel
theorem dL_law_966 : decode cL_law 966 = .ok (.iadd, 1) := by decide +kernel
theorem dL_law_967 : decode cL_law 967 = .ok (.iaload, 1) := by decide +kernel
theorem dL_law_968 : decode cL_law 968 = .ok (.invokevirtual 112, 3) := by decide +kernel
theorem dL_law_971 : decode cL_law 971 = .ok (.if_icmp .eq 532, 3) := by decide +kernel
theorem dL_law_974 : decode cL_law 974 = .ok (.iconst 0, 1) := by decide +kernel
theorem dL_law_975 : decode cL_law 975 = .ok (.ireturn, 1) := by decide +kernel
theorem dL_law_976 : decode cL_law 976 = .ok (.aload_n 1, 1) := by decide +kernel
theorem dL_law_977 : decode cL_law 977 = .ok (.aload_n 0, 1) := by decide +kernel
theorem dL_law_978 : decode cL_law 978 = .ok (.iload_n 3, 1) := by decide +kernel
theorem dL_law_979 : decode cL_law 979 = .ok (.iconst 1, 1) := by decide +kernel
theorem dL_law_980 : decode cL_law 980 = .ok (.iadd, 1) := by decide +kernel
theorem dL_law_981 : decode cL_law 981 = .ok (.iaload, 1) := by decide +kernel
theorem dL_law_982 : decode cL_law 982 = .ok (.aload_n 0, 1) := by decide +kernel
theorem dL_law_983 : decode cL_law 983 = .ok (.iload_n 3, 1) := by decide +kernel
theorem dL_law_984 : decode cL_law 984 = .ok (.iconst 2, 1) := by decide +kernel
theorem dL_law_985 : decode cL_law 985 = .ok (.iadd, 1) := by decide +kernel
theorem dL_law_986 : decode cL_law 986 = .ok (.iaload, 1) := by decide +kernel
theorem dL_law_987 : decode cL_law 987 = .ok (.aload_n 0, 1) := by decide +kernel
theorem dL_law_988 : decode cL_law 988 = .ok (.iload_n 3, 1) := by decide +kernel
theorem dL_law_989 : decode cL_law 989 = .ok (.iconst 3, 1) := by decide +kernel
theorem dL_law_990 : decode cL_law 990 = .ok (.iadd, 1) := by decide +kernel
theorem dL_law_991 : decode cL_law 991 = .ok (.iaload, 1) := by decide +kernel
theorem dL_law_992 : decode cL_law 992 = .ok (.aload_n 0, 1) := by decide +kernel
theorem dL_law_993 : decode cL_law 993 = .ok (.iload_n 3, 1) := by decide +kernel
theorem dL_law_994 : decode cL_law 994 = .ok (.iconst 4, 1) := by decide +kernel
theorem dL_law_995 : decode cL_law 995 = .ok (.iadd, 1) := by decide +kernel
theorem dL_law_996 : decode cL_law 996 = .ok (.iaload, 1) := by decide +kernel
theorem dL_law_997 : decode cL_law 997 = .ok (.aload_n 0, 1) := by decide +kernel
theorem dL_law_998 : decode cL_law 998 = .ok (.iload_n 3, 1) := by decide +kernel
theorem dL_law_999 : decode cL_law 999 = .ok (.iconst 5, 1) := by decide +kernel
theorem dL_law_1000 : decode cL_law 1000 = .ok (.iadd, 1) := by decide +kernel
theorem dL_law_1001 : decode cL_law 1001 = .ok (.iaload, 1) := by decide +kernel
theorem dL_law_1002 : decode cL_law 1002 = .ok (.invokevirtual 113, 3) := by decide +kernel
theorem dL_law_1005 : decode cL_law 1005 = .ok (.aload_n 2, 1) := by decide +kernel
theorem dL_law_1006 : decode cL_law 1006 = .ok (.aload_n 0, 1) := by decide +kernel
theorem dL_law_1007 : decode cL_law 1007 = .ok (.iload_n 3, 1) := by decide +kernel
theorem dL_law_1008 : decode cL_law 1008 = .ok (.iconst 1, 1) := by decide +kernel
theorem dL_law_1009 : decode cL_law 1009 = .ok (.iadd, 1) := by decide +kernel
theorem dL_law_1010 : decode cL_law 1010 = .ok (.iaload, 1) := by decide +kernel
theorem dL_law_1011 : decode cL_law 1011 = .ok (.aload_n 0, 1) := by decide +kernel
theorem dL_law_1012 : decode cL_law 1012 = .ok (.iload_n 3, 1) := by decide +kernel
theorem dL_law_1013 : decode cL_law 1013 = .ok (.iconst 2, 1) := by decide +kernel
theorem dL_law_1014 : decode cL_law 1014 = .ok (.iadd, 1) := by decide +kernel
theorem dL_law_1015 : decode cL_law 1015 = .ok (.iaload, 1) := by decide +kernel
theorem dL_law_1016 : decode cL_law 1016 = .ok (.aload_n 0, 1) := by decide +kernel
theorem dL_law_1017 : decode cL_law 1017 = .ok (.iload_n 3, 1) := by decide +kernel
theorem dL_law_1018 : decode cL_law 1018 = .ok (.iconst 3, 1) := by decide +kernel
theorem dL_law_1019 : decode cL_law 1019 = .ok (.iadd, 1) := by decide +kernel
theorem dL_law_1020 : decode cL_law 1020 = .ok (.iaload, 1) := by decide +kernel
theorem dL_law_1021 : decode cL_law 1021 = .ok (.aload_n 0, 1) := by decide +kernel
theorem dL_law_1022 : decode cL_law 1022 = .ok (.iload_n 3, 1) := by decide +kernel
theorem dL_law_1023 : decode cL_law 1023 = .ok (.iconst 4, 1) := by decide +kernel
theorem dL_law_1024 : decode cL_law 1024 = .ok (.iadd, 1) := by decide +kernel
theorem dL_law_1025 : decode cL_law 1025 = .ok (.iaload, 1) := by decide +kernel
theorem dL_law_1026 : decode cL_law 1026 = .ok (.aload_n 0, 1) := by decide +kernel
theorem dL_law_1027 : decode cL_law 1027 = .ok (.iload_n 3, 1) := by decide +kernel
theorem dL_law_1028 : decode cL_law 1028 = .ok (.iconst 5, 1) := by decide +kernel
theorem dL_law_1029 : decode cL_law 1029 = .ok (.iadd, 1) := by decide +kernel
theorem dL_law_1030 : decode cL_law 1030 = .ok (.iaload, 1) := by decide +kernel
theorem dL_law_1031 : decode cL_law 1031 = .ok (.invokevirtual 117, 3) := by decide +kernel
theorem dL_law_1034 : decode cL_law 1034 = .ok (.lcmp, 1) := by decide +kernel
theorem dL_law_1035 : decode cL_law 1035 = .ok (.ifCond .eq 468, 3) := by decide +kernel
theorem dL_law_1038 : decode cL_law 1038 = .ok (.iconst 0, 1) := by decide +kernel
theorem dL_law_1039 : decode cL_law 1039 = .ok (.ireturn, 1) := by decide +kernel
theorem dL_law_1040 : decode cL_law 1040 = .ok (.aload_n 1, 1) := by decide +kernel
theorem dL_law_1041 : decode cL_law 1041 = .ok (.aload_n 0, 1) := by decide +kernel
theorem dL_law_1042 : decode cL_law 1042 = .ok (.iload_n 3, 1) := by decide +kernel
theorem dL_law_1043 : decode cL_law 1043 = .ok (.iconst 1, 1) := by decide +kernel
theorem dL_law_1044 : decode cL_law 1044 = .ok (.iadd, 1) := by decide +kernel
theorem dL_law_1045 : decode cL_law 1045 = .ok (.iaload, 1) := by decide +kernel
theorem dL_law_1046 : decode cL_law 1046 = .ok (.aload_n 0, 1) := by decide +kernel
theorem dL_law_1047 : decode cL_law 1047 = .ok (.iload_n 3, 1) := by decide +kernel
theorem dL_law_1048 : decode cL_law 1048 = .ok (.iconst 2, 1) := by decide +kernel
theorem dL_law_1049 : decode cL_law 1049 = .ok (.iadd, 1) := by decide +kernel
theorem dL_law_1050 : decode cL_law 1050 = .ok (.iaload, 1) := by decide +kernel
theorem dL_law_1051 : decode cL_law 1051 = .ok (.aload_n 0, 1) := by decide +kernel
theorem dL_law_1052 : decode cL_law 1052 = .ok (.iload_n 3, 1) := by decide +kernel
theorem dL_law_1053 : decode cL_law 1053 = .ok (.iconst 3, 1) := by decide +kernel
theorem dL_law_1054 : decode cL_law 1054 = .ok (.iadd, 1) := by decide +kernel
theorem dL_law_1055 : decode cL_law 1055 = .ok (.iaload, 1) := by decide +kernel
theorem dL_law_1056 : decode cL_law 1056 = .ok (.invokevirtual 118, 3) := by decide +kernel
theorem dL_law_1059 : decode cL_law 1059 = .ok (.aload_n 2, 1) := by decide +kernel
theorem dL_law_1060 : decode cL_law 1060 = .ok (.aload_n 0, 1) := by decide +kernel
theorem dL_law_1061 : decode cL_law 1061 = .ok (.iload_n 3, 1) := by decide +kernel
theorem dL_law_1062 : decode cL_law 1062 = .ok (.iconst 1, 1) := by decide +kernel
theorem dL_law_1063 : decode cL_law 1063 = .ok (.iadd, 1) := by decide +kernel
theorem dL_law_1064 : decode cL_law 1064 = .ok (.iaload, 1) := by decide +kernel
theorem dL_law_1065 : decode cL_law 1065 = .ok (.aload_n 0, 1) := by decide +kernel
theorem dL_law_1066 : decode cL_law 1066 = .ok (.iload_n 3, 1) := by decide +kernel
theorem dL_law_1067 : decode cL_law 1067 = .ok (.iconst 2, 1) := by decide +kernel
theorem dL_law_1068 : decode cL_law 1068 = .ok (.iadd, 1) := by decide +kernel
theorem dL_law_1069 : decode cL_law 1069 = .ok (.iaload, 1) := by decide +kernel
theorem dL_law_1070 : decode cL_law 1070 = .ok (.aload_n 0, 1) := by decide +kernel
theorem dL_law_1071 : decode cL_law 1071 = .ok (.iload_n 3, 1) := by decide +kernel
theorem dL_law_1072 : decode cL_law 1072 = .ok (.iconst 3, 1) := by decide +kernel
theorem dL_law_1073 : decode cL_law 1073 = .ok (.iadd, 1) := by decide +kernel
theorem dL_law_1074 : decode cL_law 1074 = .ok (.iaload, 1) := by decide +kernel
theorem dL_law_1075 : decode cL_law 1075 = .ok (.invokevirtual 122, 3) := by decide +kernel
theorem dL_law_1078 : decode cL_law 1078 = .ok (.lcmp, 1) := by decide +kernel
theorem dL_law_1079 : decode cL_law 1079 = .ok (.ifCond .eq 424, 3) := by decide +kernel
theorem dL_law_1082 : decode cL_law 1082 = .ok (.iconst 0, 1) := by decide +kernel
theorem dL_law_1083 : decode cL_law 1083 = .ok (.ireturn, 1) := by decide +kernel
theorem dL_law_1084 : decode cL_law 1084 = .ok (.aload_n 1, 1) := by decide +kernel
theorem dL_law_1085 : decode cL_law 1085 = .ok (.aload_n 0, 1) := by decide +kernel
theorem dL_law_1086 : decode cL_law 1086 = .ok (.iload_n 3, 1) := by decide +kernel
theorem dL_law_1087 : decode cL_law 1087 = .ok (.iconst 1, 1) := by decide +kernel
theorem dL_law_1088 : decode cL_law 1088 = .ok (.iadd, 1) := by decide +kernel
theorem dL_law_1089 : decode cL_law 1089 = .ok (.iaload, 1) := by decide +kernel
theorem dL_law_1090 : decode cL_law 1090 = .ok (.aload_n 0, 1) := by decide +kernel
theorem dL_law_1091 : decode cL_law 1091 = .ok (.iload_n 3, 1) := by decide +kernel
theorem dL_law_1092 : decode cL_law 1092 = .ok (.iconst 2, 1) := by decide +kernel
theorem dL_law_1093 : decode cL_law 1093 = .ok (.iadd, 1) := by decide +kernel
theorem dL_law_1094 : decode cL_law 1094 = .ok (.iaload, 1) := by decide +kernel
theorem dL_law_1095 : decode cL_law 1095 = .ok (.aload_n 0, 1) := by decide +kernel
theorem dL_law_1096 : decode cL_law 1096 = .ok (.iload_n 3, 1) := by decide +kernel
theorem dL_law_1097 : decode cL_law 1097 = .ok (.iconst 3, 1) := by decide +kernel
theorem dL_law_1098 : decode cL_law 1098 = .ok (.iadd, 1) := by decide +kernel
theorem dL_law_1099 : decode cL_law 1099 = .ok (.iaload, 1) := by decide +kernel
theorem dL_law_1100 : decode cL_law 1100 = .ok (.invokevirtual 123, 3) := by decide +kernel
theorem dL_law_1103 : decode cL_law 1103 = .ok (.aload_n 2, 1) := by decide +kernel
theorem dL_law_1104 : decode cL_law 1104 = .ok (.aload_n 0, 1) := by decide +kernel
theorem dL_law_1105 : decode cL_law 1105 = .ok (.iload_n 3, 1) := by decide +kernel
theorem dL_law_1106 : decode cL_law 1106 = .ok (.iconst 1, 1) := by decide +kernel
theorem dL_law_1107 : decode cL_law 1107 = .ok (.iadd, 1) := by decide +kernel
theorem dL_law_1108 : decode cL_law 1108 = .ok (.iaload, 1) := by decide +kernel
theorem dL_law_1109 : decode cL_law 1109 = .ok (.aload_n 0, 1) := by decide +kernel
theorem dL_law_1110 : decode cL_law 1110 = .ok (.iload_n 3, 1) := by decide +kernel
theorem dL_law_1111 : decode cL_law 1111 = .ok (.iconst 2, 1) := by decide +kernel
theorem dL_law_1112 : decode cL_law 1112 = .ok (.iadd, 1) := by decide +kernel
theorem dL_law_1113 : decode cL_law 1113 = .ok (.iaload, 1) := by decide +kernel
theorem dL_law_1114 : decode cL_law 1114 = .ok (.aload_n 0, 1) := by decide +kernel
theorem dL_law_1115 : decode cL_law 1115 = .ok (.iload_n 3, 1) := by decide +kernel
theorem dL_law_1116 : decode cL_law 1116 = .ok (.iconst 3, 1) := by decide +kernel
theorem dL_law_1117 : decode cL_law 1117 = .ok (.iadd, 1) := by decide +kernel
theorem dL_law_1118 : decode cL_law 1118 = .ok (.iaload, 1) := by decide +kernel
theorem dL_law_1119 : decode cL_law 1119 = .ok (.invokevirtual 126, 3) := by decide +kernel
theorem dL_law_1122 : decode cL_law 1122 = .ok (.if_icmp .eq 381, 3) := by decide +kernel
theorem dL_law_1125 : decode cL_law 1125 = .ok (.iconst 0, 1) := by decide +kernel
theorem dL_law_1126 : decode cL_law 1126 = .ok (.ireturn, 1) := by decide +kernel
theorem dL_law_1127 : decode cL_law 1127 = .ok (.aload_n 1, 1) := by decide +kernel
theorem dL_law_1128 : decode cL_law 1128 = .ok (.aload_n 0, 1) := by decide +kernel
theorem dL_law_1129 : decode cL_law 1129 = .ok (.iload_n 3, 1) := by decide +kernel
theorem dL_law_1130 : decode cL_law 1130 = .ok (.iconst 1, 1) := by decide +kernel
theorem dL_law_1131 : decode cL_law 1131 = .ok (.iadd, 1) := by decide +kernel
theorem dL_law_1132 : decode cL_law 1132 = .ok (.iaload, 1) := by decide +kernel
theorem dL_law_1133 : decode cL_law 1133 = .ok (.invokevirtual 127, 3) := by decide +kernel
theorem dL_law_1136 : decode cL_law 1136 = .ok (.aload_n 2, 1) := by decide +kernel
theorem dL_law_1137 : decode cL_law 1137 = .ok (.aload_n 0, 1) := by decide +kernel
theorem dL_law_1138 : decode cL_law 1138 = .ok (.iload_n 3, 1) := by decide +kernel
theorem dL_law_1139 : decode cL_law 1139 = .ok (.iconst 1, 1) := by decide +kernel
theorem dL_law_1140 : decode cL_law 1140 = .ok (.iadd, 1) := by decide +kernel
theorem dL_law_1141 : decode cL_law 1141 = .ok (.iaload, 1) := by decide +kernel
theorem dL_law_1142 : decode cL_law 1142 = .ok (.invokevirtual 130, 3) := by decide +kernel
theorem dL_law_1145 : decode cL_law 1145 = .ok (.if_icmp .eq 358, 3) := by decide +kernel
theorem dL_law_1148 : decode cL_law 1148 = .ok (.iconst 0, 1) := by decide +kernel
theorem dL_law_1149 : decode cL_law 1149 = .ok (.ireturn, 1) := by decide +kernel
theorem dL_law_1150 : decode cL_law 1150 = .ok (.aload_n 1, 1) := by decide +kernel
theorem dL_law_1151 : decode cL_law 1151 = .ok (.aload_n 0, 1) := by decide +kernel
theorem dL_law_1152 : decode cL_law 1152 = .ok (.iload_n 3, 1) := by decide +kernel
theorem dL_law_1153 : decode cL_law 1153 = .ok (.iconst 1, 1) := by decide +kernel
theorem dL_law_1154 : decode cL_law 1154 = .ok (.iadd, 1) := by decide +kernel
theorem dL_law_1155 : decode cL_law 1155 = .ok (.iaload, 1) := by decide +kernel
theorem dL_law_1156 : decode cL_law 1156 = .ok (.invokevirtual 131, 3) := by decide +kernel
theorem dL_law_1159 : decode cL_law 1159 = .ok (.aload_n 2, 1) := by decide +kernel
theorem dL_law_1160 : decode cL_law 1160 = .ok (.aload_n 0, 1) := by decide +kernel
theorem dL_law_1161 : decode cL_law 1161 = .ok (.iload_n 3, 1) := by decide +kernel
theorem dL_law_1162 : decode cL_law 1162 = .ok (.iconst 1, 1) := by decide +kernel
theorem dL_law_1163 : decode cL_law 1163 = .ok (.iadd, 1) := by decide +kernel
theorem dL_law_1164 : decode cL_law 1164 = .ok (.iaload, 1) := by decide +kernel
theorem dL_law_1165 : decode cL_law 1165 = .ok (.invokevirtual 134, 3) := by decide +kernel
theorem dL_law_1168 : decode cL_law 1168 = .ok (.if_icmp .eq 335, 3) := by decide +kernel
theorem dL_law_1171 : decode cL_law 1171 = .ok (.iconst 0, 1) := by decide +kernel
theorem dL_law_1172 : decode cL_law 1172 = .ok (.ireturn, 1) := by decide +kernel
theorem dL_law_1173 : decode cL_law 1173 = .ok (.aload_n 1, 1) := by decide +kernel
theorem dL_law_1174 : decode cL_law 1174 = .ok (.aload_n 0, 1) := by decide +kernel
theorem dL_law_1175 : decode cL_law 1175 = .ok (.iload_n 3, 1) := by decide +kernel
theorem dL_law_1176 : decode cL_law 1176 = .ok (.iconst 1, 1) := by decide +kernel
theorem dL_law_1177 : decode cL_law 1177 = .ok (.iadd, 1) := by decide +kernel
theorem dL_law_1178 : decode cL_law 1178 = .ok (.iaload, 1) := by decide +kernel
theorem dL_law_1179 : decode cL_law 1179 = .ok (.aload_n 0, 1) := by decide +kernel
theorem dL_law_1180 : decode cL_law 1180 = .ok (.iload_n 3, 1) := by decide +kernel
theorem dL_law_1181 : decode cL_law 1181 = .ok (.iconst 2, 1) := by decide +kernel
theorem dL_law_1182 : decode cL_law 1182 = .ok (.iadd, 1) := by decide +kernel
theorem dL_law_1183 : decode cL_law 1183 = .ok (.iaload, 1) := by decide +kernel
theorem dL_law_1184 : decode cL_law 1184 = .ok (.invokevirtual 135, 3) := by decide +kernel
theorem dL_law_1187 : decode cL_law 1187 = .ok (.aload_n 2, 1) := by decide +kernel
theorem dL_law_1188 : decode cL_law 1188 = .ok (.aload_n 0, 1) := by decide +kernel
theorem dL_law_1189 : decode cL_law 1189 = .ok (.iload_n 3, 1) := by decide +kernel
theorem dL_law_1190 : decode cL_law 1190 = .ok (.iconst 1, 1) := by decide +kernel
theorem dL_law_1191 : decode cL_law 1191 = .ok (.iadd, 1) := by decide +kernel
theorem dL_law_1192 : decode cL_law 1192 = .ok (.iaload, 1) := by decide +kernel
theorem dL_law_1193 : decode cL_law 1193 = .ok (.aload_n 0, 1) := by decide +kernel
theorem dL_law_1194 : decode cL_law 1194 = .ok (.iload_n 3, 1) := by decide +kernel
theorem dL_law_1195 : decode cL_law 1195 = .ok (.iconst 2, 1) := by decide +kernel
theorem dL_law_1196 : decode cL_law 1196 = .ok (.iadd, 1) := by decide +kernel
theorem dL_law_1197 : decode cL_law 1197 = .ok (.iaload, 1) := by decide +kernel
theorem dL_law_1198 : decode cL_law 1198 = .ok (.invokevirtual 138, 3) := by decide +kernel
theorem dL_law_1201 : decode cL_law 1201 = .ok (.if_icmp .eq 302, 3) := by decide +kernel
theorem dL_law_1204 : decode cL_law 1204 = .ok (.iconst 0, 1) := by decide +kernel
theorem dL_law_1205 : decode cL_law 1205 = .ok (.ireturn, 1) := by decide +kernel
theorem dL_law_1206 : decode cL_law 1206 = .ok (.aload_n 1, 1) := by decide +kernel
theorem dL_law_1207 : decode cL_law 1207 = .ok (.aload_n 0, 1) := by decide +kernel
theorem dL_law_1208 : decode cL_law 1208 = .ok (.iload_n 3, 1) := by decide +kernel
theorem dL_law_1209 : decode cL_law 1209 = .ok (.iconst 1, 1) := by decide +kernel
theorem dL_law_1210 : decode cL_law 1210 = .ok (.iadd, 1) := by decide +kernel
theorem dL_law_1211 : decode cL_law 1211 = .ok (.iaload, 1) := by decide +kernel
theorem dL_law_1212 : decode cL_law 1212 = .ok (.aload_n 0, 1) := by decide +kernel
theorem dL_law_1213 : decode cL_law 1213 = .ok (.iload_n 3, 1) := by decide +kernel
theorem dL_law_1214 : decode cL_law 1214 = .ok (.iconst 2, 1) := by decide +kernel
theorem dL_law_1215 : decode cL_law 1215 = .ok (.iadd, 1) := by decide +kernel
theorem dL_law_1216 : decode cL_law 1216 = .ok (.iaload, 1) := by decide +kernel
theorem dL_law_1217 : decode cL_law 1217 = .ok (.invokevirtual 139, 3) := by decide +kernel
theorem dL_law_1220 : decode cL_law 1220 = .ok (.aload_n 2, 1) := by decide +kernel
theorem dL_law_1221 : decode cL_law 1221 = .ok (.aload_n 0, 1) := by decide +kernel
theorem dL_law_1222 : decode cL_law 1222 = .ok (.iload_n 3, 1) := by decide +kernel
theorem dL_law_1223 : decode cL_law 1223 = .ok (.iconst 1, 1) := by decide +kernel
theorem dL_law_1224 : decode cL_law 1224 = .ok (.iadd, 1) := by decide +kernel
theorem dL_law_1225 : decode cL_law 1225 = .ok (.iaload, 1) := by decide +kernel
theorem dL_law_1226 : decode cL_law 1226 = .ok (.aload_n 0, 1) := by decide +kernel
theorem dL_law_1227 : decode cL_law 1227 = .ok (.iload_n 3, 1) := by decide +kernel
theorem dL_law_1228 : decode cL_law 1228 = .ok (.iconst 2, 1) := by decide +kernel
theorem dL_law_1229 : decode cL_law 1229 = .ok (.iadd, 1) := by decide +kernel
theorem dL_law_1230 : decode cL_law 1230 = .ok (.iaload, 1) := by decide +kernel
theorem dL_law_1231 : decode cL_law 1231 = .ok (.invokevirtual 142, 3) := by decide +kernel
theorem dL_law_1234 : decode cL_law 1234 = .ok (.if_icmp .eq 269, 3) := by decide +kernel
theorem dL_law_1237 : decode cL_law 1237 = .ok (.iconst 0, 1) := by decide +kernel
theorem dL_law_1238 : decode cL_law 1238 = .ok (.ireturn, 1) := by decide +kernel
theorem dL_law_1239 : decode cL_law 1239 = .ok (.aload_n 1, 1) := by decide +kernel
theorem dL_law_1240 : decode cL_law 1240 = .ok (.aload_n 0, 1) := by decide +kernel
theorem dL_law_1241 : decode cL_law 1241 = .ok (.iload_n 3, 1) := by decide +kernel
theorem dL_law_1242 : decode cL_law 1242 = .ok (.iconst 1, 1) := by decide +kernel
theorem dL_law_1243 : decode cL_law 1243 = .ok (.iadd, 1) := by decide +kernel
theorem dL_law_1244 : decode cL_law 1244 = .ok (.iaload, 1) := by decide +kernel
theorem dL_law_1245 : decode cL_law 1245 = .ok (.aload_n 0, 1) := by decide +kernel
theorem dL_law_1246 : decode cL_law 1246 = .ok (.iload_n 3, 1) := by decide +kernel
theorem dL_law_1247 : decode cL_law 1247 = .ok (.iconst 2, 1) := by decide +kernel
theorem dL_law_1248 : decode cL_law 1248 = .ok (.iadd, 1) := by decide +kernel
theorem dL_law_1249 : decode cL_law 1249 = .ok (.iaload, 1) := by decide +kernel
theorem dL_law_1250 : decode cL_law 1250 = .ok (.aload_n 0, 1) := by decide +kernel
theorem dL_law_1251 : decode cL_law 1251 = .ok (.iload_n 3, 1) := by decide +kernel
theorem dL_law_1252 : decode cL_law 1252 = .ok (.iconst 3, 1) := by decide +kernel
theorem dL_law_1253 : decode cL_law 1253 = .ok (.iadd, 1) := by decide +kernel
theorem dL_law_1254 : decode cL_law 1254 = .ok (.iaload, 1) := by decide +kernel
theorem dL_law_1255 : decode cL_law 1255 = .ok (.invokevirtual 143, 3) := by decide +kernel
theorem dL_law_1258 : decode cL_law 1258 = .ok (.aload_n 2, 1) := by decide +kernel
theorem dL_law_1259 : decode cL_law 1259 = .ok (.aload_n 0, 1) := by decide +kernel
theorem dL_law_1260 : decode cL_law 1260 = .ok (.iload_n 3, 1) := by decide +kernel
theorem dL_law_1261 : decode cL_law 1261 = .ok (.iconst 1, 1) := by decide +kernel
theorem dL_law_1262 : decode cL_law 1262 = .ok (.iadd, 1) := by decide +kernel
theorem dL_law_1263 : decode cL_law 1263 = .ok (.iaload, 1) := by decide +kernel
theorem dL_law_1264 : decode cL_law 1264 = .ok (.aload_n 0, 1) := by decide +kernel
theorem dL_law_1265 : decode cL_law 1265 = .ok (.iload_n 3, 1) := by decide +kernel
theorem dL_law_1266 : decode cL_law 1266 = .ok (.iconst 2, 1) := by decide +kernel
theorem dL_law_1267 : decode cL_law 1267 = .ok (.iadd, 1) := by decide +kernel
theorem dL_law_1268 : decode cL_law 1268 = .ok (.iaload, 1) := by decide +kernel
theorem dL_law_1269 : decode cL_law 1269 = .ok (.aload_n 0, 1) := by decide +kernel
theorem dL_law_1270 : decode cL_law 1270 = .ok (.iload_n 3, 1) := by decide +kernel
theorem dL_law_1271 : decode cL_law 1271 = .ok (.iconst 3, 1) := by decide +kernel
theorem dL_law_1272 : decode cL_law 1272 = .ok (.iadd, 1) := by decide +kernel
theorem dL_law_1273 : decode cL_law 1273 = .ok (.iaload, 1) := by decide +kernel
theorem dL_law_1274 : decode cL_law 1274 = .ok (.invokevirtual 146, 3) := by decide +kernel
theorem dL_law_1277 : decode cL_law 1277 = .ok (.if_icmp .eq 226, 3) := by decide +kernel
theorem dL_law_1280 : decode cL_law 1280 = .ok (.iconst 0, 1) := by decide +kernel
theorem dL_law_1281 : decode cL_law 1281 = .ok (.ireturn, 1) := by decide +kernel
theorem dL_law_1282 : decode cL_law 1282 = .ok (.aload_n 1, 1) := by decide +kernel
theorem dL_law_1283 : decode cL_law 1283 = .ok (.aload_n 0, 1) := by decide +kernel
theorem dL_law_1284 : decode cL_law 1284 = .ok (.iload_n 3, 1) := by decide +kernel
theorem dL_law_1285 : decode cL_law 1285 = .ok (.iconst 1, 1) := by decide +kernel
theorem dL_law_1286 : decode cL_law 1286 = .ok (.iadd, 1) := by decide +kernel
theorem dL_law_1287 : decode cL_law 1287 = .ok (.iaload, 1) := by decide +kernel
theorem dL_law_1288 : decode cL_law 1288 = .ok (.invokevirtual 147, 3) := by decide +kernel
theorem dL_law_1291 : decode cL_law 1291 = .ok (.aload_n 2, 1) := by decide +kernel
theorem dL_law_1292 : decode cL_law 1292 = .ok (.aload_n 0, 1) := by decide +kernel
theorem dL_law_1293 : decode cL_law 1293 = .ok (.iload_n 3, 1) := by decide +kernel
theorem dL_law_1294 : decode cL_law 1294 = .ok (.iconst 1, 1) := by decide +kernel
theorem dL_law_1295 : decode cL_law 1295 = .ok (.iadd, 1) := by decide +kernel
theorem dL_law_1296 : decode cL_law 1296 = .ok (.iaload, 1) := by decide +kernel
theorem dL_law_1297 : decode cL_law 1297 = .ok (.invokevirtual 150, 3) := by decide +kernel
theorem dL_law_1300 : decode cL_law 1300 = .ok (.if_icmp .eq 203, 3) := by decide +kernel
theorem dL_law_1303 : decode cL_law 1303 = .ok (.iconst 0, 1) := by decide +kernel
theorem dL_law_1304 : decode cL_law 1304 = .ok (.ireturn, 1) := by decide +kernel
theorem dL_law_1305 : decode cL_law 1305 = .ok (.aload_n 1, 1) := by decide +kernel
theorem dL_law_1306 : decode cL_law 1306 = .ok (.aload_n 0, 1) := by decide +kernel
theorem dL_law_1307 : decode cL_law 1307 = .ok (.iload_n 3, 1) := by decide +kernel
theorem dL_law_1308 : decode cL_law 1308 = .ok (.iconst 1, 1) := by decide +kernel
theorem dL_law_1309 : decode cL_law 1309 = .ok (.iadd, 1) := by decide +kernel
theorem dL_law_1310 : decode cL_law 1310 = .ok (.iaload, 1) := by decide +kernel
theorem dL_law_1311 : decode cL_law 1311 = .ok (.invokevirtual 151, 3) := by decide +kernel
theorem dL_law_1314 : decode cL_law 1314 = .ok (.aload_n 2, 1) := by decide +kernel
theorem dL_law_1315 : decode cL_law 1315 = .ok (.aload_n 0, 1) := by decide +kernel
theorem dL_law_1316 : decode cL_law 1316 = .ok (.iload_n 3, 1) := by decide +kernel
theorem dL_law_1317 : decode cL_law 1317 = .ok (.iconst 1, 1) := by decide +kernel
theorem dL_law_1318 : decode cL_law 1318 = .ok (.iadd, 1) := by decide +kernel
theorem dL_law_1319 : decode cL_law 1319 = .ok (.iaload, 1) := by decide +kernel
theorem dL_law_1320 : decode cL_law 1320 = .ok (.invokevirtual 154, 3) := by decide +kernel
theorem dL_law_1323 : decode cL_law 1323 = .ok (.if_icmp .eq 180, 3) := by decide +kernel
theorem dL_law_1326 : decode cL_law 1326 = .ok (.iconst 0, 1) := by decide +kernel
theorem dL_law_1327 : decode cL_law 1327 = .ok (.ireturn, 1) := by decide +kernel
theorem dL_law_1328 : decode cL_law 1328 = .ok (.aload_n 1, 1) := by decide +kernel
theorem dL_law_1329 : decode cL_law 1329 = .ok (.aload_n 0, 1) := by decide +kernel
theorem dL_law_1330 : decode cL_law 1330 = .ok (.iload_n 3, 1) := by decide +kernel
theorem dL_law_1331 : decode cL_law 1331 = .ok (.iconst 1, 1) := by decide +kernel
theorem dL_law_1332 : decode cL_law 1332 = .ok (.iadd, 1) := by decide +kernel
theorem dL_law_1333 : decode cL_law 1333 = .ok (.iaload, 1) := by decide +kernel
theorem dL_law_1334 : decode cL_law 1334 = .ok (.aload_n 0, 1) := by decide +kernel
theorem dL_law_1335 : decode cL_law 1335 = .ok (.iload_n 3, 1) := by decide +kernel
theorem dL_law_1336 : decode cL_law 1336 = .ok (.iconst 2, 1) := by decide +kernel
theorem dL_law_1337 : decode cL_law 1337 = .ok (.iadd, 1) := by decide +kernel
theorem dL_law_1338 : decode cL_law 1338 = .ok (.iaload, 1) := by decide +kernel
theorem dL_law_1339 : decode cL_law 1339 = .ok (.aload_n 0, 1) := by decide +kernel
theorem dL_law_1340 : decode cL_law 1340 = .ok (.iload_n 3, 1) := by decide +kernel
theorem dL_law_1341 : decode cL_law 1341 = .ok (.iconst 3, 1) := by decide +kernel
theorem dL_law_1342 : decode cL_law 1342 = .ok (.iadd, 1) := by decide +kernel
theorem dL_law_1343 : decode cL_law 1343 = .ok (.iaload, 1) := by decide +kernel
theorem dL_law_1344 : decode cL_law 1344 = .ok (.invokevirtual 155, 3) := by decide +kernel
theorem dL_law_1347 : decode cL_law 1347 = .ok (.aload_n 2, 1) := by decide +kernel
theorem dL_law_1348 : decode cL_law 1348 = .ok (.aload_n 0, 1) := by decide +kernel
theorem dL_law_1349 : decode cL_law 1349 = .ok (.iload_n 3, 1) := by decide +kernel
theorem dL_law_1350 : decode cL_law 1350 = .ok (.iconst 1, 1) := by decide +kernel
theorem dL_law_1351 : decode cL_law 1351 = .ok (.iadd, 1) := by decide +kernel
theorem dL_law_1352 : decode cL_law 1352 = .ok (.iaload, 1) := by decide +kernel
theorem dL_law_1353 : decode cL_law 1353 = .ok (.aload_n 0, 1) := by decide +kernel
theorem dL_law_1354 : decode cL_law 1354 = .ok (.iload_n 3, 1) := by decide +kernel
theorem dL_law_1355 : decode cL_law 1355 = .ok (.iconst 2, 1) := by decide +kernel
theorem dL_law_1356 : decode cL_law 1356 = .ok (.iadd, 1) := by decide +kernel
theorem dL_law_1357 : decode cL_law 1357 = .ok (.iaload, 1) := by decide +kernel
theorem dL_law_1358 : decode cL_law 1358 = .ok (.aload_n 0, 1) := by decide +kernel
theorem dL_law_1359 : decode cL_law 1359 = .ok (.iload_n 3, 1) := by decide +kernel
theorem dL_law_1360 : decode cL_law 1360 = .ok (.iconst 3, 1) := by decide +kernel
theorem dL_law_1361 : decode cL_law 1361 = .ok (.iadd, 1) := by decide +kernel
theorem dL_law_1362 : decode cL_law 1362 = .ok (.iaload, 1) := by decide +kernel
theorem dL_law_1363 : decode cL_law 1363 = .ok (.invokevirtual 158, 3) := by decide +kernel
theorem dL_law_1366 : decode cL_law 1366 = .ok (.if_icmp .eq 137, 3) := by decide +kernel
theorem dL_law_1369 : decode cL_law 1369 = .ok (.iconst 0, 1) := by decide +kernel
theorem dL_law_1370 : decode cL_law 1370 = .ok (.ireturn, 1) := by decide +kernel
theorem dL_law_1371 : decode cL_law 1371 = .ok (.aload_n 1, 1) := by decide +kernel
theorem dL_law_1372 : decode cL_law 1372 = .ok (.aload_n 0, 1) := by decide +kernel
theorem dL_law_1373 : decode cL_law 1373 = .ok (.iload_n 3, 1) := by decide +kernel
theorem dL_law_1374 : decode cL_law 1374 = .ok (.iconst 1, 1) := by decide +kernel
theorem dL_law_1375 : decode cL_law 1375 = .ok (.iadd, 1) := by decide +kernel
theorem dL_law_1376 : decode cL_law 1376 = .ok (.iaload, 1) := by decide +kernel
theorem dL_law_1377 : decode cL_law 1377 = .ok (.aload_n 0, 1) := by decide +kernel
theorem dL_law_1378 : decode cL_law 1378 = .ok (.iload_n 3, 1) := by decide +kernel
theorem dL_law_1379 : decode cL_law 1379 = .ok (.iconst 2, 1) := by decide +kernel
theorem dL_law_1380 : decode cL_law 1380 = .ok (.iadd, 1) := by decide +kernel
theorem dL_law_1381 : decode cL_law 1381 = .ok (.iaload, 1) := by decide +kernel
theorem dL_law_1382 : decode cL_law 1382 = .ok (.aload_n 0, 1) := by decide +kernel
theorem dL_law_1383 : decode cL_law 1383 = .ok (.iload_n 3, 1) := by decide +kernel
theorem dL_law_1384 : decode cL_law 1384 = .ok (.iconst 3, 1) := by decide +kernel
theorem dL_law_1385 : decode cL_law 1385 = .ok (.iadd, 1) := by decide +kernel
theorem dL_law_1386 : decode cL_law 1386 = .ok (.iaload, 1) := by decide +kernel
theorem dL_law_1387 : decode cL_law 1387 = .ok (.invokevirtual 159, 3) := by decide +kernel
theorem dL_law_1390 : decode cL_law 1390 = .ok (.aload_n 2, 1) := by decide +kernel
theorem dL_law_1391 : decode cL_law 1391 = .ok (.aload_n 0, 1) := by decide +kernel
theorem dL_law_1392 : decode cL_law 1392 = .ok (.iload_n 3, 1) := by decide +kernel
theorem dL_law_1393 : decode cL_law 1393 = .ok (.iconst 1, 1) := by decide +kernel
theorem dL_law_1394 : decode cL_law 1394 = .ok (.iadd, 1) := by decide +kernel
theorem dL_law_1395 : decode cL_law 1395 = .ok (.iaload, 1) := by decide +kernel
theorem dL_law_1396 : decode cL_law 1396 = .ok (.aload_n 0, 1) := by decide +kernel
theorem dL_law_1397 : decode cL_law 1397 = .ok (.iload_n 3, 1) := by decide +kernel
theorem dL_law_1398 : decode cL_law 1398 = .ok (.iconst 2, 1) := by decide +kernel
theorem dL_law_1399 : decode cL_law 1399 = .ok (.iadd, 1) := by decide +kernel
theorem dL_law_1400 : decode cL_law 1400 = .ok (.iaload, 1) := by decide +kernel
theorem dL_law_1401 : decode cL_law 1401 = .ok (.aload_n 0, 1) := by decide +kernel
theorem dL_law_1402 : decode cL_law 1402 = .ok (.iload_n 3, 1) := by decide +kernel
theorem dL_law_1403 : decode cL_law 1403 = .ok (.iconst 3, 1) := by decide +kernel
theorem dL_law_1404 : decode cL_law 1404 = .ok (.iadd, 1) := by decide +kernel
theorem dL_law_1405 : decode cL_law 1405 = .ok (.iaload, 1) := by decide +kernel
theorem dL_law_1406 : decode cL_law 1406 = .ok (.invokevirtual 162, 3) := by decide +kernel
theorem dL_law_1409 : decode cL_law 1409 = .ok (.if_icmp .eq 94, 3) := by decide +kernel
theorem dL_law_1412 : decode cL_law 1412 = .ok (.iconst 0, 1) := by decide +kernel
theorem dL_law_1413 : decode cL_law 1413 = .ok (.ireturn, 1) := by decide +kernel
theorem dL_law_1414 : decode cL_law 1414 = .ok (.aload_n 1, 1) := by decide +kernel
theorem dL_law_1415 : decode cL_law 1415 = .ok (.aload_n 0, 1) := by decide +kernel
theorem dL_law_1416 : decode cL_law 1416 = .ok (.iload_n 3, 1) := by decide +kernel
theorem dL_law_1417 : decode cL_law 1417 = .ok (.iconst 1, 1) := by decide +kernel
theorem dL_law_1418 : decode cL_law 1418 = .ok (.iadd, 1) := by decide +kernel
theorem dL_law_1419 : decode cL_law 1419 = .ok (.iaload, 1) := by decide +kernel
theorem dL_law_1420 : decode cL_law 1420 = .ok (.aload_n 0, 1) := by decide +kernel
theorem dL_law_1421 : decode cL_law 1421 = .ok (.iload_n 3, 1) := by decide +kernel
theorem dL_law_1422 : decode cL_law 1422 = .ok (.iconst 2, 1) := by decide +kernel
theorem dL_law_1423 : decode cL_law 1423 = .ok (.iadd, 1) := by decide +kernel
theorem dL_law_1424 : decode cL_law 1424 = .ok (.iaload, 1) := by decide +kernel
theorem dL_law_1425 : decode cL_law 1425 = .ok (.aload_n 0, 1) := by decide +kernel
theorem dL_law_1426 : decode cL_law 1426 = .ok (.iload_n 3, 1) := by decide +kernel
theorem dL_law_1427 : decode cL_law 1427 = .ok (.iconst 3, 1) := by decide +kernel
theorem dL_law_1428 : decode cL_law 1428 = .ok (.iadd, 1) := by decide +kernel
theorem dL_law_1429 : decode cL_law 1429 = .ok (.iaload, 1) := by decide +kernel
theorem dL_law_1430 : decode cL_law 1430 = .ok (.aload_n 0, 1) := by decide +kernel
theorem dL_law_1431 : decode cL_law 1431 = .ok (.iload_n 3, 1) := by decide +kernel
theorem dL_law_1432 : decode cL_law 1432 = .ok (.iconst 4, 1) := by decide +kernel
theorem dL_law_1433 : decode cL_law 1433 = .ok (.iadd, 1) := by decide +kernel
theorem dL_law_1434 : decode cL_law 1434 = .ok (.iaload, 1) := by decide +kernel
theorem dL_law_1435 : decode cL_law 1435 = .ok (.invokevirtual 163, 3) := by decide +kernel
theorem dL_law_1438 : decode cL_law 1438 = .ok (.aload_n 2, 1) := by decide +kernel
theorem dL_law_1439 : decode cL_law 1439 = .ok (.aload_n 0, 1) := by decide +kernel
theorem dL_law_1440 : decode cL_law 1440 = .ok (.iload_n 3, 1) := by decide +kernel
theorem dL_law_1441 : decode cL_law 1441 = .ok (.iconst 1, 1) := by decide +kernel
theorem dL_law_1442 : decode cL_law 1442 = .ok (.iadd, 1) := by decide +kernel
theorem dL_law_1443 : decode cL_law 1443 = .ok (.iaload, 1) := by decide +kernel
theorem dL_law_1444 : decode cL_law 1444 = .ok (.aload_n 0, 1) := by decide +kernel
theorem dL_law_1445 : decode cL_law 1445 = .ok (.iload_n 3, 1) := by decide +kernel
theorem dL_law_1446 : decode cL_law 1446 = .ok (.iconst 2, 1) := by decide +kernel
theorem dL_law_1447 : decode cL_law 1447 = .ok (.iadd, 1) := by decide +kernel
theorem dL_law_1448 : decode cL_law 1448 = .ok (.iaload, 1) := by decide +kernel
theorem dL_law_1449 : decode cL_law 1449 = .ok (.aload_n 0, 1) := by decide +kernel
theorem dL_law_1450 : decode cL_law 1450 = .ok (.iload_n 3, 1) := by decide +kernel
theorem dL_law_1451 : decode cL_law 1451 = .ok (.iconst 3, 1) := by decide +kernel
theorem dL_law_1452 : decode cL_law 1452 = .ok (.iadd, 1) := by decide +kernel
theorem dL_law_1453 : decode cL_law 1453 = .ok (.iaload, 1) := by decide +kernel
theorem dL_law_1454 : decode cL_law 1454 = .ok (.aload_n 0, 1) := by decide +kernel
theorem dL_law_1455 : decode cL_law 1455 = .ok (.iload_n 3, 1) := by decide +kernel
theorem dL_law_1456 : decode cL_law 1456 = .ok (.iconst 4, 1) := by decide +kernel
theorem dL_law_1457 : decode cL_law 1457 = .ok (.iadd, 1) := by decide +kernel
theorem dL_law_1458 : decode cL_law 1458 = .ok (.iaload, 1) := by decide +kernel
theorem dL_law_1459 : decode cL_law 1459 = .ok (.invokevirtual 167, 3) := by decide +kernel
theorem dL_law_1462 : decode cL_law 1462 = .ok (.if_icmp .eq 41, 3) := by decide +kernel
theorem dL_law_1465 : decode cL_law 1465 = .ok (.iconst 0, 1) := by decide +kernel
theorem dL_law_1466 : decode cL_law 1466 = .ok (.ireturn, 1) := by decide +kernel
theorem dL_law_1467 : decode cL_law 1467 = .ok (.aload_n 1, 1) := by decide +kernel
theorem dL_law_1468 : decode cL_law 1468 = .ok (.invokevirtual 168, 3) := by decide +kernel
theorem dL_law_1471 : decode cL_law 1471 = .ok (.aload_n 2, 1) := by decide +kernel
theorem dL_law_1472 : decode cL_law 1472 = .ok (.invokevirtual 171, 3) := by decide +kernel
theorem dL_law_1475 : decode cL_law 1475 = .ok (.if_icmp .eq 28, 3) := by decide +kernel
theorem dL_law_1478 : decode cL_law 1478 = .ok (.iconst 0, 1) := by decide +kernel
theorem dL_law_1479 : decode cL_law 1479 = .ok (.ireturn, 1) := by decide +kernel
theorem dL_law_1480 : decode cL_law 1480 = .ok (.aload_n 1, 1) := by decide +kernel
theorem dL_law_1481 : decode cL_law 1481 = .ok (.aload_n 0, 1) := by decide +kernel
theorem dL_law_1482 : decode cL_law 1482 = .ok (.iload_n 3, 1) := by decide +kernel
theorem dL_law_1483 : decode cL_law 1483 = .ok (.iconst 1, 1) := by decide +kernel
theorem dL_law_1484 : decode cL_law 1484 = .ok (.iadd, 1) := by decide +kernel
theorem dL_law_1485 : decode cL_law 1485 = .ok (.iaload, 1) := by decide +kernel
theorem dL_law_1486 : decode cL_law 1486 = .ok (.invokevirtual 172, 3) := by decide +kernel
theorem dL_law_1489 : decode cL_law 1489 = .ok (.aload_n 2, 1) := by decide +kernel
theorem dL_law_1490 : decode cL_law 1490 = .ok (.aload_n 0, 1) := by decide +kernel
theorem dL_law_1491 : decode cL_law 1491 = .ok (.iload_n 3, 1) := by decide +kernel
theorem dL_law_1492 : decode cL_law 1492 = .ok (.iconst 1, 1) := by decide +kernel
theorem dL_law_1493 : decode cL_law 1493 = .ok (.iadd, 1) := by decide +kernel
theorem dL_law_1494 : decode cL_law 1494 = .ok (.iaload, 1) := by decide +kernel
theorem dL_law_1495 : decode cL_law 1495 = .ok (.invokevirtual 175, 3) := by decide +kernel
theorem dL_law_1498 : decode cL_law 1498 = .ok (.if_icmp .eq 5, 3) := by decide +kernel
theorem dL_law_1501 : decode cL_law 1501 = .ok (.iconst 0, 1) := by decide +kernel
theorem dL_law_1502 : decode cL_law 1502 = .ok (.ireturn, 1) := by decide +kernel
theorem dL_law_1503 : decode cL_law 1503 = .ok (.iinc 3 6, 3) := by decide +kernel
theorem dL_law_1506 : decode cL_law 1506 = .ok (.goto (-1488), 3) := by decide +kernel
theorem dL_law_1509 : decode cL_law 1509 = .ok (.iconst 1, 1) := by decide +kernel
theorem dL_law_1510 : decode cL_law 1510 = .ok (.ireturn, 1) := by decide +kernel
end
section
/-! ===== the frame of all walks: one world of cells, one judgement Z ===== -/
def zws : List Cond := lw_tbl.filter goodWord
theorem zws_mem {w : Cond} (h : w ∈ lw_tbl) (g : goodWord w = true) : w ∈ zws := List.mem_filter.mpr ⟨h, g⟩
theorem zws_t {w : Cond} (i : Nat) (h : tables_1[i]? = some w) (g : goodWord w = true) : w ∈ zws := zws_mem (List.mem_append_right _ (List.mem_of_getElem? h)) g
theorem zws_s {w : Cond} (i : Nat) (h : (k2_sels lw_privs)[i]? = some w) (g : goodWord w = true) : w ∈ zws := zws_mem (List.mem_append_left _ (List.mem_of_getElem? h)) g
theorem zws_good : GoodIn zws zws := fun _ h => ⟨h, good_of_word (List.mem_filter.mp h).2⟩
/-- ghosts of a run: classes, array classes, the law's first new cell, String constants, the two static rows, addresses of the cells -/
abbrev zG : Type := va_G × (ClassId × ClassId × ClassId × ClassId) × Nat × (Nat → Nat) × (Nat → Nat) × Nat × Nat × (Nat → Nat)
abbrev zGD (G : zG) : va_G := G.1
abbrev zcI (G : zG) : ClassId := G.2.1.1
abbrev zcZ (G : zG) : ClassId := G.2.1.2.1
abbrev zcB (G : zG) : ClassId := G.2.1.2.2.1
abbrev zcS (G : zG) : ClassId := G.2.1.2.2.2
abbrev zGt (G : zG) : List (ClassId × FieldType) := [(zcI G, .int), (zcZ G, .boolean), (zcB G, .object "HueLease$Books"), (zcS G, .object "HueLease$Sheet")]
abbrev zGb (G : zG) : Nat := G.2.2.1
abbrev zGK (G : zG) : Nat → Nat := G.2.2.2.1
abbrev zGV (G : zG) : Nat → Nat := G.2.2.2.2.1
abbrev zGR (G : zG) : Nat := G.2.2.2.2.2.1
abbrev zGF (G : zG) : Nat := G.2.2.2.2.2.2.1
abbrev zGa (G : zG) : Nat → Nat := G.2.2.2.2.2.2.2
def zA (G : zG) : Nat → Prop := fun q => zGb G ≤ q
/-- a method: class, bytes, what it returns, locals, depth, cells and slots that it makes -/
abbrev zM : Type := String × ByteArray × Option FieldType × Nat × Nat × Nat × Nat
abbrev zMo (μ : zM) : String := μ.1
abbrev zMc (μ : zM) : ByteArray := μ.2.1
abbrev zMr (μ : zM) : Option FieldType := μ.2.2.1
abbrev zMl (μ : zM) : Nat := μ.2.2.2.1
abbrev zMd (μ : zM) : Nat := μ.2.2.2.2.1
abbrev zMk (μ : zM) : Nat := μ.2.2.2.2.2.1
abbrev zMs (μ : zM) : Nat := μ.2.2.2.2.2.2
def zrm (d k n : Nat) : Room := { frames := d, cells := k, slots := n, locals := 64 * d }
abbrev zX : Type := Program × Launch × Env × Room × State × MethodId × Array Value × List Frame × Method × Code × (State → Prop)
abbrev zXp (X : zX) : Program := X.1
abbrev zXl (X : zX) : Launch := X.2.1
abbrev zXe (X : zX) : Env := X.2.2.1
abbrev zXR (X : zX) : Room := X.2.2.2.1
abbrev zXs (X : zX) : State := X.2.2.2.2.1
abbrev zXm (X : zX) : MethodId := X.2.2.2.2.2.1
abbrev zXa (X : zX) : Array Value := X.2.2.2.2.2.2.1
abbrev zXb (X : zX) : List Frame := X.2.2.2.2.2.2.2.1
abbrev zXt (X : zX) : Method := X.2.2.2.2.2.2.2.2.1
abbrev zXc (X : zX) : Code := X.2.2.2.2.2.2.2.2.2.1
abbrev zXQ (X : zX) : State → Prop := X.2.2.2.2.2.2.2.2.2.2
/-- what the tables and the start give beside the words: nest mates, static rows, String constants -/
def zRents : Nat → Value := fun j => .int (([2, 3, 6, 1] : List Int32).getD j 0)
def zFades : Nat → Value := fun j => .int (([1, 0, 0, 3] : List Int32).getD j 0)
def zLen : List Nat := [5, 7, 5, 8, 3, 4]
def zByt : List (List Int32) := [[112, 108, 97, 105, 110], [108, 97, 115, 116, 105, 110, 103], [114, 111, 121, 97, 108], [102, 117, 103, 105, 116, 105, 118, 101], [111, 110, 101], [108, 101, 110, 116]]
def zTx : List String := ["plain", "lasting", "royal", "fugitive", "one", "lent"]
def zNestM : List (String × Nat × MethodName) := [("HueLease", 9, ⟨"HueLease$Books", "<init>", "()V"⟩), ("HueLease", 36, ⟨"HueLease$Tape", "<init>", "()V"⟩), ("HueLease$Tape", 17, ⟨"HueLease$Books", "<init>", "()V"⟩), ("HueLease", 43, ⟨"HueLease$Looks", "<init>", "()V"⟩), ("HueLease", 50, ⟨"HueLease$Mixer", "<init>", "()V"⟩), ("HueLease$Weather", 17, ⟨"HueLease$Books", "<init>", "()V"⟩), ("HueLease", 72, ⟨"HueLease$Sheet", "<init>", "()V"⟩), ("HueLease$Tape", 121, ⟨"HueLease", "within", "(III)Z"⟩), ("HueLease$Tape", 109, ⟨"HueLease", "hasBit", "(II)Z"⟩), ("HueLease$Books", 52, ⟨"HueLease", "within", "(III)Z"⟩), ("HueLease$Books", 56, ⟨"HueLease", "sum", "([III)I"⟩), ("HueLease$Mixer", 57, ⟨"HueLease", "offBetween", "(II)I"⟩)]
def zNestF : List (String × Nat × String × String × String) := [("HueLease$Books", 60, "HueLease", "RENTS", "[I"), ("HueLease$Books", 92, "HueLease", "FADINGS", "[I")]
def zSi : List Nat := [129, 135, 137, 139, 141, 143]
def zSt (G : zG) (U : State) : Prop :=
  (∀ q ∈ zNestM, va_Nw (.methodLinkNest q.1 q.2.1 q.2.2 "HueLease") U) ∧ (∀ q ∈ zNestF, va_Nw (.fieldLinkNest q.1 q.2.1 q.2.2.1 q.2.2.2.1 q.2.2.2.2 "HueLease") U) ∧
  (va_Z "HueLease" "RENTS" "[I" (.ref (zGR G)) (zA G) U U.heap ∧ va_T .int (zGR G) 4 zRents (zA G) U U.heap) ∧
  (va_Z "HueLease" "FADINGS" "[I" (.ref (zGF G)) (zA G) U U.heap ∧ va_T .int (zGF G) 4 zFades (zA G) U U.heap) ∧
  va_Z "java/lang/String" "COMPACT_STRINGS" "Z" (.int 1) (zA G) U U.heap ∧
  va_Zq "jdk/internal/util/Preconditions" "SIOOBE_FORMATTER" "Ljava/util/function/BiFunction;" (zA G) U U.heap ∧
  vk_S 6 zLen zByt (zGK G) (zGV G) (zA G) U U.heap ∧ (∀ i, i < 6 → vk_R "HueLease$Tape" (zSi.getD i 0) (zTx.getD i "") (zGK G i) U) ∧
  va_AO "HueLease$Books" U ∧ va_AO "HueLease$Sheet" U
theorem zSt.warm {G : zG} {s U : State} (h : zSt G s) (hW : s.WarmedH U.vm) (hq : ∀ a : Nat, a < s.heap.size → ¬ zA G a → U.heap[a]? = s.heap[a]?) : zSt G U := by
  obtain ⟨h1, h2, ⟨h3, h4⟩, ⟨h5, h6⟩, h7, h8, h9, h10, h11, h12⟩ := h
  have hv := hW.alike
  exact ⟨fun q m => (h1 q m).warmM hW, fun q m => (h2 q m).warmF hW, ⟨(h3.moved hv).kept hq, (h4.moved hv).kept hq⟩, ⟨(h5.moved hv).kept hq, (h6.moved hv).kept hq⟩, (h7.moved hv).kept hq, (h8.moved hv).kept hq, (h9.moved hv).kept hq, fun i hi => (h10 i hi).warm hW, h11.moved hv, h12.moved hv⟩
theorem zSt.same {G : zG} {s U : State} (h : zSt G s) (hv : s.vm = U.vm) (hh : U.heap = s.heap) : zSt G U := by
  obtain ⟨h1, h2, ⟨h3, h4⟩, ⟨h5, h6⟩, h7, h8, h9, h10, h11, h12⟩ := h
  have ha : s.vm.Alike U.vm := by rw [hv]; exact Vm.Alike.refl U.vm
  have hq : ∀ a : Nat, a < s.heap.size → ¬ zA G a → U.heap[a]? = s.heap[a]? := fun a _ _ => by rw [hh]
  exact ⟨fun q m => (h1 q m).same rfl hv, fun q m => (h2 q m).same rfl hv, ⟨(h3.moved ha).kept hq, (h4.moved ha).kept hq⟩, ⟨(h5.moved ha).kept hq, (h6.moved ha).kept hq⟩, (h7.moved ha).kept hq, (h8.moved ha).kept hq, (h9.moved ha).kept hq, fun i hi => (h10 i hi).same hv.symm, h11.moved ha, h12.moved ha⟩
/-- a world as a contract finds it -/
def zWd (G : zG) (ws : va_W) (U : State) : Prop := va_P (zGD G) vwCl ws U.heap ∧ va_D (zA G) ws ∧ va_K (zGD G) vwCl (zGt G) U ∧ zGb G ≤ U.heap.size ∧ zSt G U
def zQc (G : zG) (Post : Option Value → va_W → Prop) : Array Value → State → Outcome → State → Prop := fun _ st oc t => (∃ (r : Option Value) (ws : va_W), oc = .returned r ∧ Post r ws ∧ va_P (zGD G) vwCl ws t.heap ∧ va_D (zA G) ws) ∧ va_F (zA G) st t
def zMet (l : Launch) (y : MethodName) (μ : zM) (av : List Value) (G : zG) (ws : va_W) (Post : Option Value → va_W → Prop) : Prop :=
  Met l y (Cond.code y (zMc μ) (zMl μ) (zMr μ) :: zws) (zrm (zMd μ) (zMk μ) (zMs μ)) (va_Pc av (zWd G ws)) (zQc G Post) (zMk μ) (zMs μ) (zA G)
theorem zMet.mono {l : Launch} {y : MethodName} {μ : zM} {av : List Value} {G : zG} {ws : va_W} {P P' : Option Value → va_W → Prop} (h : zMet l y μ av G ws P) (hp : ∀ r w, P r w → P' r w) : zMet l y μ av G ws P' := by
  have e : ∀ (a : Array Value) (st : State) (o : Outcome) (t : State), zQc G P a st o t → zQc G P' a st o t := fun a st o t ⟨⟨r, w, h1, h2, h3⟩, h4⟩ => ⟨⟨r, w, h1, hp r w h2, h3⟩, h4⟩
  intro p e' ha hc hk s m args below hf hap hP hT
  obtain ⟨k, o, h1, h2, h3, h4⟩ := h p e' ha hc hk s m args below hf hap hP hT
  exact ⟨k, o, h1, h2, h3, e _ _ _ _ h4.1, h4.2⟩
/-- the machine's fixed part while a method's body runs -/
def zOK (G : zG) (X : zX) (μ : zM) : Prop :=
  (zXp X).tables.exec = Jvm.exec ∧ (zXc X).code = zMc μ ∧ (zXt X).sig.returnType = zMr μ ∧ (zXc X).maxLocals = zMl μ ∧ (zXs X).vm.findClass (zMo μ) = some (zXm X).cls ∧ (zXt X).locks = false ∧
  (∀ w ∈ zws, w.before (zXa X) (zXs X) = true) ∧ va_K (zGD G) vwCl (zGt G) (zXs X) ∧ zGb G ≤ (zXs X).heap.size ∧ zSt G (zXs X) ∧
  zMd μ ≤ (zXR X).frames ∧ 64 * zMd μ ≤ (zXR X).locals ∧ zMk μ ≤ (zXR X).cells ∧ zMs μ ≤ (zXR X).slots ∧ ((zXt X).name = "<init>" ∨ zMk μ = 0)
/-- the locals: a list of what is known of them -/
def zL (ls : Array Slot) (n : Nat) (L : List (Option Value)) : Prop := ls.size = n ∧ lv_wf ls ∧ ∀ (i : Nat) (v : Value), L[i]? = some (some v) → ls[i]? = some (.val v)
def zlv (L : List (Option Value)) : List (Nat × Value) := (List.range L.length).filterMap (fun i => match L[i]? with | some (some v) => some (i, v) | _ => none)
theorem zlv_mem {L : List (Option Value)} {i : Nat} {v : Value} (h : L[i]? = some (some v)) : (i, v) ∈ zlv L := by
  have hi : i < L.length := (List.getElem?_eq_some_iff.mp h).1
  refine List.mem_filterMap.mpr ⟨i, List.mem_range.mpr hi, ?_⟩
  rw [h]
theorem zlv_of {L : List (Option Value)} {q : Nat × Value} (h : q ∈ zlv L) : L[q.1]? = some (some q.2) := by
  obtain ⟨i, -, hi⟩ := List.mem_filterMap.mp h
  split at hi
  · rename_i v hv
    cases hi
    exact hv
  · cases hi
theorem zL.has {ls : Array Slot} {n : Nat} {L : List (Option Value)} (h : zL ls n L) : lv_has ls n (zlv L) := ⟨h.1, h.2.1, fun q hq => h.2.2 q.1 q.2 (zlv_of hq)⟩
/-- no long stands just before this place -/
def zok (L : List (Option Value)) : Nat → Bool
  | 0 => true
  | k + 1 => match L[k]? with
    | some (some v) => v.category != 2
    | _ => true
theorem zok_ne {L : List (Option Value)} {i j : Nat} {v : Value} (h : zok L i = true) (hj : L[j]? = some (some v)) (hc : v.category = 2) : ¬ j + 1 = i := by
  intro e
  subst e
  simp [zok, hj, hc] at h
theorem zL.set1 {ls : Array Slot} {n i : Nat} {L : List (Option Value)} {v : Value} (h : zok L i = true) (h2 : lv_has ls n ((i, v) :: (zlv L).filter (fun q => !(q.1 == i) && !(q.1 + 1 == i && q.2.category == 2)))) : zL ls n (L.set i (some v)) := by
  refine ⟨h2.1, h2.2.1, fun j w hj => ?_⟩
  by_cases e : j = i
  · subst e
    have hl : j < L.length := by
      have := (List.getElem?_eq_some_iff.mp hj).1
      simpa using this
    rw [List.getElem?_set_self hl] at hj
    cases hj
    exact h2.2.2 (j, v) List.mem_cons_self
  · rw [List.getElem?_set_ne (Ne.symm e)] at hj
    refine h2.2.2 (j, w) (List.mem_cons_of_mem _ (List.mem_filter.mpr ⟨zlv_mem hj, ?_⟩))
    simp only [Bool.and_eq_true, Bool.not_eq_true', beq_eq_false_iff_ne, ne_eq, Bool.and_eq_false_iff]
    refine ⟨e, ?_⟩
    by_cases hc : w.category = 2
    · exact Or.inl (zok_ne h hj hc)
    · exact Or.inr hc
theorem zL.set2 {ls : Array Slot} {n i : Nat} {L : List (Option Value)} {v : Value} (h : zok L i = true) (h2 : lv_has ls n ((i, v) :: (zlv L).filter (fun q => !(q.1 == i) && (!(q.1 == i + 1) && !(q.1 + 1 == i && q.2.category == 2))))) : zL ls n ((L.set i (some v)).set (i + 1) none) := by
  refine ⟨h2.1, h2.2.1, fun j w hj => ?_⟩
  by_cases e1 : j = i + 1
  · subst e1
    have hl : i + 1 < (L.set i (some v)).length := (by
      have := (List.getElem?_eq_some_iff.mp hj).1
      simpa using this)
    rw [List.getElem?_set_self hl] at hj
    cases hj
  rw [List.getElem?_set_ne (Ne.symm e1)] at hj
  by_cases e : j = i
  · subst e
    have hl : j < L.length := by
      have := (List.getElem?_eq_some_iff.mp hj).1
      simpa using this
    rw [List.getElem?_set_self hl] at hj
    cases hj
    exact h2.2.2 (j, v) List.mem_cons_self
  · rw [List.getElem?_set_ne (Ne.symm e)] at hj
    refine h2.2.2 (j, w) (List.mem_cons_of_mem _ (List.mem_filter.mpr ⟨zlv_mem hj, ?_⟩))
    simp only [Bool.and_eq_true, Bool.not_eq_true', beq_eq_false_iff_ne, ne_eq, Bool.and_eq_false_iff]
    refine ⟨e, e1, ?_⟩
    by_cases hc : w.category = 2
    · exact Or.inl (zok_ne h hj hc)
    · exact Or.inr hc
/-- THE JUDGEMENT: the machine, in this method at pc, with these cells, locals and stack, comes to its end as it should -/
def Z (G : zG) (X : zX) (μ : zM) (a b : Nat) (ws : va_W) (pc : Nat) (L : List (Option Value)) (S : List Value) : Prop :=
  zOK G X μ → ∀ (H : Heap) (locs : List Loc) (ls : Array Slot), va_P (zGD G) vwCl ws H → va_D (zA G) ws → va_S (zA G) (zXs X).heap H locs → zL ls (zMl μ) L →
    W (zXp X) (zXl X) (zXe X) (zXR X) (zXs X) (zXm X) (zXa X) (zXb X) (zXt X) (zXc X) H locs a b (zXQ X) (F0 (zXm X) pc ls S)
def zRet (G : zG) (X : zX) (μ : zM) (Post : Option Value → va_W → Prop) : Prop := zXQ X = MQ (zXb X) (zQc G Post) (zXa X) (zXs X) (zMk μ) (zMs μ) (zA G)
/-- the locals at a method's entry -/
def zEnt (vs : List Value) (n : Nat) : List (Option Value) :=
  let l := vs.flatMap (fun v => if v.category = 2 then [some v, none] else [some v])
  l ++ List.replicate (n - l.length) none
theorem zEnt_has (vs : List Value) (n : Nat) (h : (lg_sl vs).length ≤ n) : zL ((lg_sl vs ++ List.replicate (n - (lg_sl vs).length) Slot.unset).toArray) n (zEnt vs n) := by
  have h0 := lv_entry vs h
  refine ⟨h0.1, h0.2.1, fun i v hi => ?_⟩
  have key : ∀ (us : List Value) (i : Nat), (us.flatMap (fun v => if v.category = 2 then [some v, none] else [some v]))[i]? = some (some v) → (lg_sl us)[i]? = some (.val v) := by
    intro us
    induction us with
    | nil => intro i h; simp at h
    | cons w us ih =>
      intro i h
      rw [List.flatMap_cons] at h
      have e : lg_sl (w :: us) = (if w.category = 2 then [.val w, .second] else [.val w]) ++ lg_sl us := by rw [lg_sl, List.flatMap_cons]; rfl
      rw [e]
      by_cases hc : w.category = 2
      · rw [if_pos hc] at h ⊢
        match i, h with
        | 0, h => simp at h; simp [h]
        | 1, h => simp at h
        | i + 2, h => simpa using ih i (by simpa using h)
      · rw [if_neg hc] at h ⊢
        match i, h with
        | 0, h => simp at h; simp [h]
        | i + 1, h => simpa using ih i (by simpa using h)
  have hl : i < (vs.flatMap (fun v : Value => if v.category = 2 then [some v, none] else [some v])).length := by
    rcases Nat.lt_or_ge i (vs.flatMap (fun v : Value => if v.category = 2 then [some v, none] else [some v])).length with q | q
    · exact q
    · rw [zEnt, List.getElem?_append_right q, List.getElem?_replicate] at hi
      split at hi <;> cases hi
  rw [zEnt, List.getElem?_append_left hl] at hi
  have h1 := key vs i hi
  rw [List.getElem?_toArray, List.getElem?_append_left (List.getElem?_eq_some_iff.mp h1).1]
  exact h1
theorem zMet.of {l : Launch} {y : MethodName} {μ : zM} {av : List Value} {G : zG} {ws : va_W} {Post : Option Value → va_W → Prop} (hy : plainName y.cls = true) (ho : y.cls = zMo μ) (hn : (lg_sl av).length ≤ zMl μ) (hi : y.name = "<init>" ∨ zMk μ = 0)
    (body : ∀ X : zX, zXl X = l → zRet G X μ Post → Z G X μ 0 0 ws 0 (zEnt av (zMl μ)) []) : zMet l y μ av G ws Post := by
  refine Met.ofW (cc := zMc μ) (maxL := zMl μ) (ret := zMr μ) hy rfl ?_
  intro p e s m args below meth c s₁ B hml hv
  obtain ⟨rfl, hP, hD, hK, hb0, hSt⟩ := hv
  have hts := atoms_spec (ws := Cond.code y (zMc μ) (zMl μ) (zMr μ) :: zws) B.pre
  have hown : s.vm.findClass (zMo μ) = some m.cls := by rw [← ho]; exact findClass_of_methodNamed B.named
  rw [lg_entry_eq]
  refine body (p, l, e, (headSpec (Cond.code y (zMc μ) (zMl μ) (zMr μ) :: zws) (zrm (zMd μ) (zMk μ) (zMs μ))).room, s, m, av.toArray, below, meth, c, MQ below (zQc G Post) av.toArray s (zMk μ) (zMs μ) (zA G)) rfl rfl ?_ s.heap [] _ hP hD va_S.rf (zEnt_has av _ hn)
  refine ⟨B.exec, B.bytes, B.returns, hml, hown, B.notSynchronized, fun w h => hts w (List.mem_cons_of_mem _ h), hK, hb0, hSt, Nat.le_refl _, Nat.le_refl _, Nat.le_refl _, Nat.le_refl _, ?_⟩
  rcases hi with h | h
  · exact Or.inl ((name_of_methodNamed B.named B.method).1.trans h)
  · exact Or.inr h
section ZR
variable {G : zG} {X : zX} {μ : zM} {a b : Nat} {ws : va_W} {pc : Nat} {L : List (Option Value)} {S : List Value} {Post : Option Value → va_W → Prop}
theorem zF {A : Nat → Prop} {H : Heap} {s t : State} {locs : List Loc} (hS : va_S A s.heap H locs) (ht : t.heap = H) : va_F A s t := hS.F ht
theorem z_iret {v : Int32} (hq : zRet G X μ Post) (hr : zMr μ = some .int) (hd : decode (zMc μ) pc = .ok (.ireturn, 1)) (ha : a = zMk μ) (hb : b = zMs μ) (hp : Post (some (.int v)) ws) : Z G X μ a b ws pc L [.int v] := by
  intro ok H locs ls hP hD hS hl
  subst ha; subst hb
  rw [hq]
  exact W.iret ok.1 ok.2.1 (ok.2.2.1.trans hr) (fun t ht hW => ⟨⟨_, ws, rfl, hp, by rw [ht]; exact hP, hD⟩, hS.F ht⟩) hS.2.2 hd ok.2.2.2.2.2.1
theorem z_zret {v : Int32} {ty : FieldType} (hq : zRet G X μ Post) (hr : zMr μ = some ty) (hn : narrow ty (.int v) = .int v) (hd : decode (zMc μ) pc = .ok (.ireturn, 1)) (ha : a = zMk μ) (hb : b = zMs μ) (hp : Post (some (.int v)) ws) : Z G X μ a b ws pc L [.int v] := by
  intro ok H locs ls hP hD hS hl
  subst ha; subst hb
  rw [hq]
  exact W.zret ok.1 ok.2.1 (ok.2.2.1.trans hr) hn (fun t ht hW => ⟨⟨_, ws, rfl, hp, by rw [ht]; exact hP, hD⟩, hS.F ht⟩) hS.2.2 hd ok.2.2.2.2.2.1
theorem z_lret {v : Int64} (hq : zRet G X μ Post) (hr : zMr μ = some .long) (hd : decode (zMc μ) pc = .ok (.lreturn, 1)) (ha : a = zMk μ) (hb : b = zMs μ) (hp : Post (some (.long v)) ws) : Z G X μ a b ws pc L [.long v] := by
  intro ok H locs ls hP hD hS hl
  subst ha; subst hb
  rw [hq]
  exact W.lret ok.1 ok.2.1 (ok.2.2.1.trans hr) (fun t ht hW => ⟨⟨_, ws, rfl, hp, by rw [ht]; exact hP, hD⟩, hS.F ht⟩) hS.2.2 hd ok.2.2.2.2.2.1
theorem z_vret (hq : zRet G X μ Post) (hr : zMr μ = none) (hd : decode (zMc μ) pc = .ok (.return_, 1)) (ha : a = zMk μ) (hb : b = zMs μ) (hp : Post none ws) : Z G X μ a b ws pc L [] := by
  intro ok H locs ls hP hD hS hl
  subst ha; subst hb
  rw [hq]
  exact W.vret ok.1 ok.2.1 (ok.2.2.1.trans hr) (fun t ht hW => ⟨⟨_, ws, rfl, hp, by rw [ht]; exact hP, hD⟩, hS.F ht⟩) hS.2.2 hd ok.2.2.2.2.2.1
end ZR
end
section
section ZW
variable {G : zG} {X : zX} {μ : zM} {a b : Nat} {ws : va_W} {pc : Nat} {L : List (Option Value)} {S : List Value}
theorem z_iconst (n : Nat) {m : Int} {v : Int32} (hd : decode (zMc μ) pc = .ok (.iconst m, 1)) (hv : Int32.ofInt m = v) (hn : pc + 1 = n) (k : Z G X μ a b ws n L (.int v :: S)) : Z G X μ a b ws pc L (S) := by
  subst hn
  intro ok H locs ls hP hD hS hl
  exact lv_iconst ok.1 ok.2.1 hd hv (k ok H locs ls hP hD hS hl)
theorem z_bipush (n : Nat) {m : Int} {v : Int32} (hd : decode (zMc μ) pc = .ok (.bipush m, 2)) (hv : (Int8.ofInt m).toInt32 = v) (hn : pc + 2 = n) (k : Z G X μ a b ws n L (.int v :: S)) : Z G X μ a b ws pc L (S) := by
  subst hn
  intro ok H locs ls hP hD hS hl
  exact lv_bipush ok.1 ok.2.1 hd hv (k ok H locs ls hP hD hS hl)
theorem z_sipush (n : Nat) {m : Int} {v : Int32} (hd : decode (zMc μ) pc = .ok (.sipush m, 3)) (hv : (Int16.ofInt m).toInt32 = v) (hn : pc + 3 = n) (k : Z G X μ a b ws n L (.int v :: S)) : Z G X μ a b ws pc L (S) := by
  subst hn
  intro ok H locs ls hP hD hS hl
  exact lv_sipush ok.1 ok.2.1 hd hv (k ok H locs ls hP hD hS hl)
theorem z_lconst (n : Nat) {m : Fin 2} {v : Int64} (hd : decode (zMc μ) pc = .ok (.lconst m, 1)) (hv : Int64.ofNat (m : Nat) = v) (hn : pc + 1 = n) (k : Z G X μ a b ws n L (.long v :: S)) : Z G X μ a b ws pc L (S) := by
  subst hn
  intro ok H locs ls hP hD hS hl
  exact lv_lconst ok.1 ok.2.1 hd hv (k ok H locs ls hP hD hS hl)
theorem z_null (n : Nat)  (hd : decode (zMc μ) pc = .ok (.aconst_null, 1))  (hn : pc + 1 = n) (k : Z G X μ a b ws n L (.null :: S)) : Z G X μ a b ws pc L (S) := by
  subst hn
  intro ok H locs ls hP hD hS hl
  exact lv_null ok.1 ok.2.1 hd (k ok H locs ls hP hD hS hl)
theorem z_iload_n (n : Nat) {m : Fin 4} {x : Int32} (hd : decode (zMc μ) pc = .ok (.iload_n m, 1)) (hv : L[(m : Nat)]? = some (some (.int x))) (hn : pc + 1 = n) (k : Z G X μ a b ws n L (.int x :: S)) : Z G X μ a b ws pc L (S) := by
  subst hn
  intro ok H locs ls hP hD hS hl
  exact lv_iload_n ok.1 ok.2.1 hd rfl (hl.2.2 _ _ hv) (k ok H locs ls hP hD hS hl)
theorem z_iload (n : Nat) {m : Nat} {x : Int32} (hd : decode (zMc μ) pc = .ok (.iload m, 2)) (hv : L[m]? = some (some (.int x))) (hn : pc + 2 = n) (k : Z G X μ a b ws n L (.int x :: S)) : Z G X μ a b ws pc L (S) := by
  subst hn
  intro ok H locs ls hP hD hS hl
  exact lv_iload ok.1 ok.2.1 hd (hl.2.2 _ _ hv) (k ok H locs ls hP hD hS hl)
theorem z_lload_n (n : Nat) {m : Fin 4} {x : Int64} (hd : decode (zMc μ) pc = .ok (.lload_n m, 1)) (hv : L[(m : Nat)]? = some (some (.long x))) (hn : pc + 1 = n) (k : Z G X μ a b ws n L (.long x :: S)) : Z G X μ a b ws pc L (S) := by
  subst hn
  intro ok H locs ls hP hD hS hl
  exact lv_lload_n ok.1 ok.2.1 hd rfl (hl.2.2 _ _ hv) (k ok H locs ls hP hD hS hl)
theorem z_lload (n : Nat) {m : Nat} {x : Int64} (hd : decode (zMc μ) pc = .ok (.lload m, 2)) (hv : L[m]? = some (some (.long x))) (hn : pc + 2 = n) (k : Z G X μ a b ws n L (.long x :: S)) : Z G X μ a b ws pc L (S) := by
  subst hn
  intro ok H locs ls hP hD hS hl
  exact lv_lload ok.1 ok.2.1 hd (hl.2.2 _ _ hv) (k ok H locs ls hP hD hS hl)
theorem z_aload_n (n : Nat) {m : Fin 4} {x : Nat} (hd : decode (zMc μ) pc = .ok (.aload_n m, 1)) (hv : L[(m : Nat)]? = some (some (.ref x))) (hn : pc + 1 = n) (k : Z G X μ a b ws n L (.ref x :: S)) : Z G X μ a b ws pc L (S) := by
  subst hn
  intro ok H locs ls hP hD hS hl
  exact lv_aload_n ok.1 ok.2.1 hd rfl (hl.2.2 _ _ hv) (k ok H locs ls hP hD hS hl)
theorem z_aload (n : Nat) {m : Nat} {x : Nat} (hd : decode (zMc μ) pc = .ok (.aload m, 2)) (hv : L[m]? = some (some (.ref x))) (hn : pc + 2 = n) (k : Z G X μ a b ws n L (.ref x :: S)) : Z G X μ a b ws pc L (S) := by
  subst hn
  intro ok H locs ls hP hD hS hl
  exact lv_aload ok.1 ok.2.1 hd (hl.2.2 _ _ hv) (k ok H locs ls hP hD hS hl)
theorem z_istore_n (n : Nat) (L' : List (Option Value)) {m : Fin 4} {x : Int32} (hd : decode (zMc μ) pc = .ok (.istore_n m, 1)) (hm : (m : Nat) < zMl μ) (hz : zok L m = true) (hL : L.set m (some (.int x)) = L') (hn : pc + 1 = n) (k : Z G X μ a b ws n L' S) : Z G X μ a b ws pc L (.int x :: S) := by
  subst hn
  subst hL
  intro ok H locs ls hP hD hS hl
  exact lv_istore_n ok.1 ok.2.1 hd rfl hl.has hm rfl (fun ls' h' => k ok H locs ls' hP hD hS (zL.set1 hz h'))
theorem z_istore (n : Nat) (L' : List (Option Value)) {m : Nat} {x : Int32} (hd : decode (zMc μ) pc = .ok (.istore m, 2)) (hm : (m : Nat) < zMl μ) (hz : zok L m = true) (hL : L.set m (some (.int x)) = L') (hn : pc + 2 = n) (k : Z G X μ a b ws n L' S) : Z G X μ a b ws pc L (.int x :: S) := by
  subst hn
  subst hL
  intro ok H locs ls hP hD hS hl
  exact lv_istore ok.1 ok.2.1 hd hl.has hm rfl (fun ls' h' => k ok H locs ls' hP hD hS (zL.set1 hz h'))
theorem z_astore_n (n : Nat) (L' : List (Option Value)) {m : Fin 4} {x : Nat} (hd : decode (zMc μ) pc = .ok (.astore_n m, 1)) (hm : (m : Nat) < zMl μ) (hz : zok L m = true) (hL : L.set m (some (.ref x)) = L') (hn : pc + 1 = n) (k : Z G X μ a b ws n L' S) : Z G X μ a b ws pc L (.ref x :: S) := by
  subst hn
  subst hL
  intro ok H locs ls hP hD hS hl
  exact lv_astore_n ok.1 ok.2.1 hd rfl hl.has hm rfl (fun ls' h' => k ok H locs ls' hP hD hS (zL.set1 hz h'))
theorem z_astore (n : Nat) (L' : List (Option Value)) {m : Nat} {x : Nat} (hd : decode (zMc μ) pc = .ok (.astore m, 2)) (hm : (m : Nat) < zMl μ) (hz : zok L m = true) (hL : L.set m (some (.ref x)) = L') (hn : pc + 2 = n) (k : Z G X μ a b ws n L' S) : Z G X μ a b ws pc L (.ref x :: S) := by
  subst hn
  subst hL
  intro ok H locs ls hP hD hS hl
  exact lv_astore ok.1 ok.2.1 hd hl.has hm rfl (fun ls' h' => k ok H locs ls' hP hD hS (zL.set1 hz h'))
theorem z_lstore_n (n : Nat) (L' : List (Option Value)) {m : Fin 4} {x : Int64} (hd : decode (zMc μ) pc = .ok (.lstore_n m, 1)) (hm : (m : Nat) + 1 < zMl μ) (hz : zok L m = true) (hL : (L.set m (some (.long x))).set ((m : Nat) + 1) none = L') (hn : pc + 1 = n) (k : Z G X μ a b ws n L' S) : Z G X μ a b ws pc L (.long x :: S) := by
  subst hn
  subst hL
  intro ok H locs ls hP hD hS hl
  exact lv_lstore_n ok.1 ok.2.1 hd rfl hl.has hm rfl (fun ls' h' => k ok H locs ls' hP hD hS (zL.set2 hz h'))
theorem z_lstore (n : Nat) (L' : List (Option Value)) {m : Nat} {x : Int64} (hd : decode (zMc μ) pc = .ok (.lstore m, 2)) (hm : (m : Nat) + 1 < zMl μ) (hz : zok L m = true) (hL : (L.set m (some (.long x))).set ((m : Nat) + 1) none = L') (hn : pc + 2 = n) (k : Z G X μ a b ws n L' S) : Z G X μ a b ws pc L (.long x :: S) := by
  subst hn
  subst hL
  intro ok H locs ls hP hD hS hl
  exact lv_lstore ok.1 ok.2.1 hd hl.has hm rfl (fun ls' h' => k ok H locs ls' hP hD hS (zL.set2 hz h'))
theorem z_iinc (n : Nat) (L' : List (Option Value)) {m : Nat} {c : Int} {x v : Int32} (hd : decode (zMc μ) pc = .ok (.iinc m c, 3)) (hx : L[m]? = some (some (.int x))) (hv : x + Int32.ofInt c = v) (hm : m < zMl μ) (hz : zok L m = true) (hL : L.set m (some (.int v)) = L') (hn : pc + 3 = n) (k : Z G X μ a b ws n L' S) : Z G X μ a b ws pc L S := by
  subst hn
  subst hL
  intro ok H locs ls hP hD hS hl
  obtain ⟨j, hj⟩ := List.getElem?_of_mem (zlv_mem hx)
  exact lv_iinc ok.1 ok.2.1 hd hl.has hj hv hm rfl (fun ls' h' => k ok H locs ls' hP hD hS (zL.set1 hz h'))
theorem z_iadd (n : Nat) {x y : Int32} (hd : decode (zMc μ) pc = .ok (.iadd, 1))  (hn : pc + 1 = n) (k : Z G X μ a b ws n L (.int (x + y) :: S)) : Z G X μ a b ws pc L (.int y :: .int x :: S) := by
  subst hn
  intro ok H locs ls hP hD hS hl
  exact lv_iadd ok.1 ok.2.1 hd (k ok H locs ls hP hD hS hl)
theorem z_isub (n : Nat) {x y : Int32} (hd : decode (zMc μ) pc = .ok (.isub, 1))  (hn : pc + 1 = n) (k : Z G X μ a b ws n L (.int (x - y) :: S)) : Z G X μ a b ws pc L (.int y :: .int x :: S) := by
  subst hn
  intro ok H locs ls hP hD hS hl
  exact lv_isub ok.1 ok.2.1 hd (k ok H locs ls hP hD hS hl)
theorem z_imul (n : Nat) {x y : Int32} (hd : decode (zMc μ) pc = .ok (.imul, 1))  (hn : pc + 1 = n) (k : Z G X μ a b ws n L (.int (x * y) :: S)) : Z G X μ a b ws pc L (.int y :: .int x :: S) := by
  subst hn
  intro ok H locs ls hP hD hS hl
  exact lv_imul ok.1 ok.2.1 hd (k ok H locs ls hP hD hS hl)
theorem z_iand (n : Nat) {x y : Int32} (hd : decode (zMc μ) pc = .ok (.iand, 1))  (hn : pc + 1 = n) (k : Z G X μ a b ws n L (.int (x &&& y) :: S)) : Z G X μ a b ws pc L (.int y :: .int x :: S) := by
  subst hn
  intro ok H locs ls hP hD hS hl
  exact lv_iand ok.1 ok.2.1 hd (k ok H locs ls hP hD hS hl)
theorem z_ior (n : Nat) {x y : Int32} (hd : decode (zMc μ) pc = .ok (.ior, 1))  (hn : pc + 1 = n) (k : Z G X μ a b ws n L (.int (x ||| y) :: S)) : Z G X μ a b ws pc L (.int y :: .int x :: S) := by
  subst hn
  intro ok H locs ls hP hD hS hl
  exact lv_ior ok.1 ok.2.1 hd (k ok H locs ls hP hD hS hl)
theorem z_ixor (n : Nat) {x y : Int32} (hd : decode (zMc μ) pc = .ok (.ixor, 1))  (hn : pc + 1 = n) (k : Z G X μ a b ws n L (.int (x ^^^ y) :: S)) : Z G X μ a b ws pc L (.int y :: .int x :: S) := by
  subst hn
  intro ok H locs ls hP hD hS hl
  exact lv_ixor ok.1 ok.2.1 hd (k ok H locs ls hP hD hS hl)
theorem z_ishl (n : Nat) {x y : Int32} (hd : decode (zMc μ) pc = .ok (.ishl, 1))  (hn : pc + 1 = n) (k : Z G X μ a b ws n L (.int (x <<< (y &&& 31)) :: S)) : Z G X μ a b ws pc L (.int y :: .int x :: S) := by
  subst hn
  intro ok H locs ls hP hD hS hl
  exact lv_ishl ok.1 ok.2.1 hd (k ok H locs ls hP hD hS hl)
theorem z_ishr (n : Nat) {x y : Int32} (hd : decode (zMc μ) pc = .ok (.ishr, 1))  (hn : pc + 1 = n) (k : Z G X μ a b ws n L (.int (x >>> (y &&& 31)) :: S)) : Z G X μ a b ws pc L (.int y :: .int x :: S) := by
  subst hn
  intro ok H locs ls hP hD hS hl
  exact lv_ishr ok.1 ok.2.1 hd (k ok H locs ls hP hD hS hl)
theorem z_iushr (n : Nat) {x y v : Int32} (hd : decode (zMc μ) pc = .ok (.iushr, 1)) (hv : (x.toUInt32 >>> (y.toUInt32 &&& Int32.toUInt32 31)).toInt32 = v) (hn : pc + 1 = n) (k : Z G X μ a b ws n L (.int v :: S)) : Z G X μ a b ws pc L (.int y :: .int x :: S) := by
  subst hn
  intro ok H locs ls hP hD hS hl
  exact lv_iushr ok.1 ok.2.1 hd hv (k ok H locs ls hP hD hS hl)
theorem z_idiv (n : Nat) {x y : Int32} (hd : decode (zMc μ) pc = .ok (.idiv, 1)) (hne : ¬ y = 0) (hn : pc + 1 = n) (k : Z G X μ a b ws n L (.int (x / y) :: S)) : Z G X μ a b ws pc L (.int y :: .int x :: S) := by
  subst hn
  intro ok H locs ls hP hD hS hl
  exact lv_idiv ok.1 ok.2.1 hd hne (k ok H locs ls hP hD hS hl)
theorem z_irem (n : Nat) {x y : Int32} (hd : decode (zMc μ) pc = .ok (.irem, 1)) (hne : ¬ y = 0) (hn : pc + 1 = n) (k : Z G X μ a b ws n L (.int (x - x / y * y) :: S)) : Z G X μ a b ws pc L (.int y :: .int x :: S) := by
  subst hn
  intro ok H locs ls hP hD hS hl
  exact lv_irem ok.1 ok.2.1 hd hne (k ok H locs ls hP hD hS hl)
theorem z_ineg (n : Nat) {x : Int32} (hd : decode (zMc μ) pc = .ok (.ineg, 1))  (hn : pc + 1 = n) (k : Z G X μ a b ws n L (.int (-x) :: S)) : Z G X μ a b ws pc L (.int x :: S) := by
  subst hn
  intro ok H locs ls hP hD hS hl
  exact lv_ineg ok.1 ok.2.1 hd (k ok H locs ls hP hD hS hl)
theorem z_ladd (n : Nat) {x y : Int64} (hd : decode (zMc μ) pc = .ok (.ladd, 1))  (hn : pc + 1 = n) (k : Z G X μ a b ws n L (.long (x + y) :: S)) : Z G X μ a b ws pc L (.long y :: .long x :: S) := by
  subst hn
  intro ok H locs ls hP hD hS hl
  exact lv_ladd ok.1 ok.2.1 hd (k ok H locs ls hP hD hS hl)
theorem z_lsub (n : Nat) {x y : Int64} (hd : decode (zMc μ) pc = .ok (.lsub, 1))  (hn : pc + 1 = n) (k : Z G X μ a b ws n L (.long (x - y) :: S)) : Z G X μ a b ws pc L (.long y :: .long x :: S) := by
  subst hn
  intro ok H locs ls hP hD hS hl
  exact lv_lsub ok.1 ok.2.1 hd (k ok H locs ls hP hD hS hl)
theorem z_lmul (n : Nat) {x y : Int64} (hd : decode (zMc μ) pc = .ok (.lmul, 1))  (hn : pc + 1 = n) (k : Z G X μ a b ws n L (.long (x * y) :: S)) : Z G X μ a b ws pc L (.long y :: .long x :: S) := by
  subst hn
  intro ok H locs ls hP hD hS hl
  exact lv_lmul ok.1 ok.2.1 hd (k ok H locs ls hP hD hS hl)
theorem z_ldiv (n : Nat) {x y : Int64} (hd : decode (zMc μ) pc = .ok (.ldiv, 1)) (hne : ¬ y = 0) (hn : pc + 1 = n) (k : Z G X μ a b ws n L (.long (x / y) :: S)) : Z G X μ a b ws pc L (.long y :: .long x :: S) := by
  subst hn
  intro ok H locs ls hP hD hS hl
  exact lv_ldiv ok.1 ok.2.1 hd hne (k ok H locs ls hP hD hS hl)
theorem z_lrem (n : Nat) {x y : Int64} (hd : decode (zMc μ) pc = .ok (.lrem, 1)) (hne : ¬ y = 0) (hn : pc + 1 = n) (k : Z G X μ a b ws n L (.long (x - x / y * y) :: S)) : Z G X μ a b ws pc L (.long y :: .long x :: S) := by
  subst hn
  intro ok H locs ls hP hD hS hl
  exact lv_lrem ok.1 ok.2.1 hd hne (k ok H locs ls hP hD hS hl)
theorem z_i2l (n : Nat) {x : Int32} (hd : decode (zMc μ) pc = .ok (.i2l, 1))  (hn : pc + 1 = n) (k : Z G X μ a b ws n L (.long x.toInt64 :: S)) : Z G X μ a b ws pc L (.int x :: S) := by
  subst hn
  intro ok H locs ls hP hD hS hl
  exact lv_i2l ok.1 ok.2.1 hd rfl (k ok H locs ls hP hD hS hl)
theorem z_l2i (n : Nat) {x : Int64} (hd : decode (zMc μ) pc = .ok (.l2i, 1))  (hn : pc + 1 = n) (k : Z G X μ a b ws n L (.int x.toInt32 :: S)) : Z G X μ a b ws pc L (.long x :: S) := by
  subst hn
  intro ok H locs ls hP hD hS hl
  exact lv_l2i ok.1 ok.2.1 hd rfl (k ok H locs ls hP hD hS hl)
theorem z_i2b (n : Nat) {x : Int32} (hd : decode (zMc μ) pc = .ok (.i2b, 1))  (hn : pc + 1 = n) (k : Z G X μ a b ws n L (.int x.toInt8.toInt32 :: S)) : Z G X μ a b ws pc L (.int x :: S) := by
  subst hn
  intro ok H locs ls hP hD hS hl
  exact lv_i2b ok.1 ok.2.1 hd rfl (k ok H locs ls hP hD hS hl)
theorem z_i2s (n : Nat) {x : Int32} (hd : decode (zMc μ) pc = .ok (.i2s, 1))  (hn : pc + 1 = n) (k : Z G X μ a b ws n L (.int x.toInt16.toInt32 :: S)) : Z G X μ a b ws pc L (.int x :: S) := by
  subst hn
  intro ok H locs ls hP hD hS hl
  exact lv_i2s ok.1 ok.2.1 hd rfl (k ok H locs ls hP hD hS hl)
theorem z_i2c (n : Nat) {x : Int32} (hd : decode (zMc μ) pc = .ok (.i2c, 1))  (hn : pc + 1 = n) (k : Z G X μ a b ws n L (.int (x.toUInt32 % 65536).toInt32 :: S)) : Z G X μ a b ws pc L (.int x :: S) := by
  subst hn
  intro ok H locs ls hP hD hS hl
  exact lv_i2c ok.1 ok.2.1 hd rfl (k ok H locs ls hP hD hS hl)
theorem z_lcmp (n : Nat) {x y : Int64} (hd : decode (zMc μ) pc = .ok (.lcmp, 1))  (hn : pc + 1 = n) (k : Z G X μ a b ws n L (.int (lg_cmp x y) :: S)) : Z G X μ a b ws pc L (.long y :: .long x :: S) := by
  subst hn
  intro ok H locs ls hP hD hS hl
  exact W.lcmp ok.1 ok.2.1 hd (k ok H locs ls hP hD hS hl)
theorem z_dup (n : Nat) {va : Value} (hd : decode (zMc μ) pc = .ok (.dup, 1)) (hva : va.category = 1) (hn : pc + 1 = n) (k : Z G X μ a b ws n L (va :: va :: S)) : Z G X μ a b ws pc L (va :: S) := by
  subst hn
  intro ok H locs ls hP hD hS hl
  exact lv_dup ok.1 ok.2.1 hd hva (k ok H locs ls hP hD hS hl)
theorem z_pop (n : Nat) {va : Value} (hd : decode (zMc μ) pc = .ok (.pop, 1)) (hva : va.category = 1) (hn : pc + 1 = n) (k : Z G X μ a b ws n L (S)) : Z G X μ a b ws pc L (va :: S) := by
  subst hn
  intro ok H locs ls hP hD hS hl
  exact lv_pop ok.1 ok.2.1 hd hva (k ok H locs ls hP hD hS hl)
theorem z_dup_x1 (n : Nat) {va vb : Value} (hd : decode (zMc μ) pc = .ok (.dup_x1, 1)) (hva : va.category = 1) (hvb : vb.category = 1) (hn : pc + 1 = n) (k : Z G X μ a b ws n L (va :: vb :: va :: S)) : Z G X μ a b ws pc L (va :: vb :: S) := by
  subst hn
  intro ok H locs ls hP hD hS hl
  exact lv_dup_x1 ok.1 ok.2.1 hd hva hvb (k ok H locs ls hP hD hS hl)
theorem z_dup_x2 (n : Nat) {va vb vd : Value} (hd : decode (zMc μ) pc = .ok (.dup_x2, 1)) (hva : va.category = 1) (hvb : vb.category = 1) (hvd : vd.category = 1) (hn : pc + 1 = n) (k : Z G X μ a b ws n L (va :: vb :: vd :: va :: S)) : Z G X μ a b ws pc L (va :: vb :: vd :: S) := by
  subst hn
  intro ok H locs ls hP hD hS hl
  exact lv_dup_x2 ok.1 ok.2.1 hd hva hvb hvd (k ok H locs ls hP hD hS hl)
theorem z_dup2 (n : Nat) {va vb : Value} (hd : decode (zMc μ) pc = .ok (.dup2, 1)) (hva : va.category = 1) (hvb : vb.category = 1) (hn : pc + 1 = n) (k : Z G X μ a b ws n L (va :: vb :: va :: vb :: S)) : Z G X μ a b ws pc L (va :: vb :: S) := by
  subst hn
  intro ok H locs ls hP hD hS hl
  exact lv_dup2_11 ok.1 ok.2.1 hd hva hvb (k ok H locs ls hP hD hS hl)
theorem z_if_eq (t n : Nat) {x : Int32} {off : Int} (hd : decode (zMc μ) pc = .ok (.ifCond .eq off, 3)) (ht : (pc : Int) + off = (t : Int)) (hn : pc + 3 = n) (kt : x = 0 → Z G X μ a b ws t L S) (kf : ¬ (x = 0) → Z G X μ a b ws n L S) : Z G X μ a b ws pc L (.int x :: S) := by
  subst hn
  intro ok H locs ls hP hD hS hl
  exact lv_if_eq ok.1 ok.2.1 hd ht (fun h => kt h ok H locs ls hP hD hS hl) (fun h => kf h ok H locs ls hP hD hS hl)
theorem z_if_eq_t (t : Nat) {x : Int32} {off : Int} (hd : decode (zMc μ) pc = .ok (.ifCond .eq off, 3)) (ht : (pc : Int) + off = (t : Int)) (h : x = 0) (k : Z G X μ a b ws t L S) : Z G X μ a b ws pc L (.int x :: S) := z_if_eq t (pc + 3) hd ht rfl (fun _ => k) (fun h9 => absurd h h9)
theorem z_if_eq_f (n : Nat) {x : Int32} {off : Int} (t : Nat) (hd : decode (zMc μ) pc = .ok (.ifCond .eq off, 3)) (ht : (pc : Int) + off = (t : Int)) (h : ¬ (x = 0)) (hn : pc + 3 = n) (k : Z G X μ a b ws n L S) : Z G X μ a b ws pc L (.int x :: S) := z_if_eq t n hd ht hn (fun h9 => absurd h9 h) (fun _ => k)
theorem z_icmp_eq (t n : Nat) {x y : Int32} {off : Int} (hd : decode (zMc μ) pc = .ok (.if_icmp .eq off, 3)) (ht : (pc : Int) + off = (t : Int)) (hn : pc + 3 = n) (kt : x = y → Z G X μ a b ws t L S) (kf : ¬ (x = y) → Z G X μ a b ws n L S) : Z G X μ a b ws pc L (.int y :: .int x :: S) := by
  subst hn
  intro ok H locs ls hP hD hS hl
  exact lv_icmp_eq ok.1 ok.2.1 hd ht (fun h => kt h ok H locs ls hP hD hS hl) (fun h => kf h ok H locs ls hP hD hS hl)
theorem z_icmp_eq_t (t : Nat) {x y : Int32} {off : Int} (hd : decode (zMc μ) pc = .ok (.if_icmp .eq off, 3)) (ht : (pc : Int) + off = (t : Int)) (h : x = y) (k : Z G X μ a b ws t L S) : Z G X μ a b ws pc L (.int y :: .int x :: S) := z_icmp_eq t (pc + 3) hd ht rfl (fun _ => k) (fun h9 => absurd h h9)
theorem z_icmp_eq_f (n : Nat) {x y : Int32} {off : Int} (t : Nat) (hd : decode (zMc μ) pc = .ok (.if_icmp .eq off, 3)) (ht : (pc : Int) + off = (t : Int)) (h : ¬ (x = y)) (hn : pc + 3 = n) (k : Z G X μ a b ws n L S) : Z G X μ a b ws pc L (.int y :: .int x :: S) := z_icmp_eq t n hd ht hn (fun h9 => absurd h9 h) (fun _ => k)
theorem z_if_ne (t n : Nat) {x : Int32} {off : Int} (hd : decode (zMc μ) pc = .ok (.ifCond .ne off, 3)) (ht : (pc : Int) + off = (t : Int)) (hn : pc + 3 = n) (kt : ¬ x = 0 → Z G X μ a b ws t L S) (kf : x = 0 → Z G X μ a b ws n L S) : Z G X μ a b ws pc L (.int x :: S) := by
  subst hn
  intro ok H locs ls hP hD hS hl
  exact lv_if_ne ok.1 ok.2.1 hd ht (fun h => kt h ok H locs ls hP hD hS hl) (fun h => kf h ok H locs ls hP hD hS hl)
theorem z_if_ne_t (t : Nat) {x : Int32} {off : Int} (hd : decode (zMc μ) pc = .ok (.ifCond .ne off, 3)) (ht : (pc : Int) + off = (t : Int)) (h : ¬ x = 0) (k : Z G X μ a b ws t L S) : Z G X μ a b ws pc L (.int x :: S) := z_if_ne t (pc + 3) hd ht rfl (fun _ => k) (fun h9 => absurd h9 h)
theorem z_if_ne_f (n : Nat) {x : Int32} {off : Int} (t : Nat) (hd : decode (zMc μ) pc = .ok (.ifCond .ne off, 3)) (ht : (pc : Int) + off = (t : Int)) (h : x = 0) (hn : pc + 3 = n) (k : Z G X μ a b ws n L S) : Z G X μ a b ws pc L (.int x :: S) := z_if_ne t n hd ht hn (fun h9 => absurd h h9) (fun _ => k)
theorem z_icmp_ne (t n : Nat) {x y : Int32} {off : Int} (hd : decode (zMc μ) pc = .ok (.if_icmp .ne off, 3)) (ht : (pc : Int) + off = (t : Int)) (hn : pc + 3 = n) (kt : ¬ x = y → Z G X μ a b ws t L S) (kf : x = y → Z G X μ a b ws n L S) : Z G X μ a b ws pc L (.int y :: .int x :: S) := by
  subst hn
  intro ok H locs ls hP hD hS hl
  exact lv_icmp_ne ok.1 ok.2.1 hd ht (fun h => kt h ok H locs ls hP hD hS hl) (fun h => kf h ok H locs ls hP hD hS hl)
theorem z_icmp_ne_t (t : Nat) {x y : Int32} {off : Int} (hd : decode (zMc μ) pc = .ok (.if_icmp .ne off, 3)) (ht : (pc : Int) + off = (t : Int)) (h : ¬ x = y) (k : Z G X μ a b ws t L S) : Z G X μ a b ws pc L (.int y :: .int x :: S) := z_icmp_ne t (pc + 3) hd ht rfl (fun _ => k) (fun h9 => absurd h9 h)
theorem z_icmp_ne_f (n : Nat) {x y : Int32} {off : Int} (t : Nat) (hd : decode (zMc μ) pc = .ok (.if_icmp .ne off, 3)) (ht : (pc : Int) + off = (t : Int)) (h : x = y) (hn : pc + 3 = n) (k : Z G X μ a b ws n L S) : Z G X μ a b ws pc L (.int y :: .int x :: S) := z_icmp_ne t n hd ht hn (fun h9 => absurd h h9) (fun _ => k)
theorem z_if_lt (t n : Nat) {x : Int32} {off : Int} (hd : decode (zMc μ) pc = .ok (.ifCond .lt off, 3)) (ht : (pc : Int) + off = (t : Int)) (hn : pc + 3 = n) (kt : x < 0 → Z G X μ a b ws t L S) (kf : ¬ (x < 0) → Z G X μ a b ws n L S) : Z G X μ a b ws pc L (.int x :: S) := by
  subst hn
  intro ok H locs ls hP hD hS hl
  exact lv_if_lt ok.1 ok.2.1 hd ht (fun h => kt h ok H locs ls hP hD hS hl) (fun h => kf h ok H locs ls hP hD hS hl)
theorem z_if_lt_t (t : Nat) {x : Int32} {off : Int} (hd : decode (zMc μ) pc = .ok (.ifCond .lt off, 3)) (ht : (pc : Int) + off = (t : Int)) (h : x < 0) (k : Z G X μ a b ws t L S) : Z G X μ a b ws pc L (.int x :: S) := z_if_lt t (pc + 3) hd ht rfl (fun _ => k) (fun h9 => absurd h h9)
theorem z_if_lt_f (n : Nat) {x : Int32} {off : Int} (t : Nat) (hd : decode (zMc μ) pc = .ok (.ifCond .lt off, 3)) (ht : (pc : Int) + off = (t : Int)) (h : ¬ (x < 0)) (hn : pc + 3 = n) (k : Z G X μ a b ws n L S) : Z G X μ a b ws pc L (.int x :: S) := z_if_lt t n hd ht hn (fun h9 => absurd h9 h) (fun _ => k)
theorem z_icmp_lt (t n : Nat) {x y : Int32} {off : Int} (hd : decode (zMc μ) pc = .ok (.if_icmp .lt off, 3)) (ht : (pc : Int) + off = (t : Int)) (hn : pc + 3 = n) (kt : x < y → Z G X μ a b ws t L S) (kf : ¬ (x < y) → Z G X μ a b ws n L S) : Z G X μ a b ws pc L (.int y :: .int x :: S) := by
  subst hn
  intro ok H locs ls hP hD hS hl
  exact lv_icmp_lt ok.1 ok.2.1 hd ht (fun h => kt h ok H locs ls hP hD hS hl) (fun h => kf h ok H locs ls hP hD hS hl)
theorem z_icmp_lt_t (t : Nat) {x y : Int32} {off : Int} (hd : decode (zMc μ) pc = .ok (.if_icmp .lt off, 3)) (ht : (pc : Int) + off = (t : Int)) (h : x < y) (k : Z G X μ a b ws t L S) : Z G X μ a b ws pc L (.int y :: .int x :: S) := z_icmp_lt t (pc + 3) hd ht rfl (fun _ => k) (fun h9 => absurd h h9)
theorem z_icmp_lt_f (n : Nat) {x y : Int32} {off : Int} (t : Nat) (hd : decode (zMc μ) pc = .ok (.if_icmp .lt off, 3)) (ht : (pc : Int) + off = (t : Int)) (h : ¬ (x < y)) (hn : pc + 3 = n) (k : Z G X μ a b ws n L S) : Z G X μ a b ws pc L (.int y :: .int x :: S) := z_icmp_lt t n hd ht hn (fun h9 => absurd h9 h) (fun _ => k)
theorem z_if_ge (t n : Nat) {x : Int32} {off : Int} (hd : decode (zMc μ) pc = .ok (.ifCond .ge off, 3)) (ht : (pc : Int) + off = (t : Int)) (hn : pc + 3 = n) (kt : 0 ≤ x → Z G X μ a b ws t L S) (kf : ¬ (0 ≤ x) → Z G X μ a b ws n L S) : Z G X μ a b ws pc L (.int x :: S) := by
  subst hn
  intro ok H locs ls hP hD hS hl
  exact lv_if_ge ok.1 ok.2.1 hd ht (fun h => kt h ok H locs ls hP hD hS hl) (fun h => kf h ok H locs ls hP hD hS hl)
theorem z_if_ge_t (t : Nat) {x : Int32} {off : Int} (hd : decode (zMc μ) pc = .ok (.ifCond .ge off, 3)) (ht : (pc : Int) + off = (t : Int)) (h : 0 ≤ x) (k : Z G X μ a b ws t L S) : Z G X μ a b ws pc L (.int x :: S) := z_if_ge t (pc + 3) hd ht rfl (fun _ => k) (fun h9 => absurd h h9)
theorem z_if_ge_f (n : Nat) {x : Int32} {off : Int} (t : Nat) (hd : decode (zMc μ) pc = .ok (.ifCond .ge off, 3)) (ht : (pc : Int) + off = (t : Int)) (h : ¬ (0 ≤ x)) (hn : pc + 3 = n) (k : Z G X μ a b ws n L S) : Z G X μ a b ws pc L (.int x :: S) := z_if_ge t n hd ht hn (fun h9 => absurd h9 h) (fun _ => k)
theorem z_icmp_ge (t n : Nat) {x y : Int32} {off : Int} (hd : decode (zMc μ) pc = .ok (.if_icmp .ge off, 3)) (ht : (pc : Int) + off = (t : Int)) (hn : pc + 3 = n) (kt : y ≤ x → Z G X μ a b ws t L S) (kf : ¬ (y ≤ x) → Z G X μ a b ws n L S) : Z G X μ a b ws pc L (.int y :: .int x :: S) := by
  subst hn
  intro ok H locs ls hP hD hS hl
  exact lv_icmp_ge ok.1 ok.2.1 hd ht (fun h => kt h ok H locs ls hP hD hS hl) (fun h => kf h ok H locs ls hP hD hS hl)
theorem z_icmp_ge_t (t : Nat) {x y : Int32} {off : Int} (hd : decode (zMc μ) pc = .ok (.if_icmp .ge off, 3)) (ht : (pc : Int) + off = (t : Int)) (h : y ≤ x) (k : Z G X μ a b ws t L S) : Z G X μ a b ws pc L (.int y :: .int x :: S) := z_icmp_ge t (pc + 3) hd ht rfl (fun _ => k) (fun h9 => absurd h h9)
theorem z_icmp_ge_f (n : Nat) {x y : Int32} {off : Int} (t : Nat) (hd : decode (zMc μ) pc = .ok (.if_icmp .ge off, 3)) (ht : (pc : Int) + off = (t : Int)) (h : ¬ (y ≤ x)) (hn : pc + 3 = n) (k : Z G X μ a b ws n L S) : Z G X μ a b ws pc L (.int y :: .int x :: S) := z_icmp_ge t n hd ht hn (fun h9 => absurd h9 h) (fun _ => k)
theorem z_if_gt (t n : Nat) {x : Int32} {off : Int} (hd : decode (zMc μ) pc = .ok (.ifCond .gt off, 3)) (ht : (pc : Int) + off = (t : Int)) (hn : pc + 3 = n) (kt : 0 < x → Z G X μ a b ws t L S) (kf : ¬ (0 < x) → Z G X μ a b ws n L S) : Z G X μ a b ws pc L (.int x :: S) := by
  subst hn
  intro ok H locs ls hP hD hS hl
  exact lv_if_gt ok.1 ok.2.1 hd ht (fun h => kt h ok H locs ls hP hD hS hl) (fun h => kf h ok H locs ls hP hD hS hl)
theorem z_if_gt_t (t : Nat) {x : Int32} {off : Int} (hd : decode (zMc μ) pc = .ok (.ifCond .gt off, 3)) (ht : (pc : Int) + off = (t : Int)) (h : 0 < x) (k : Z G X μ a b ws t L S) : Z G X μ a b ws pc L (.int x :: S) := z_if_gt t (pc + 3) hd ht rfl (fun _ => k) (fun h9 => absurd h h9)
theorem z_if_gt_f (n : Nat) {x : Int32} {off : Int} (t : Nat) (hd : decode (zMc μ) pc = .ok (.ifCond .gt off, 3)) (ht : (pc : Int) + off = (t : Int)) (h : ¬ (0 < x)) (hn : pc + 3 = n) (k : Z G X μ a b ws n L S) : Z G X μ a b ws pc L (.int x :: S) := z_if_gt t n hd ht hn (fun h9 => absurd h9 h) (fun _ => k)
theorem z_icmp_gt (t n : Nat) {x y : Int32} {off : Int} (hd : decode (zMc μ) pc = .ok (.if_icmp .gt off, 3)) (ht : (pc : Int) + off = (t : Int)) (hn : pc + 3 = n) (kt : y < x → Z G X μ a b ws t L S) (kf : ¬ (y < x) → Z G X μ a b ws n L S) : Z G X μ a b ws pc L (.int y :: .int x :: S) := by
  subst hn
  intro ok H locs ls hP hD hS hl
  exact lv_icmp_gt ok.1 ok.2.1 hd ht (fun h => kt h ok H locs ls hP hD hS hl) (fun h => kf h ok H locs ls hP hD hS hl)
theorem z_icmp_gt_t (t : Nat) {x y : Int32} {off : Int} (hd : decode (zMc μ) pc = .ok (.if_icmp .gt off, 3)) (ht : (pc : Int) + off = (t : Int)) (h : y < x) (k : Z G X μ a b ws t L S) : Z G X μ a b ws pc L (.int y :: .int x :: S) := z_icmp_gt t (pc + 3) hd ht rfl (fun _ => k) (fun h9 => absurd h h9)
theorem z_icmp_gt_f (n : Nat) {x y : Int32} {off : Int} (t : Nat) (hd : decode (zMc μ) pc = .ok (.if_icmp .gt off, 3)) (ht : (pc : Int) + off = (t : Int)) (h : ¬ (y < x)) (hn : pc + 3 = n) (k : Z G X μ a b ws n L S) : Z G X μ a b ws pc L (.int y :: .int x :: S) := z_icmp_gt t n hd ht hn (fun h9 => absurd h9 h) (fun _ => k)
theorem z_if_le (t n : Nat) {x : Int32} {off : Int} (hd : decode (zMc μ) pc = .ok (.ifCond .le off, 3)) (ht : (pc : Int) + off = (t : Int)) (hn : pc + 3 = n) (kt : x ≤ 0 → Z G X μ a b ws t L S) (kf : ¬ (x ≤ 0) → Z G X μ a b ws n L S) : Z G X μ a b ws pc L (.int x :: S) := by
  subst hn
  intro ok H locs ls hP hD hS hl
  exact lv_if_le ok.1 ok.2.1 hd ht (fun h => kt h ok H locs ls hP hD hS hl) (fun h => kf h ok H locs ls hP hD hS hl)
theorem z_if_le_t (t : Nat) {x : Int32} {off : Int} (hd : decode (zMc μ) pc = .ok (.ifCond .le off, 3)) (ht : (pc : Int) + off = (t : Int)) (h : x ≤ 0) (k : Z G X μ a b ws t L S) : Z G X μ a b ws pc L (.int x :: S) := z_if_le t (pc + 3) hd ht rfl (fun _ => k) (fun h9 => absurd h h9)
theorem z_if_le_f (n : Nat) {x : Int32} {off : Int} (t : Nat) (hd : decode (zMc μ) pc = .ok (.ifCond .le off, 3)) (ht : (pc : Int) + off = (t : Int)) (h : ¬ (x ≤ 0)) (hn : pc + 3 = n) (k : Z G X μ a b ws n L S) : Z G X μ a b ws pc L (.int x :: S) := z_if_le t n hd ht hn (fun h9 => absurd h9 h) (fun _ => k)
theorem z_icmp_le (t n : Nat) {x y : Int32} {off : Int} (hd : decode (zMc μ) pc = .ok (.if_icmp .le off, 3)) (ht : (pc : Int) + off = (t : Int)) (hn : pc + 3 = n) (kt : x ≤ y → Z G X μ a b ws t L S) (kf : ¬ (x ≤ y) → Z G X μ a b ws n L S) : Z G X μ a b ws pc L (.int y :: .int x :: S) := by
  subst hn
  intro ok H locs ls hP hD hS hl
  exact lv_icmp_le ok.1 ok.2.1 hd ht (fun h => kt h ok H locs ls hP hD hS hl) (fun h => kf h ok H locs ls hP hD hS hl)
theorem z_icmp_le_t (t : Nat) {x y : Int32} {off : Int} (hd : decode (zMc μ) pc = .ok (.if_icmp .le off, 3)) (ht : (pc : Int) + off = (t : Int)) (h : x ≤ y) (k : Z G X μ a b ws t L S) : Z G X μ a b ws pc L (.int y :: .int x :: S) := z_icmp_le t (pc + 3) hd ht rfl (fun _ => k) (fun h9 => absurd h h9)
theorem z_icmp_le_f (n : Nat) {x y : Int32} {off : Int} (t : Nat) (hd : decode (zMc μ) pc = .ok (.if_icmp .le off, 3)) (ht : (pc : Int) + off = (t : Int)) (h : ¬ (x ≤ y)) (hn : pc + 3 = n) (k : Z G X μ a b ws n L S) : Z G X μ a b ws pc L (.int y :: .int x :: S) := z_icmp_le t n hd ht hn (fun h9 => absurd h9 h) (fun _ => k)
theorem z_goto (t : Nat) {off : Int} (hd : decode (zMc μ) pc = .ok (.goto off, 3)) (ht : (pc : Int) + off = (t : Int)) (k : Z G X μ a b ws t L S) : Z G X μ a b ws pc L S := fun ok H locs ls hP hD hS hl => lv_goto ok.1 ok.2.1 hd ht (k ok H locs ls hP hD hS hl)
theorem z_tsIn (t : Nat) {dflt lo hi : Int} {offs : Array Int} {len : Nat} {x : Int32} {off : Int} (hd : decode (zMc μ) pc = .ok (.tableswitch dflt lo hi offs, len)) (h1 : ¬ x.toInt < lo) (h2 : ¬ hi < x.toInt) (ho : offs[(x.toInt - lo).toNat]? = some off) (ht : (pc : Int) + off = (t : Int)) (k : Z G X μ a b ws t L S) : Z G X μ a b ws pc L (.int x :: S) := fun ok H locs ls hP hD hS hl => lv_tableIn ok.1 ok.2.1 hd h1 h2 ho ht (k ok H locs ls hP hD hS hl)
theorem z_tsOut (t : Nat) {dflt lo hi : Int} {offs : Array Int} {len : Nat} {x : Int32} (hd : decode (zMc μ) pc = .ok (.tableswitch dflt lo hi offs, len)) (h : x.toInt < lo ∨ hi < x.toInt) (ht : (pc : Int) + dflt = (t : Int)) (k : Z G X μ a b ws t L S) : Z G X μ a b ws pc L (.int x :: S) := fun ok H locs ls hP hD hS hl => lv_tableOut ok.1 ok.2.1 hd h ht (k ok H locs ls hP hD hS hl)
theorem z_lookup (t : Nat) {dflt : Int} {ps : Array (Int × Int)} {len : Nat} {x : Int32} {off : Int} (hd : decode (zMc μ) pc = .ok (.lookupswitch dflt ps, len)) (hp : (ps.toList.zip (ps.toList.drop 1)).all (fun (a, next) => a.1 < next.1) = true) (ho : Op.lookupswitch.offset ps.toList dflt x.toInt = off) (ht : (pc : Int) + off = (t : Int)) (k : Z G X μ a b ws t L S) : Z G X μ a b ws pc L (.int x :: S) := fun ok H locs ls hP hD hS hl => lv_lookup ok.1 ok.2.1 hd hp ho ht (k ok H locs ls hP hD hS hl)
theorem z_ldc (n : Nat) {idx : Nat} {v : Int32} (hc : Cond.constant (zMo μ) idx v ∈ zws) (hd : decode (zMc μ) pc = .ok (.ldc idx, 2)) (hn : pc + 2 = n) (k : Z G X μ a b ws n L (.int v :: S)) : Z G X μ a b ws pc L S := by
  subst hn
  intro ok H locs ls hP hD hS hl
  exact lv_ldc ok.1 ok.2.1 ok.2.2.2.2.1 (ok.2.2.2.2.2.2.1 _ hc) hd (k ok H locs ls hP hD hS hl)
theorem z_ldc2 (n : Nat) {idx : Nat} {v : Int64} (hc : Cond.constantLong (zMo μ) idx v ∈ zws) (hd : decode (zMc μ) pc = .ok (.ldc2_w idx, 3)) (hn : pc + 3 = n) (k : Z G X μ a b ws n L (.long v :: S)) : Z G X μ a b ws pc L S := by
  subst hn
  intro ok H locs ls hP hD hS hl
  exact lv_ldc2 ok.1 ok.2.1 ok.2.2.2.2.1 (ok.2.2.2.2.2.2.1 _ hc) hd (k ok H locs ls hP hD hS hl)
/-- a field, as an instruction of the class 'own' names it: slot j of the class ci -/
def zFld (own : String) (idx ci j : Nat) : Prop := ∃ (C : String) (T : u_T) (N : Nat), vwCl[ci]? = some (C, T, N) ∧ j < N ∧ (∀ w ∈ u_ws C T N, w ∈ zws) ∧ Cond.fieldLink own idx (T j).1 (T j).2.1 (T j).2.2.1 ∈ zws
def zFldP (own : String) (idx ci j : Nat) (ty : FieldType) (fin : Bool) : Prop := ∃ (C : String) (T : u_T) (N : Nat) (ty0 : Nat → FieldType), vwCl[ci]? = some (C, T, N) ∧ j < N ∧ (∀ w ∈ u_ws C T N, w ∈ zws) ∧ Cond.fieldLink own idx (T j).1 (T j).2.1 (T j).2.2.1 ∈ zws ∧ (∀ k, k < N → parseFieldDescriptor (T k).2.2.1 = some (ty0 k)) ∧ (∀ a, a < N → ∀ b, b < N → a ≠ b → (T a).2.1 ≠ (T b).2.1) ∧ (T j).2.2.2 = fin ∧ ty0 j = ty ∧ (fin = true → (T j).1 = own)
theorem z_get (n r : Nat) {q idx ci j : Nat} {fs : List Value} {v : Value} (hw : ws[r]? = some (q, .inr (ci, fs))) (hf : zFld (zMo μ) idx ci j) (hv : fs[j]? = some v) (hd : decode (zMc μ) pc = .ok (.getfield idx, 3)) (hn : pc + 3 = n) (k : Z G X μ a b ws n L (v :: S)) : Z G X μ a b ws pc L (.ref q :: S) := by
  subst hn
  intro ok H locs ls hP hD hS hl
  obtain ⟨C, T, N, h1, h2, h3, h4⟩ := hf
  exact va_get ok.1 ok.2.1 ok.2.2.2.2.2.2.1 h3 ok.2.2.2.2.1 ok.2.2.2.2.2.2.2.1 hP r hw h1 j h2 (ok.2.2.2.2.2.2.1 _ h4) (fun _ h9 => h9) hv hd (k ok H locs ls hP hD hS hl)
theorem z_put (n r : Nat) {q idx ci j : Nat} {fs : List Value} {v : Value} {ty : FieldType} (hw : ws[r]? = some (q, .inr (ci, fs))) (hf : zFldP (zMo μ) idx ci j ty false) (hnr : narrow ty v = v) (hft : fits ty v = true) (hj : j < fs.length) (hd : decode (zMc μ) pc = .ok (.putfield idx, 3)) (hn : pc + 3 = n) (k : Z G X μ a b (ws.set r (q, .inr (ci, fs.set j v))) n L S) : Z G X μ a b ws pc L (v :: .ref q :: S) := by
  subst hn
  intro ok H locs ls hP hD hS hl
  obtain ⟨C, T, N, ty0, h1, h2, h3, h4, h5, h6, h7, h8, -⟩ := hf
  exact va_put ok.1 ok.2.1 ok.2.2.2.2.2.2.1 h3 ty0 h5 h6 ok.2.2.2.2.1 ok.2.2.2.2.2.2.2.1 hP hD hS r hw h1 j h2 (ok.2.2.2.2.2.2.1 _ h4) (fun _ h9 => h9) h7 ((h5 j h2).trans (congrArg some h8)) hnr hft hj hd (fun H1 locs1 hP1 hD1 hS1 => k ok H1 locs1 ls hP1 hD1 hS1 hl)
theorem z_putF (n r : Nat) {q idx ci j : Nat} {fs : List Value} {v : Value} {ty : FieldType} (hw : ws[r]? = some (q, .inr (ci, fs))) (hf : zFldP (zMo μ) idx ci j ty true) (hk : zMk μ ≠ 0) (hnr : narrow ty v = v) (hft : fits ty v = true) (hj : j < fs.length) (hd : decode (zMc μ) pc = .ok (.putfield idx, 3)) (hn : pc + 3 = n) (k : Z G X μ a b (ws.set r (q, .inr (ci, fs.set j v))) n L S) : Z G X μ a b ws pc L (v :: .ref q :: S) := by
  subst hn
  intro ok H locs ls hP hD hS hl
  obtain ⟨C, T, N, ty0, h1, h2, h3, h4, h5, h6, h7, h8, h9⟩ := hf
  exact va_putF ok.1 ok.2.1 ok.2.2.2.2.2.2.1 h3 ty0 h5 h6 ok.2.2.2.2.1 ok.2.2.2.2.2.2.2.1 hP hD hS r hw h1 j h2 (ok.2.2.2.2.2.2.1 _ h4) (fun _ h9 => h9) h7 (ok.2.2.2.2.2.2.2.2.2.2.2.2.2.2.resolve_right hk) (h9 rfl) ((h5 j h2).trans (congrArg some h8)) hnr hft hj hd (fun H1 locs1 hP1 hD1 hS1 => k ok H1 locs1 ls hP1 hD1 hS1 hl)
theorem z_iald (n r j : Nat) {q N : Nat} {f : Nat → Int32} {i : Int32} (hw : ws[r]? = some (q, .inl (zcI G, N, .inl f))) (hi : i = nI j) (hj : j < N) (hN : N < 2 ^ 31) (hd : decode (zMc μ) pc = .ok (.iaload, 1)) (hn : pc + 1 = n) (k : Z G X μ a b ws n L (.int (f j) :: S)) : Z G X μ a b ws pc L (.int i :: .ref q :: S) := by
  subst hn; subst hi
  intro ok H locs ls hP hD hS hl
  refine va_iald ok.1 ok.2.1 ok.2.2.2.2.2.2.2.1 hP r 0 hw rfl (vp_in_nI hj hN) hd ?_
  rw [nI_clamp (Nat.lt_trans hj hN)]
  exact k ok H locs ls hP hD hS hl
theorem z_iast (n r j : Nat) {q N : Nat} {f : Nat → Int32} {i x : Int32} (hw : ws[r]? = some (q, .inl (zcI G, N, .inl f))) (hi : i = nI j) (hj : j < N) (hN : N < 2 ^ 31) (hd : decode (zMc μ) pc = .ok (.iastore, 1)) (hn : pc + 1 = n) (k : Z G X μ a b (ws.set r (q, .inl (zcI G, N, .inl (upd f j x)))) n L S) : Z G X μ a b ws pc L (.int x :: .int i :: .ref q :: S) := by
  subst hn; subst hi
  intro ok H locs ls hP hD hS hl
  refine va_iast ok.1 ok.2.1 ok.2.2.2.2.2.2.2.1 hP hD hS r 0 hw rfl (vp_in_nI hj hN) hd ?_
  rw [nI_clamp (Nat.lt_trans hj hN)]
  exact fun H1 locs1 hP1 hD1 hS1 => k ok H1 locs1 ls hP1 hD1 hS1 hl
theorem z_zald (n r j : Nat) {q N : Nat} {f : Nat → Int32} {i : Int32} (hw : ws[r]? = some (q, .inl (zcZ G, N, .inl f))) (hi : i = nI j) (hj : j < N) (hN : N < 2 ^ 31) (hd : decode (zMc μ) pc = .ok (.baload, 1)) (hn : pc + 1 = n) (k : Z G X μ a b ws n L (.int (f j) :: S)) : Z G X μ a b ws pc L (.int i :: .ref q :: S) := by
  subst hn; subst hi
  intro ok H locs ls hP hD hS hl
  refine va_zald ok.1 ok.2.1 ok.2.2.2.2.2.2.2.1 hP r 1 hw rfl (vp_in_nI hj hN) hd ?_
  rw [nI_clamp (Nat.lt_trans hj hN)]
  exact k ok H locs ls hP hD hS hl
theorem z_zast (n r j : Nat) {q N : Nat} {f : Nat → Int32} {i x : Int32} (hw : ws[r]? = some (q, .inl (zcZ G, N, .inl f))) (hi : i = nI j) (hj : j < N) (hN : N < 2 ^ 31) (hx : vp_nar .boolean x = x) (hd : decode (zMc μ) pc = .ok (.bastore, 1)) (hn : pc + 1 = n) (k : Z G X μ a b (ws.set r (q, .inl (zcZ G, N, .inl (upd f j x)))) n L S) : Z G X μ a b ws pc L (.int x :: .int i :: .ref q :: S) := by
  subst hn; subst hi
  intro ok H locs ls hP hD hS hl
  refine va_zast ok.1 ok.2.1 ok.2.2.2.2.2.2.2.1 hP hD hS r 1 hw rfl (vp_in_nI hj hN) hd ?_
  rw [nI_clamp (Nat.lt_trans hj hN), hx]
  exact fun H1 locs1 hP1 hD1 hS1 => k ok H1 locs1 ls hP1 hD1 hS1 hl
theorem z_aald (n r j : Nat) {q N t0 : Nat} {cA : ClassId} {C : String} {f : Nat → Option Nat} {i : Int32} (hw : ws[r]? = some (q, .inl (cA, N, .inr (.inr (.inr (.inr f)))))) (ht : (zGt G)[t0]? = some (cA, .object C)) (hi : i = nI j) (hj : j < N) (hN : N < 2 ^ 31) (hd : decode (zMc μ) pc = .ok (.aaload, 1)) (hn : pc + 1 = n) (k : Z G X μ a b ws n L (va_rf (f j) :: S)) : Z G X μ a b ws pc L (.int i :: .ref q :: S) := by
  subst hn; subst hi
  intro ok H locs ls hP hD hS hl
  refine va_aldq ok.1 ok.2.1 ok.2.2.2.2.2.2.2.1 hP r t0 hw ht (vp_in_nI hj hN) hd ?_
  rw [nI_clamp (Nat.lt_trans hj hN)]
  exact k ok H locs ls hP hD hS hl
theorem z_alen (n r t0 : Nat) {q : Nat} {cA : ClassId} {x : vp_A} {ty : FieldType} {v : Int32} (hw : ws[r]? = some (q, .inl (cA, x))) (ht : (zGt G)[t0]? = some (cA, ty)) (hv : Int32.ofNat x.1 = v) (hd : decode (zMc μ) pc = .ok (.arraylength, 1)) (hn : pc + 1 = n) (k : Z G X μ a b ws n L (.int v :: S)) : Z G X μ a b ws pc L (.ref q :: S) := by
  subst hn
  intro ok H locs ls hP hD hS hl
  exact va_alen ok.1 ok.2.1 ok.2.2.2.2.2.2.2.1 hP r t0 hw ht hv hd (k ok H locs ls hP hD hS hl)
theorem z_gsR (n : Nat) (ho : zMo μ = "HueLease$Books") (hd : decode (zMc μ) pc = .ok (.getstatic 60, 3)) (hn : pc + 3 = n) (k : Z G X μ a b ws n L (.ref (zGR G) :: S)) : Z G X μ a b ws pc L S := by
  subst hn
  intro ok H locs ls hP hD hS hl
  have hs := ok.2.2.2.2.2.2.2.2.2.1
  exact va_getsN ok.1 ok.2.1 hs.2.2.1.1 hS (by rw [← ho]; exact ok.2.2.2.2.1) (va_Nw.use rfl (hs.2.1 ("HueLease$Books", 60, "HueLease", "RENTS", "[I") (by decide))) (fun _ h9 => h9) hd (k ok H locs ls hP hD hS hl)
theorem z_gsF (n : Nat) (ho : zMo μ = "HueLease$Books") (hd : decode (zMc μ) pc = .ok (.getstatic 92, 3)) (hn : pc + 3 = n) (k : Z G X μ a b ws n L (.ref (zGF G) :: S)) : Z G X μ a b ws pc L S := by
  subst hn
  intro ok H locs ls hP hD hS hl
  have hs := ok.2.2.2.2.2.2.2.2.2.1
  exact va_getsN ok.1 ok.2.1 hs.2.2.2.1.1 hS (by rw [← ho]; exact ok.2.2.2.2.1) (va_Nw.use rfl (hs.2.1 ("HueLease$Books", 92, "HueLease", "FADINGS", "[I") (by decide))) (fun _ h9 => h9) hd (k ok H locs ls hP hD hS hl)
theorem z_tR (n j : Nat) {i v : Int32} (hi : i = nI j) (hj : j < 4) (hv : zRents j = .int v) (hd : decode (zMc μ) pc = .ok (.iaload, 1)) (hn : pc + 1 = n) (k : Z G X μ a b ws n L (.int v :: S)) : Z G X μ a b ws pc L (.int i :: .ref (zGR G) :: S) := by
  subst hn; subst hi
  intro ok H locs ls hP hD hS hl
  exact va_ti ok.1 ok.2.1 ok.2.2.2.2.2.2.2.2.2.1.2.2.1.2 hS (vp_in_nI hj (by decide)) (by rw [nI_clamp (by omega)]; exact hv) hd (k ok H locs ls hP hD hS hl)
theorem z_tF (n j : Nat) {i v : Int32} (hi : i = nI j) (hj : j < 4) (hv : zFades j = .int v) (hd : decode (zMc μ) pc = .ok (.iaload, 1)) (hn : pc + 1 = n) (k : Z G X μ a b ws n L (.int v :: S)) : Z G X μ a b ws pc L (.int i :: .ref (zGF G) :: S) := by
  subst hn; subst hi
  intro ok H locs ls hP hD hS hl
  exact va_ti ok.1 ok.2.1 ok.2.2.2.2.2.2.2.2.2.1.2.2.2.1.2 hS (vp_in_nI hj (by decide)) (by rw [nI_clamp (by omega)]; exact hv) hd (k ok H locs ls hP hD hS hl)
end ZW
end
section
/-! ===== calls ===== -/
/-- what a call by 'invokevirtual' needs of the words -/
def zCV (own : String) (idx ci : Nat) (y : MethodName) (μ' : zM) (n : Nat) : Prop := (∃ (T : u_T) (N : Nat), vwCl[ci]? = some (y.cls, T, N)) ∧ Cond.methodLink own idx y ∈ zws ∧ Cond.instanceMethod y ∈ zws ∧ Cond.selects y.cls y y ∈ zws ∧ Cond.initialized y.cls ∈ zws ∧ Cond.code y (zMc μ') (zMl μ') (zMr μ') ∈ zws ∧ y.cls ≠ "java/lang/invoke/MethodHandle" ∧ y.cls ≠ "java/lang/invoke/VarHandle" ∧ (parseMethodDescriptor y.desc).map (fun d => d.parameters.length) = some n
def zCS (own : String) (idx : Nat) (y : MethodName) (μ' : zM) (n : Nat) : Prop := Cond.methodLink own idx y ∈ zws ∧ Cond.static y ∈ zws ∧ Cond.initialized y.cls ∈ zws ∧ Cond.code y (zMc μ') (zMl μ') (zMr μ') ∈ zws ∧ y.cls ≠ "java/lang/invoke/MethodHandle" ∧ y.cls ≠ "java/lang/invoke/VarHandle" ∧ (parseMethodDescriptor y.desc).map (fun d => d.parameters.length) = some n
def zCN (own : String) (idx : Nat) (y : MethodName) (μ' : zM) (n : Nat) : Prop := (own, idx, y) ∈ zNestM ∧ Cond.static y ∈ zws ∧ Cond.initialized y.cls ∈ zws ∧ Cond.code y (zMc μ') (zMl μ') (zMr μ') ∈ zws ∧ y.cls ≠ "java/lang/invoke/MethodHandle" ∧ y.cls ≠ "java/lang/invoke/VarHandle" ∧ (parseMethodDescriptor y.desc).map (fun d => d.parameters.length) = some n
def zCI (own : String) (idx : Nat) (y : MethodName) (μ' : zM) (n : Nat) : Prop := Cond.methodLink own idx y ∈ zws ∧ y.name = "<init>" ∧ Cond.instanceMethod y ∈ zws ∧ Cond.initialized y.cls ∈ zws ∧ Cond.code y (zMc μ') (zMl μ') none ∈ zws ∧ zMr μ' = none ∧ y.cls ≠ "java/lang/invoke/MethodHandle" ∧ y.cls ≠ "java/lang/invoke/VarHandle" ∧ (parseMethodDescriptor y.desc).map (fun d => d.parameters.length) = some n
def zCIN (own : String) (idx : Nat) (y : MethodName) (μ' : zM) (n : Nat) : Prop := (own, idx, y) ∈ zNestM ∧ y.name = "<init>" ∧ Cond.instanceMethod y ∈ zws ∧ Cond.initialized y.cls ∈ zws ∧ Cond.code y (zMc μ') (zMl μ') none ∈ zws ∧ zMr μ' = none ∧ y.cls ≠ "java/lang/invoke/MethodHandle" ∧ y.cls ≠ "java/lang/invoke/VarHandle" ∧ (parseMethodDescriptor y.desc).map (fun d => d.parameters.length) = some n
/-- the callee's room fits -/
def zRm (μ' μ : zM) (a b : Nat) : Prop := zMd μ' + 1 ≤ zMd μ ∧ zMl μ' ≤ 45 ∧ a + zMk μ' ≤ zMk μ ∧ b + zMs μ' ≤ zMs μ
theorem zWd_blind (G : zG) (ws : va_W) (av : List Value) : FrameBlind (va_Pc av (zWd G ws)) := fun a U g mk ⟨h1, hP, hD, hK, hb, hs⟩ => ⟨h1, hP, hD, va_K.moved (u := U) (U := U.calling g mk a) (Vm.Alike.refl U.vm) hK, hb, hs.same rfl rfl⟩
theorem zWd_at {G : zG} {X : zX} {μ : zM} {ws : va_W} {H : Heap} {locs : List Loc} {U : State} (ok : zOK G X μ) (hP : va_P (zGD G) vwCl ws H) (hD : va_D (zA G) ws) (hS : va_S (zA G) (zXs X).heap H locs) (hU : U.heap = H) (hW : (zXs X).WarmedH U.vm) : zWd G ws U :=
  ⟨by rw [hU]; exact hP, hD, va_K.moved hW.alike ok.2.2.2.2.2.2.2.1, Nat.le_trans ok.2.2.2.2.2.2.2.2.1 (by rw [hU]; exact hS.1), ok.2.2.2.2.2.2.2.2.2.1.warm hW (fun q h1 h2 => by rw [hU]; exact hS.2.1 q h1 h2)⟩
theorem zws_cg {y : MethodName} {cc : ByteArray} {n : Nat} {r : Option FieldType} (h : Cond.code y cc n r ∈ zws) : GoodIn zws (Cond.code y cc n r :: zws) := fun w hw => (List.mem_cons.mp hw).elim (fun e => e ▸ zws_good _ h) (zws_good w)
section ZC
variable {G : zG} {X : zX} {μ : zM} {a b : Nat} {ws : va_W} {pc : Nat} {L : List (Option Value)} {S S0 : List Value}
/-- what comes behind a call, whichever it was -/
theorem z_after {μ' : zM} {n : Nat} {Post : Option Value → va_W → Prop} {av : Array Value} {H : Heap} {locs : List Loc} {ls : Array Slot} (ok : zOK G X μ) (hS : va_S (zA G) (zXs X).heap H locs) (hl : zL ls (zMl μ) L)
    (hrun : va_Run (zXp X) (zXl X) (zXe X) (zXR X) (zXs X) (zXm X) (zXa X) (zXb X) (zXt X) (zXc X) H locs a b (zMk μ') (zMs μ') (F0 (zXm X) pc ls S0) S (zQc G Post av) (zA G)) (hn : pc + 3 = n)
    (k : ∀ (v : Option Value) (ws' : va_W), Post v ws' → Z G X μ (a + zMk μ') (b + zMs μ') ws' n L (v.toList ++ S)) : W (zXp X) (zXl X) (zXe X) (zXR X) (zXs X) (zXm X) (zXa X) (zXb X) (zXt X) (zXc X) H locs a b (zXQ X) (F0 (zXm X) pc ls S0) := by
  subst hn
  intro T hT XX
  obtain ⟨v, st₀, t, T', Lc, h0, X', hL, e1, e2, ⟨⟨r, w', hv, hp, hP1, hD1⟩, hF⟩, st⟩ := hrun T hT XX
  cases hv
  rw [va_F, h0] at hF
  obtain ⟨t2, a1, b1⟩ := k v w' hp ok T'.heap (locs ++ Lc) ls (by rw [e1]; exact hP1) hD1 ⟨Nat.le_trans hS.1 (by rw [e1]; exact hF.1), fun q h1 h2 => by rw [e1, hF.2 q (Nat.lt_of_lt_of_le h1 hS.1) h2]; exact hS.2.1 q h1 h2, fun q hq => by
      rcases List.mem_append.mp hq with h | h
      · exact hS.2.2 q h
      · exact hL q h⟩ hl T' rfl X'
  exact ⟨t2, st t2 a1, b1⟩
theorem zroom {μ' : zM} (ok : zOK G X μ) (h : zRm μ' μ a b) : ((zrm (zMd μ') (zMk μ') (zMs μ')).frames + 1 ≤ (zXR X).frames ∧ 8 + (zMl μ' + 11) + (zrm (zMd μ') (zMk μ') (zMs μ')).locals ≤ (zXR X).locals) ∧ (a + zMk μ' ≤ (zXR X).cells ∧ b + zMs μ' ≤ (zXR X).slots) := by
  obtain ⟨h1, h2, h3, h4⟩ := h
  obtain ⟨o1, o2, o3, o4, -⟩ := ok.2.2.2.2.2.2.2.2.2.2
  simp only [zrm]
  omega
theorem z_callV (n r : Nat) {y : MethodName} {μ' : zM} {As : List Value} {q idx ci : Nat} {fs : List Value} {Post : Option Value → va_W → Prop} (hM : zMet (zXl X) y μ' (.ref q :: As) G ws Post) (hw : ws[r]? = some (q, .inr (ci, fs))) (hc : zCV (zMo μ) idx ci y μ' As.length) (hr : zRm μ' μ a b) (hs : (S.map fun v => v.category).sum ≤ 8) (hd : decode (zMc μ) pc = .ok (.invokevirtual idx, 3)) (hS0 : S0 = As.reverse ++ .ref q :: S) (hn : pc + 3 = n)
    (k : ∀ (v : Option Value) (ws' : va_W), Post v ws' → Z G X μ (a + zMk μ') (b + zMs μ') ws' n L (v.toList ++ S)) : Z G X μ a b ws pc L S0 := by
  intro ok H locs ls hP hD hS hl
  subst hS0
  obtain ⟨⟨T, N, c0⟩, c1, c2, c3, c4, c5, c6, c7, c8⟩ := hc
  have hR := zroom ok hr
  have hts := ok.2.2.2.2.2.2.1
  have hG : GoodIn zws (wsV (zMo μ) idx y.cls y (Cond.code y (zMc μ') (zMl μ') (zMr μ') :: zws)) := by
    intro w h
    simp only [wsV, List.cons_append, List.nil_append, List.mem_cons] at h
    rcases h with rfl | rfl | rfl | rfl | rfl | h
    · exact zws_good _ c1
    · exact zws_good _ c2
    · exact zws_good _ c3
    · exact zws_good _ c4
    · exact zws_good _ c5
    · exact zws_good _ h
  exact z_after (μ' := μ') ok hS hl (va_runV (As := As) (rest := S) (C := y.cls) (bytes := zMc μ') (maxL := zMl μ') (ret := zMr μ') ⟨ok.1, ok.2.1, ok.2.2.2.1, ok.2.2.2.2.1, hts⟩ hM (cwV As.length hts hG rfl rfl rfl ⟨rfl, c6, c7, c8⟩ hR.1) ⟨zWd_blind _ _ _, va_recv ok.2.2.2.2.2.2.2.1 hP c0 hw, fun U hU hW => ⟨rfl, zWd_at ok hP hD hS hU hW⟩⟩ rfl rfl hl.1 rfl (lv_room hs) hd hR.2) hn k
theorem z_callS (n : Nat) {y : MethodName} {μ' : zM} {As : List Value} {idx : Nat} {Post : Option Value → va_W → Prop} (hM : zMet (zXl X) y μ' As G ws Post) (hc : zCS (zMo μ) idx y μ' As.length) (hr : zRm μ' μ a b) (hs : (S.map fun v => v.category).sum ≤ 8) (hd : decode (zMc μ) pc = .ok (.invokestatic idx, 3)) (hS0 : S0 = As.reverse ++ S) (hn : pc + 3 = n)
    (k : ∀ (v : Option Value) (ws' : va_W), Post v ws' → Z G X μ (a + zMk μ') (b + zMs μ') ws' n L (v.toList ++ S)) : Z G X μ a b ws pc L S0 := by
  intro ok H locs ls hP hD hS hl
  subst hS0
  obtain ⟨c1, c2, c4, c5, c6, c7, c8⟩ := hc
  have hR := zroom ok hr
  have hts := ok.2.2.2.2.2.2.1
  exact z_after (μ' := μ') ok hS hl (va_runS (As := As) (rest := S) (bytes := zMc μ') (maxL := zMl μ') (ret := zMr μ') ⟨ok.1, ok.2.1, ok.2.2.2.1, ok.2.2.2.2.1, hts⟩ hM ⟨callB_of As.length hts (zws_cg c5) rfl rfl rfl (hts _ c4) (hts _ c1) ⟨c6, c7, c8⟩ hR.1, hts _ c2⟩ ⟨zWd_blind _ _ _, fun U hU hW => ⟨rfl, zWd_at ok hP hD hS hU hW⟩⟩ rfl rfl hl.1 rfl (lv_room hs) hd hR.2) hn k
theorem z_callN (n : Nat) {y : MethodName} {μ' : zM} {As : List Value} {idx : Nat} {Post : Option Value → va_W → Prop} (hM : zMet (zXl X) y μ' As G ws Post) (hc : zCN (zMo μ) idx y μ' As.length) (hr : zRm μ' μ a b) (hs : (S.map fun v => v.category).sum ≤ 8) (hd : decode (zMc μ) pc = .ok (.invokestatic idx, 3)) (hS0 : S0 = As.reverse ++ S) (hn : pc + 3 = n)
    (k : ∀ (v : Option Value) (ws' : va_W), Post v ws' → Z G X μ (a + zMk μ') (b + zMs μ') ws' n L (v.toList ++ S)) : Z G X μ a b ws pc L S0 := by
  intro ok H locs ls hP hD hS hl
  subst hS0
  obtain ⟨c1, c2, c4, c5, c6, c7, c8⟩ := hc
  have hR := zroom ok hr
  have hts := ok.2.2.2.2.2.2.1
  exact z_after (μ' := μ') ok hS hl (va_runSN (As := As) (rest := S) (bytes := zMc μ') (maxL := zMl μ') (ret := zMr μ') ⟨ok.1, ok.2.1, ok.2.2.2.1, ok.2.2.2.2.1, hts⟩ hM ⟨va_cnB As.length hts (zws_cg c5) rfl rfl rfl (ok.2.2.2.2.2.2.2.2.2.1.1 _ c1) (hts _ c4) ⟨c6, c7, c8⟩ hR.1, hts _ c2, trivial⟩ ⟨zWd_blind _ _ _, fun U hU hW => ⟨rfl, zWd_at ok hP hD hS hU hW⟩⟩ rfl rfl hl.1 rfl (lv_room hs) hd hR.2) hn k
theorem z_callI (n : Nat) {y : MethodName} {μ' : zM} {As : List Value} {q idx : Nat} {Post : Option Value → va_W → Prop} (hM : zMet (zXl X) y μ' (.ref q :: As) G ws Post) (hc : zCI (zMo μ) idx y μ' As.length) (hr : zRm μ' μ a b) (hs : (S.map fun v => v.category).sum ≤ 8) (hd : decode (zMc μ) pc = .ok (.invokespecial idx, 3)) (hS0 : S0 = As.reverse ++ .ref q :: S) (hn : pc + 3 = n)
    (k : ∀ (v : Option Value) (ws' : va_W), Post v ws' → Z G X μ (a + zMk μ') (b + zMs μ') ws' n L (v.toList ++ S)) : Z G X μ a b ws pc L S0 := by
  intro ok H locs ls hP hD hS hl
  subst hS0
  obtain ⟨c1, c2, c3, c4, c5, c5', c6, c7, c8⟩ := hc
  have hR := zroom ok hr
  have hts := ok.2.2.2.2.2.2.1
  have hM' : Met (zXl X) y (Cond.code y (zMc μ') (zMl μ') none :: zws) (zrm (zMd μ') (zMk μ') (zMs μ')) (va_Pc (.ref q :: As) (zWd G ws)) (zQc G Post) (zMk μ') (zMs μ') (zA G) := by rw [← c5']; exact hM
  exact z_after (μ' := μ') ok hS hl (va_runI (As := As) (rest := S) (b := q) (bytes := zMc μ') (maxL := zMl μ') ⟨ok.1, ok.2.1, ok.2.2.2.1, ok.2.2.2.2.1, hts⟩ hM' ⟨callB_of As.length hts (zws_cg c5) rfl rfl rfl (hts _ c4) (hts _ c1) ⟨c6, c7, c8⟩ hR.1, c2, hts _ c3⟩ ⟨zWd_blind _ _ _, fun U hU hW => ⟨rfl, zWd_at ok hP hD hS hU hW⟩⟩ rfl rfl hl.1 rfl (lv_room hs) hd hR.2) hn k
theorem z_callIN (n : Nat) {y : MethodName} {μ' : zM} {As : List Value} {q idx : Nat} {Post : Option Value → va_W → Prop} (hM : zMet (zXl X) y μ' (.ref q :: As) G ws Post) (hc : zCIN (zMo μ) idx y μ' As.length) (hr : zRm μ' μ a b) (hs : (S.map fun v => v.category).sum ≤ 8) (hd : decode (zMc μ) pc = .ok (.invokespecial idx, 3)) (hS0 : S0 = As.reverse ++ .ref q :: S) (hn : pc + 3 = n)
    (k : ∀ (v : Option Value) (ws' : va_W), Post v ws' → Z G X μ (a + zMk μ') (b + zMs μ') ws' n L (v.toList ++ S)) : Z G X μ a b ws pc L S0 := by
  intro ok H locs ls hP hD hS hl
  subst hS0
  obtain ⟨c1, c2, c3, c4, c5, c5', c6, c7, c8⟩ := hc
  have hR := zroom ok hr
  have hts := ok.2.2.2.2.2.2.1
  have hM' : Met (zXl X) y (Cond.code y (zMc μ') (zMl μ') none :: zws) (zrm (zMd μ') (zMk μ') (zMs μ')) (va_Pc (.ref q :: As) (zWd G ws)) (zQc G Post) (zMk μ') (zMs μ') (zA G) := by rw [← c5']; exact hM
  exact z_after (μ' := μ') ok hS hl (va_runIN (As := As) (rest := S) (b := q) (bytes := zMc μ') (maxL := zMl μ') ⟨ok.1, ok.2.1, ok.2.2.2.1, ok.2.2.2.2.1, hts⟩ hM' ⟨va_cnB As.length hts (zws_cg c5) rfl rfl rfl (ok.2.2.2.2.2.2.2.2.2.1.1 _ c1) (hts _ c4) ⟨c6, c7, c8⟩ hR.1, c2, hts _ c3⟩ ⟨zWd_blind _ _ _, fun U hU hW => ⟨rfl, zWd_at ok hP hD hS hU hW⟩⟩ rfl rfl hl.1 rfl (lv_room hs) hd hR.2) hn k
end ZC
end
section
/-! ===== the world behind the two constructors: the shape of every cell; the numbers in one flat row σ ===== -/
abbrev zS : Type := Nat × Nat × Nat × List (Bool × Nat)
def zSh0 : List zS := [(11, 400 * 0 + 0, 12, [(true, 1), (true, 8), (true, 15), (true, 16), (true, 17), (true, 18), (true, 19), (true, 35), (true, 39), (true, 42), (true, 107), (false, 400 * 0 + 11)]), (5, 400 * 1 + 53, 5, [(false, 400 * 1 + 56), (false, 400 * 1 + 57), (false, 400 * 1 + 53), (false, 400 * 1 + 54), (false, 400 * 1 + 55), (true, 2), (true, 3), (true, 4), (true, 5), (true, 6), (true, 7)]), (0, 400 * 1 + 0, 5, []), (1, 400 * 1 + 5, 15, []), (0, 400 * 1 + 20, 5, []), (0, 400 * 1 + 25, 4, []), (0, 400 * 1 + 29, 4, []), (0, 400 * 1 + 33, 20, []), (5, 400 * 8 + 53, 5, [(false, 400 * 8 + 56), (false, 400 * 8 + 57), (false, 400 * 8 + 53), (false, 400 * 8 + 54), (false, 400 * 8 + 55), (true, 9), (true, 10), (true, 11), (true, 12), (true, 13), (true, 14)]), (0, 400 * 8 + 0, 5, []), (1, 400 * 8 + 5, 15, []), (0, 400 * 8 + 20, 5, []), (0, 400 * 8 + 25, 4, []), (0, 400 * 8 + 29, 4, []), (0, 400 * 8 + 33, 20, []), (3, 400 * 15 + 0, 2, [(true, 108), (true, 115)]), (2, 400 * 16 + 0, 2, []), (3, 400 * 17 + 0, 4, [(true, 122), (true, 129), (true, 136), (true, 143)]), (0, 400 * 18 + 0, 4, []), (9, 400 * 19 + 0, 11, [(true, 20), (false, 400 * 19 + 1), (false, 400 * 19 + 2), (false, 400 * 19 + 3), (true, 21), (true, 28), (false, 400 * 19 + 6), (false, 400 * 19 + 7), (false, 400 * 19 + 8), (false, 400 * 19 + 9), (false, 400 * 19 + 10)]), (0, 400 * 20 + 0, 160, []), (5, 400 * 21 + 53, 5, [(false, 400 * 21 + 56), (false, 400 * 21 + 57), (false, 400 * 21 + 53), (false, 400 * 21 + 54), (false, 400 * 21 + 55), (true, 22), (true, 23), (true, 24), (true, 25), (true, 26), (true, 27)]), (0, 400 * 21 + 0, 5, []), (1, 400 * 21 + 5, 15, []), (0, 400 * 21 + 20, 5, [])]
def zSh1 : List zS := [(0, 400 * 21 + 25, 4, []), (0, 400 * 21 + 29, 4, []), (0, 400 * 21 + 33, 20, []), (5, 400 * 28 + 53, 5, [(false, 400 * 28 + 56), (false, 400 * 28 + 57), (false, 400 * 28 + 53), (false, 400 * 28 + 54), (false, 400 * 28 + 55), (true, 29), (true, 30), (true, 31), (true, 32), (true, 33), (true, 34)]), (0, 400 * 28 + 0, 5, []), (1, 400 * 28 + 5, 15, []), (0, 400 * 28 + 20, 5, []), (0, 400 * 28 + 25, 4, []), (0, 400 * 28 + 29, 4, []), (0, 400 * 28 + 33, 20, []), (6, 400 * 35 + 0, 4, [(false, 400 * 35 + 0), (true, 36), (true, 37), (true, 38)]), (0, 400 * 36 + 0, 6, []), (0, 400 * 37 + 0, 6, []), (0, 400 * 38 + 0, 6, []), (7, 400 * 39 + 0, 6, [(false, 400 * 39 + 0), (false, 400 * 39 + 1), (true, 40), (true, 41), (false, 400 * 39 + 4), (false, 400 * 39 + 5)]), (0, 400 * 40 + 0, 5, []), (0, 400 * 41 + 0, 5, []), (10, 400 * 42 + 0, 5, [(false, 400 * 42 + 0), (false, 400 * 42 + 1), (false, 400 * 42 + 2), (false, 400 * 42 + 3), (true, 43)]), (3, 400 * 43 + 0, 9, [(true, 44), (true, 51), (true, 58), (true, 65), (true, 72), (true, 79), (true, 86), (true, 93), (true, 100)]), (5, 400 * 44 + 53, 5, [(false, 400 * 44 + 56), (false, 400 * 44 + 57), (false, 400 * 44 + 53), (false, 400 * 44 + 54), (false, 400 * 44 + 55), (true, 45), (true, 46), (true, 47), (true, 48), (true, 49), (true, 50)]), (0, 400 * 44 + 0, 5, []), (1, 400 * 44 + 5, 15, []), (0, 400 * 44 + 20, 5, []), (0, 400 * 44 + 25, 4, []), (0, 400 * 44 + 29, 4, [])]
def zSh2 : List zS := [(0, 400 * 44 + 33, 20, []), (5, 400 * 51 + 53, 5, [(false, 400 * 51 + 56), (false, 400 * 51 + 57), (false, 400 * 51 + 53), (false, 400 * 51 + 54), (false, 400 * 51 + 55), (true, 52), (true, 53), (true, 54), (true, 55), (true, 56), (true, 57)]), (0, 400 * 51 + 0, 5, []), (1, 400 * 51 + 5, 15, []), (0, 400 * 51 + 20, 5, []), (0, 400 * 51 + 25, 4, []), (0, 400 * 51 + 29, 4, []), (0, 400 * 51 + 33, 20, []), (5, 400 * 58 + 53, 5, [(false, 400 * 58 + 56), (false, 400 * 58 + 57), (false, 400 * 58 + 53), (false, 400 * 58 + 54), (false, 400 * 58 + 55), (true, 59), (true, 60), (true, 61), (true, 62), (true, 63), (true, 64)]), (0, 400 * 58 + 0, 5, []), (1, 400 * 58 + 5, 15, []), (0, 400 * 58 + 20, 5, []), (0, 400 * 58 + 25, 4, []), (0, 400 * 58 + 29, 4, []), (0, 400 * 58 + 33, 20, []), (5, 400 * 65 + 53, 5, [(false, 400 * 65 + 56), (false, 400 * 65 + 57), (false, 400 * 65 + 53), (false, 400 * 65 + 54), (false, 400 * 65 + 55), (true, 66), (true, 67), (true, 68), (true, 69), (true, 70), (true, 71)]), (0, 400 * 65 + 0, 5, []), (1, 400 * 65 + 5, 15, []), (0, 400 * 65 + 20, 5, []), (0, 400 * 65 + 25, 4, []), (0, 400 * 65 + 29, 4, []), (0, 400 * 65 + 33, 20, []), (5, 400 * 72 + 53, 5, [(false, 400 * 72 + 56), (false, 400 * 72 + 57), (false, 400 * 72 + 53), (false, 400 * 72 + 54), (false, 400 * 72 + 55), (true, 73), (true, 74), (true, 75), (true, 76), (true, 77), (true, 78)]), (0, 400 * 72 + 0, 5, []), (1, 400 * 72 + 5, 15, [])]
def zSh3 : List zS := [(0, 400 * 72 + 20, 5, []), (0, 400 * 72 + 25, 4, []), (0, 400 * 72 + 29, 4, []), (0, 400 * 72 + 33, 20, []), (5, 400 * 79 + 53, 5, [(false, 400 * 79 + 56), (false, 400 * 79 + 57), (false, 400 * 79 + 53), (false, 400 * 79 + 54), (false, 400 * 79 + 55), (true, 80), (true, 81), (true, 82), (true, 83), (true, 84), (true, 85)]), (0, 400 * 79 + 0, 5, []), (1, 400 * 79 + 5, 15, []), (0, 400 * 79 + 20, 5, []), (0, 400 * 79 + 25, 4, []), (0, 400 * 79 + 29, 4, []), (0, 400 * 79 + 33, 20, []), (5, 400 * 86 + 53, 5, [(false, 400 * 86 + 56), (false, 400 * 86 + 57), (false, 400 * 86 + 53), (false, 400 * 86 + 54), (false, 400 * 86 + 55), (true, 87), (true, 88), (true, 89), (true, 90), (true, 91), (true, 92)]), (0, 400 * 86 + 0, 5, []), (1, 400 * 86 + 5, 15, []), (0, 400 * 86 + 20, 5, []), (0, 400 * 86 + 25, 4, []), (0, 400 * 86 + 29, 4, []), (0, 400 * 86 + 33, 20, []), (5, 400 * 93 + 53, 5, [(false, 400 * 93 + 56), (false, 400 * 93 + 57), (false, 400 * 93 + 53), (false, 400 * 93 + 54), (false, 400 * 93 + 55), (true, 94), (true, 95), (true, 96), (true, 97), (true, 98), (true, 99)]), (0, 400 * 93 + 0, 5, []), (1, 400 * 93 + 5, 15, []), (0, 400 * 93 + 20, 5, []), (0, 400 * 93 + 25, 4, []), (0, 400 * 93 + 29, 4, []), (0, 400 * 93 + 33, 20, [])]
def zSh4 : List zS := [(5, 400 * 100 + 53, 5, [(false, 400 * 100 + 56), (false, 400 * 100 + 57), (false, 400 * 100 + 53), (false, 400 * 100 + 54), (false, 400 * 100 + 55), (true, 101), (true, 102), (true, 103), (true, 104), (true, 105), (true, 106)]), (0, 400 * 100 + 0, 5, []), (1, 400 * 100 + 5, 15, []), (0, 400 * 100 + 20, 5, []), (0, 400 * 100 + 25, 4, []), (0, 400 * 100 + 29, 4, []), (0, 400 * 100 + 33, 20, []), (4, 400 * 107 + 0, 4, [(true, 150), (true, 152), (true, 154), (true, 156)]), (5, 400 * 108 + 53, 5, [(false, 400 * 108 + 56), (false, 400 * 108 + 57), (false, 400 * 108 + 53), (false, 400 * 108 + 54), (false, 400 * 108 + 55), (true, 109), (true, 110), (true, 111), (true, 112), (true, 113), (true, 114)]), (0, 400 * 108 + 0, 5, []), (1, 400 * 108 + 5, 15, []), (0, 400 * 108 + 20, 5, []), (0, 400 * 108 + 25, 4, []), (0, 400 * 108 + 29, 4, []), (0, 400 * 108 + 33, 20, []), (5, 400 * 115 + 53, 5, [(false, 400 * 115 + 56), (false, 400 * 115 + 57), (false, 400 * 115 + 53), (false, 400 * 115 + 54), (false, 400 * 115 + 55), (true, 116), (true, 117), (true, 118), (true, 119), (true, 120), (true, 121)]), (0, 400 * 115 + 0, 5, []), (1, 400 * 115 + 5, 15, []), (0, 400 * 115 + 20, 5, []), (0, 400 * 115 + 25, 4, []), (0, 400 * 115 + 29, 4, []), (0, 400 * 115 + 33, 20, []), (5, 400 * 122 + 53, 5, [(false, 400 * 122 + 56), (false, 400 * 122 + 57), (false, 400 * 122 + 53), (false, 400 * 122 + 54), (false, 400 * 122 + 55), (true, 123), (true, 124), (true, 125), (true, 126), (true, 127), (true, 128)]), (0, 400 * 122 + 0, 5, []), (1, 400 * 122 + 5, 15, [])]
def zSh5 : List zS := [(0, 400 * 122 + 20, 5, []), (0, 400 * 122 + 25, 4, []), (0, 400 * 122 + 29, 4, []), (0, 400 * 122 + 33, 20, []), (5, 400 * 129 + 53, 5, [(false, 400 * 129 + 56), (false, 400 * 129 + 57), (false, 400 * 129 + 53), (false, 400 * 129 + 54), (false, 400 * 129 + 55), (true, 130), (true, 131), (true, 132), (true, 133), (true, 134), (true, 135)]), (0, 400 * 129 + 0, 5, []), (1, 400 * 129 + 5, 15, []), (0, 400 * 129 + 20, 5, []), (0, 400 * 129 + 25, 4, []), (0, 400 * 129 + 29, 4, []), (0, 400 * 129 + 33, 20, []), (5, 400 * 136 + 53, 5, [(false, 400 * 136 + 56), (false, 400 * 136 + 57), (false, 400 * 136 + 53), (false, 400 * 136 + 54), (false, 400 * 136 + 55), (true, 137), (true, 138), (true, 139), (true, 140), (true, 141), (true, 142)]), (0, 400 * 136 + 0, 5, []), (1, 400 * 136 + 5, 15, []), (0, 400 * 136 + 20, 5, []), (0, 400 * 136 + 25, 4, []), (0, 400 * 136 + 29, 4, []), (0, 400 * 136 + 33, 20, []), (5, 400 * 143 + 53, 5, [(false, 400 * 143 + 56), (false, 400 * 143 + 57), (false, 400 * 143 + 53), (false, 400 * 143 + 54), (false, 400 * 143 + 55), (true, 144), (true, 145), (true, 146), (true, 147), (true, 148), (true, 149)]), (0, 400 * 143 + 0, 5, []), (1, 400 * 143 + 5, 15, []), (0, 400 * 143 + 20, 5, []), (0, 400 * 143 + 25, 4, []), (0, 400 * 143 + 29, 4, []), (0, 400 * 143 + 33, 20, [])]
def zSh6 : List zS := [(8, 400 * 150 + 0, 3, [(false, 400 * 150 + 0), (false, 400 * 150 + 1), (true, 151)]), (0, 400 * 151 + 0, 40, []), (8, 400 * 152 + 0, 3, [(false, 400 * 152 + 0), (false, 400 * 152 + 1), (true, 153)]), (0, 400 * 153 + 0, 40, []), (8, 400 * 154 + 0, 3, [(false, 400 * 154 + 0), (false, 400 * 154 + 1), (true, 155)]), (0, 400 * 155 + 0, 40, []), (8, 400 * 156 + 0, 3, [(false, 400 * 156 + 0), (false, 400 * 156 + 1), (true, 157)]), (0, 400 * 157 + 0, 40, []), (12, 400 * 158 + 0, 33, [(true, 159), (false, 400 * 158 + 1), (false, 400 * 158 + 2), (true, 160), (false, 400 * 158 + 4), (false, 400 * 158 + 5), (false, 400 * 158 + 6), (false, 400 * 158 + 7), (false, 400 * 158 + 8), (true, 161), (false, 400 * 158 + 10), (false, 400 * 158 + 11), (false, 400 * 158 + 12), (false, 400 * 158 + 13), (false, 400 * 158 + 14), (false, 400 * 158 + 15), (false, 400 * 158 + 16), (false, 400 * 158 + 17), (true, 162), (true, 163), (false, 400 * 158 + 20), (true, 164), (false, 400 * 158 + 22), (true, 165), (true, 166), (true, 167), (false, 400 * 158 + 26), (true, 168), (true, 169), (true, 170), (true, 171), (true, 172), (false, 400 * 158 + 32)]), (0, 400 * 159 + 0, 330, []), (0, 400 * 160 + 0, 55, []), (0, 400 * 161 + 0, 160, []), (0, 400 * 162 + 0, 7, []), (0, 400 * 163 + 0, 32, []), (0, 400 * 164 + 0, 4, []), (0, 400 * 165 + 0, 5, []), (0, 400 * 166 + 0, 5, []), (0, 400 * 167 + 0, 18, []), (0, 400 * 168 + 0, 336, []), (2, 400 * 169 + 0, 2, []), (0, 400 * 170 + 0, 4, []), (0, 400 * 171 + 0, 4, []), (0, 400 * 172 + 0, 160, [])]
def zSh : List zS := zSh0 ++ (zSh1 ++ (zSh2 ++ (zSh3 ++ (zSh4 ++ (zSh5 ++ (zSh6))))))
def zBks : List Nat := [1, 8, 21, 28, 44, 51, 58, 65, 72, 79, 86, 93, 100, 108, 115, 122, 129, 136, 143]
def zBk (r : Nat) : Prop := r ∈ zBks
def zE (G : zG) (σ : Nat → Int32) (s : zS) : va_E := match s.1 with
  | 0 => .inl (zcI G, s.2.2.1, .inl (fun j => σ (s.2.1 + j)))
  | 1 => .inl (zcI G, s.2.2.1, .inl (fun j => σ (s.2.1 + (5 * (j % 3) + j / 3))))
  | 2 => .inl (zcZ G, s.2.2.1, .inl (fun j => σ (s.2.1 + j)))
  | 3 => .inl (zcB G, s.2.2.1, .inr (.inr (.inr (.inr (fun j => (s.2.2.2[j]?).map (fun q => zGa G q.2))))))
  | 4 => .inl (zcS G, s.2.2.1, .inr (.inr (.inr (.inr (fun j => (s.2.2.2[j]?).map (fun q => zGa G q.2))))))
  | c + 5 => .inr (c, s.2.2.2.map (fun q => if q.1 then .ref (zGa G q.2) else .int (σ q.2)))
noncomputable def zW (G : zG) (σ : Nat → Int32) : va_W := Classical.choose (p := fun w : va_W => w = zSh.mapIdx (fun r s => (zGa G r, zE G σ s))) ⟨_, rfl⟩
theorem zW_def (G : zG) (σ : Nat → Int32) : zW G σ = zSh.mapIdx (fun r s => (zGa G r, zE G σ s)) := Classical.choose_spec (p := fun w : va_W => w = zSh.mapIdx (fun r s => (zGa G r, zE G σ s))) ⟨_, rfl⟩
theorem zW_at {G : zG} {σ : Nat → Int32} {r : Nat} {s : zS} (h : zSh[r]? = some s) : (zW G σ)[r]? = some (zGa G r, zE G σ s) := by
  rw [zW_def, List.getElem?_mapIdx, h]; rfl
/-- a number is one of this cell's -/
def zIn (s : zS) (a : Nat) : Prop := s.2.1 ≤ a ∧ a < s.2.1 + s.2.2.1
/-- a cell's numbers lie in its stretch of the flat row; the stretches are apart -/
def zGood (s : zS) : Bool := (s.2.2.2.all fun q => q.1 || (decide (s.2.1 ≤ q.2) && decide (q.2 < s.2.1 + s.2.2.1))) && (decide (s.1 ≠ 1) || decide (s.2.2.1 = 15))
def zApart (s t : zS) : Bool := decide (s.2.1 + s.2.2.1 ≤ t.2.1) || decide (t.2.1 + t.2.2.1 ≤ s.2.1)
def zAparts : List zS → Bool
  | [] => true
  | s :: l => l.all (zApart s) && zAparts l
theorem zSh_good : zSh.all zGood = true := by decide +kernel
theorem zSh_apart : zAparts zSh = true := by decide +kernel
theorem zAparts_of : ∀ (l : List zS), zAparts l = true → ∀ (i j : Nat) (s t : zS), i < j → l[i]? = some s → l[j]? = some t → zApart s t = true
  | [], _, i, j, s, t, _, h, _ => by simp at h
  | x :: l, hx, i, j, s, t, hij, hi, hj => by
    simp only [zAparts, Bool.and_eq_true] at hx
    cases j with
    | zero => omega
    | succ j =>
      rw [List.getElem?_cons_succ] at hj
      cases i with
      | zero =>
        rw [List.getElem?_cons_zero] at hi
        cases hi
        exact List.all_eq_true.mp hx.1 t (List.mem_of_getElem? hj)
      | succ i =>
        rw [List.getElem?_cons_succ] at hi
        exact zAparts_of l hx.2 i j s t (by omega) hi hj
theorem zApart_in {i j : Nat} {s t : zS} {a : Nat} (hij : i ≠ j) (hi : zSh[i]? = some s) (hj : zSh[j]? = some t) (h : zIn s a) : ¬ zIn t a := by
  intro h2
  rcases Nat.lt_or_ge i j with q | q
  · have := zAparts_of zSh zSh_apart i j s t q hi hj
    simp only [zApart, Bool.or_eq_true, decide_eq_true_eq] at this
    simp only [zIn] at h h2
    omega
  · have := zAparts_of zSh zSh_apart j i t s (by omega) hj hi
    simp only [zApart, Bool.or_eq_true, decide_eq_true_eq] at this
    simp only [zIn] at h h2
    omega
/-- two entries that make the same cell -/
def zEq (e f : va_E) : Prop := e = f ∨ ∃ (c : ClassId) (n : Nat) (g h : Nat → Int32), e = .inl (c, n, .inl g) ∧ f = .inl (c, n, .inl h) ∧ ∀ j, j < n → g j = h j
theorem zEq_at {D : va_G} {cl : List vw_C} {q : Nat} {e f : va_E} {H : Heap} (h : zEq e f) (ha : va_at D cl (q, e) H) : va_at D cl (q, f) H := by
  rcases h with rfl | ⟨c, n, g, g', rfl, rfl, hj⟩
  · exact ha
  · refine (show H[q]? = some (vp_cell c (n, .inl g)) from ha).trans ?_
    rw [vp_cell_i, vp_cell_i]
    congr 1
    have : (fun j : Fin n => Value.int (g j.val)) = (fun j : Fin n => Value.int (g' j.val)) := by
      funext j
      rw [hj j.val j.isLt]
    simp only [arrV, this]
/-- a world in place of another: each cell of it is the same -/
def zWeq (w v : va_W) : Prop := ∀ (k : Nat) (q : Nat × va_E), v[k]? = some q → ∃ e : va_E, w[k]? = some (q.1, e) ∧ zEq e q.2
theorem Z.weq {G : zG} {X : zX} {μ : zM} {a b : Nat} {w v : va_W} {pc : Nat} {L : List (Option Value)} {S : List Value} (h : zWeq w v) (k : Z G X μ a b v pc L S) : Z G X μ a b w pc L S := by
  intro ok H locs ls hP hD hS hl
  refine k ok H locs ls (fun i q hq => ?_) ⟨fun i j x y hi hj hxy => ?_, fun i q hq => ?_⟩ hS hl
  · obtain ⟨e, h1, h2⟩ := h i q hq
    exact zEq_at h2 (hP i _ h1)
  · obtain ⟨e, h1, -⟩ := h i x hi
    obtain ⟨e', h2, -⟩ := h j y hj
    exact hD.1 i j _ _ h1 h2 hxy
  · obtain ⟨e, h1, -⟩ := h i q hq
    exact hD.2 i (q.1, e) h1
theorem zE_off {G : zG} {σ : Nat → Int32} {s : zS} {a : Nat} {x : Int32} (hg : zGood s = true) (h : ¬ zIn s a) : zEq (zE G σ s) (zE G (upd σ a x) s) := by
  obtain ⟨c, lo, n, sl⟩ := s
  simp only [zGood, Bool.and_eq_true, Bool.or_eq_true, decide_eq_true_eq] at hg
  simp only [zIn] at h
  match c with
  | 0 => exact Or.inr ⟨_, _, _, _, rfl, rfl, fun j hj => (pk_un (by show lo + j ≠ a; have : j < n := hj; omega)).symm⟩
  | 1 =>
    have hn : n = 15 := by
      rcases hg.2 with q | q
      · exact absurd rfl q
      · exact q
    exact Or.inr ⟨_, _, _, _, rfl, rfl, fun j hj => (pk_un (by show lo + (5 * (j % 3) + j / 3) ≠ a; have : j < n := hj; omega)).symm⟩
  | 2 => exact Or.inr ⟨_, _, _, _, rfl, rfl, fun j hj => (pk_un (by show lo + j ≠ a; have : j < n := hj; omega)).symm⟩
  | 3 => exact Or.inl rfl
  | 4 => exact Or.inl rfl
  | c + 5 =>
    refine Or.inl ?_
    show Sum.inr (c, sl.map _) = Sum.inr (c, sl.map _)
    congr 2
    refine List.map_congr_left fun q hq => ?_
    have := List.all_eq_true.mp hg.1 q hq
    simp only [Bool.or_eq_true, Bool.and_eq_true, decide_eq_true_eq] at this
    cases hq1 : q.1 with
    | true => simp
    | false =>
      rw [hq1] at this
      have : q.2 ≠ a := by simp at this; omega
      simp [upd, this]
theorem zW_upd {G : zG} {σ : Nat → Int32} {r a : Nat} {s : zS} {x : Int32} {e : va_E} (hr : zSh[r]? = some s) (ha : zIn s a) (he : zEq e (zE G (upd σ a x) s)) : zWeq ((zW G σ).set r (zGa G r, e)) (zW G (upd σ a x)) := by
  intro k q hq
  have hk : ∃ t, zSh[k]? = some t := by
    cases h : zSh[k]? with
    | some t => exact ⟨t, rfl⟩
    | none => rw [zW_def, List.getElem?_mapIdx, h] at hq; cases hq
  obtain ⟨t, ht⟩ := hk
  rw [zW_at ht] at hq
  cases hq
  have hl : r < (zW G σ).length := (List.getElem?_eq_some_iff.mp (zW_at (G := G) (σ := σ) hr)).1
  by_cases hkr : k = r
  · subst hkr
    rw [hr] at ht
    cases ht
    exact ⟨e, List.getElem?_set_self hl, he⟩
  · refine ⟨zE G σ t, ?_, zE_off (List.all_eq_true.mp zSh_good t (List.mem_of_getElem? ht)) (zApart_in (Ne.symm hkr) hr ht ha)⟩
    rw [List.getElem?_set_ne (Ne.symm hkr)]
    exact zW_at ht
/-- the walks over that world -/
abbrev Y (G : zG) (X : zX) (μ : zM) (σ : Nat → Int32) (pc : Nat) (L : List (Option Value)) (S : List Value) : Prop := Z G X μ 0 0 (zW G σ) pc L S
section YW
variable {G : zG} {X : zX} {μ : zM} {σ : Nat → Int32} {pc : Nat} {L : List (Option Value)} {S : List Value}
theorem y_get (n r : Nat) {lo len : Nat} {sl : List (Bool × Nat)} {idx ci j ad : Nat} (hr : zSh[r]? = some (ci + 5, lo, len, sl)) (hj : sl[j]? = some (false, ad)) (hf : zFld (zMo μ) idx ci j) (hd : decode (zMc μ) pc = .ok (.getfield idx, 3)) (hn : pc + 3 = n) (k : Y G X μ σ n L (.int (σ ad) :: S)) : Y G X μ σ pc L (.ref (zGa G r) :: S) :=
  z_get n r (zW_at hr) hf (by show (List.map _ sl)[j]? = _; rw [List.getElem?_map, hj]; rfl) hd hn k
theorem y_getr (n r : Nat) {lo len : Nat} {sl : List (Bool × Nat)} {idx ci j r' : Nat} (hr : zSh[r]? = some (ci + 5, lo, len, sl)) (hj : sl[j]? = some (true, r')) (hf : zFld (zMo μ) idx ci j) (hd : decode (zMc μ) pc = .ok (.getfield idx, 3)) (hn : pc + 3 = n) (k : Y G X μ σ n L (.ref (zGa G r') :: S)) : Y G X μ σ pc L (.ref (zGa G r) :: S) :=
  z_get n r (zW_at hr) hf (by show (List.map _ sl)[j]? = _; rw [List.getElem?_map, hj]; rfl) hd hn k
theorem y_put (n r : Nat) {lo len : Nat} {sl : List (Bool × Nat)} {idx ci j ad : Nat} {x : Int32} (hr : zSh[r]? = some (ci + 5, lo, len, sl)) (hj : sl[j]? = some (false, ad)) (hu : ∀ i q, sl[i]? = some (false, q) → q = ad → i = j) (hf : zFldP (zMo μ) idx ci j .int false) (hd : decode (zMc μ) pc = .ok (.putfield idx, 3)) (hn : pc + 3 = n) (k : Y G X μ (upd σ ad x) n L S) : Y G X μ σ pc L (.int x :: .ref (zGa G r) :: S) := by
  have hlt : j < sl.length := (List.getElem?_eq_some_iff.mp hj).1
  refine z_put n r (zW_at hr) hf (vp_nar_int x) rfl (by rw [List.length_map]; exact hlt) hd hn (Z.weq (zW_upd hr ?_ (Or.inl ?_)) k)
  · have hg := List.all_eq_true.mp zSh_good _ (List.mem_of_getElem? hr)
    simp only [zGood, Bool.and_eq_true] at hg
    have := List.all_eq_true.mp hg.1 _ (List.mem_of_getElem? hj)
    simpa [zIn] using this
  · show Sum.inr (ci, (sl.map _).set j _) = Sum.inr (ci, sl.map _)
    congr 2
    apply List.ext_getElem?
    intro i
    by_cases hi : i = j
    · subst hi
      rw [List.getElem?_set_self (by rw [List.length_map]; exact hlt), List.getElem?_map, hj]
      simp [upd]
    · rw [List.getElem?_set_ne (Ne.symm hi), List.getElem?_map, List.getElem?_map]
      cases hq : sl[i]? with
      | none => rfl
      | some q =>
        obtain ⟨t, c⟩ := q
        cases t with
        | true => rfl
        | false =>
          have : c ≠ ad := fun e => hi (hu i c hq e)
          simp [upd, this]
theorem y_ld (n r j : Nat) {lo len : Nat} {sl : List (Bool × Nat)} {i : Int32} (hr : zSh[r]? = some (0, lo, len, sl)) (hi : i = nI j) (hj : j < len) (hN : len < 2 ^ 31) (hd : decode (zMc μ) pc = .ok (.iaload, 1)) (hn : pc + 1 = n) (k : Y G X μ σ n L (.int (σ (lo + j)) :: S)) : Y G X μ σ pc L (.int i :: .ref (zGa G r) :: S) := z_iald n r j (zW_at hr) hi hj hN hd hn k
theorem y_ldL (n r j : Nat) {lo len : Nat} {sl : List (Bool × Nat)} {i : Int32} (hr : zSh[r]? = some (1, lo, len, sl)) (hi : i = nI j) (hj : j < len) (hN : len < 2 ^ 31) (hd : decode (zMc μ) pc = .ok (.iaload, 1)) (hn : pc + 1 = n) (k : Y G X μ σ n L (.int (σ (lo + (5 * (j % 3) + j / 3))) :: S)) : Y G X μ σ pc L (.int i :: .ref (zGa G r) :: S) := z_iald n r j (zW_at hr) hi hj hN hd hn k
theorem y_st (n r j : Nat) {lo len : Nat} {sl : List (Bool × Nat)} {i x : Int32} (hr : zSh[r]? = some (0, lo, len, sl)) (hi : i = nI j) (hj : j < len) (hN : len < 2 ^ 31) (hd : decode (zMc μ) pc = .ok (.iastore, 1)) (hn : pc + 1 = n) (k : Y G X μ (upd σ (lo + j) x) n L S) : Y G X μ σ pc L (.int x :: .int i :: .ref (zGa G r) :: S) := by
  refine z_iast n r j (zW_at hr) hi hj hN hd hn (Z.weq (zW_upd hr ⟨Nat.le_add_right _ _, Nat.add_lt_add_left hj lo⟩ (Or.inr ⟨_, _, _, _, rfl, rfl, fun i _ => ?_⟩)) k)
  show upd _ j x i = upd σ (lo + j) x (lo + i)
  simp only [upd]
  by_cases h : i = j
  · rw [if_pos h, if_pos (by omega)]
  · rw [if_neg h, if_neg (by omega)]
theorem y_stL (n r j : Nat) {lo len : Nat} {sl : List (Bool × Nat)} {i x : Int32} (hr : zSh[r]? = some (1, lo, len, sl)) (hl : len = 15) (hi : i = nI j) (hj : j < len) (hd : decode (zMc μ) pc = .ok (.iastore, 1)) (hn : pc + 1 = n) (k : Y G X μ (upd σ (lo + (5 * (j % 3) + j / 3)) x) n L S) : Y G X μ σ pc L (.int x :: .int i :: .ref (zGa G r) :: S) := by
  subst hl
  refine z_iast n r j (zW_at hr) hi hj (by show 15 < 2 ^ 31; decide) hd hn (Z.weq (zW_upd hr ⟨Nat.le_add_right _ _, ?_⟩ (Or.inr ⟨_, _, _, _, rfl, rfl, fun i hi => ?_⟩)) k)
  · show lo + (5 * (j % 3) + j / 3) < lo + 15
    omega
  show upd _ j x i = upd σ (lo + (5 * (j % 3) + j / 3)) x (lo + (5 * (i % 3) + i / 3))
  simp only [upd]
  have hi : i < 15 := hi
  by_cases h : i = j
  · rw [if_pos h, if_pos (by rw [h])]
  · rw [if_neg h, if_neg (by omega)]
theorem y_ldZ (n r j : Nat) {lo len : Nat} {sl : List (Bool × Nat)} {i : Int32} (hr : zSh[r]? = some (2, lo, len, sl)) (hi : i = nI j) (hj : j < len) (hN : len < 2 ^ 31) (hd : decode (zMc μ) pc = .ok (.baload, 1)) (hn : pc + 1 = n) (k : Y G X μ σ n L (.int (σ (lo + j)) :: S)) : Y G X μ σ pc L (.int i :: .ref (zGa G r) :: S) := z_zald n r j (zW_at hr) hi hj hN hd hn k
theorem y_stZ (n r j : Nat) {lo len : Nat} {sl : List (Bool × Nat)} {i x : Int32} (hr : zSh[r]? = some (2, lo, len, sl)) (hi : i = nI j) (hj : j < len) (hN : len < 2 ^ 31) (hx : vp_nar .boolean x = x) (hd : decode (zMc μ) pc = .ok (.bastore, 1)) (hn : pc + 1 = n) (k : Y G X μ (upd σ (lo + j) x) n L S) : Y G X μ σ pc L (.int x :: .int i :: .ref (zGa G r) :: S) := by
  refine z_zast n r j (zW_at hr) hi hj hN hx hd hn (Z.weq (zW_upd hr ⟨Nat.le_add_right _ _, Nat.add_lt_add_left hj lo⟩ (Or.inr ⟨_, _, _, _, rfl, rfl, fun i _ => ?_⟩)) k)
  show upd _ j x i = upd σ (lo + j) x (lo + i)
  simp only [upd]
  by_cases h : i = j
  · rw [if_pos h, if_pos (by omega)]
  · rw [if_neg h, if_neg (by omega)]
theorem y_aaB (n r j : Nat) {lo len r' : Nat} {sl : List (Bool × Nat)} {i : Int32} (hr : zSh[r]? = some (3, lo, len, sl)) (hi : i = nI j) (hj : j < len) (hN : len < 2 ^ 31) (hs : sl[j]? = some (true, r')) (hd : decode (zMc μ) pc = .ok (.aaload, 1)) (hn : pc + 1 = n) (k : Y G X μ σ n L (.ref (zGa G r') :: S)) : Y G X μ σ pc L (.int i :: .ref (zGa G r) :: S) := z_aald n r j (t0 := 2) (zW_at hr) rfl hi hj hN hd hn (by rw [hs]; exact k)
theorem y_aaS (n r j : Nat) {lo len r' : Nat} {sl : List (Bool × Nat)} {i : Int32} (hr : zSh[r]? = some (4, lo, len, sl)) (hi : i = nI j) (hj : j < len) (hN : len < 2 ^ 31) (hs : sl[j]? = some (true, r')) (hd : decode (zMc μ) pc = .ok (.aaload, 1)) (hn : pc + 1 = n) (k : Y G X μ σ n L (.ref (zGa G r') :: S)) : Y G X μ σ pc L (.int i :: .ref (zGa G r) :: S) := z_aald n r j (t0 := 3) (zW_at hr) rfl hi hj hN hd hn (by rw [hs]; exact k)
theorem y_len (n r : Nat) {lo len : Nat} {sl : List (Bool × Nat)} {v : Int32} (hr : zSh[r]? = some (0, lo, len, sl)) (hv : Int32.ofNat len = v) (hd : decode (zMc μ) pc = .ok (.arraylength, 1)) (hn : pc + 1 = n) (k : Y G X μ σ n L (.int v :: S)) : Y G X μ σ pc L (.ref (zGa G r) :: S) := z_alen n r 0 (zW_at hr) rfl hv hd hn k
end YW
theorem bk_all0 : (zBks.all fun r => decide (zSh[r]? = some (5, 400 * r + 53, 5, [(false, 400 * r + 56), (false, 400 * r + 57), (false, 400 * r + 53), (false, 400 * r + 54), (false, 400 * r + 55), (true, r + 1), (true, r + 2), (true, r + 3), (true, r + 4), (true, r + 5), (true, r + 6)]))) = true := by decide +kernel
theorem bk0 {r : Nat} (h : zBk r) : zSh[r]? = some (5, 400 * r + 53, 5, [(false, 400 * r + 56), (false, 400 * r + 57), (false, 400 * r + 53), (false, 400 * r + 54), (false, 400 * r + 55), (true, r + 1), (true, r + 2), (true, r + 3), (true, r + 4), (true, r + 5), (true, r + 6)]) := of_decide_eq_true (List.all_eq_true.mp bk_all0 r h)
theorem bk_all1 : (zBks.all fun r => decide (zSh[r + 1]? = some (0, 400 * r + 0, 5, []))) = true := by decide +kernel
theorem bk1 {r : Nat} (h : zBk r) : zSh[r + 1]? = some (0, 400 * r + 0, 5, []) := of_decide_eq_true (List.all_eq_true.mp bk_all1 r h)
theorem bk_all2 : (zBks.all fun r => decide (zSh[r + 2]? = some (1, 400 * r + 5, 15, []))) = true := by decide +kernel
theorem bk2 {r : Nat} (h : zBk r) : zSh[r + 2]? = some (1, 400 * r + 5, 15, []) := of_decide_eq_true (List.all_eq_true.mp bk_all2 r h)
theorem bk_all3 : (zBks.all fun r => decide (zSh[r + 3]? = some (0, 400 * r + 20, 5, []))) = true := by decide +kernel
theorem bk3 {r : Nat} (h : zBk r) : zSh[r + 3]? = some (0, 400 * r + 20, 5, []) := of_decide_eq_true (List.all_eq_true.mp bk_all3 r h)
theorem bk_all4 : (zBks.all fun r => decide (zSh[r + 4]? = some (0, 400 * r + 25, 4, []))) = true := by decide +kernel
theorem bk4 {r : Nat} (h : zBk r) : zSh[r + 4]? = some (0, 400 * r + 25, 4, []) := of_decide_eq_true (List.all_eq_true.mp bk_all4 r h)
theorem bk_all5 : (zBks.all fun r => decide (zSh[r + 5]? = some (0, 400 * r + 29, 4, []))) = true := by decide +kernel
theorem bk5 {r : Nat} (h : zBk r) : zSh[r + 5]? = some (0, 400 * r + 29, 4, []) := of_decide_eq_true (List.all_eq_true.mp bk_all5 r h)
theorem bk_all6 : (zBks.all fun r => decide (zSh[r + 6]? = some (0, 400 * r + 33, 20, []))) = true := by decide +kernel
theorem bk6 {r : Nat} (h : zBk r) : zSh[r + 6]? = some (0, 400 * r + 33, 20, []) := of_decide_eq_true (List.all_eq_true.mp bk_all6 r h)

theorem sh0 : zSh[0]? = some (11, 400 * 0 + 0, 12, [(true, 1), (true, 8), (true, 15), (true, 16), (true, 17), (true, 18), (true, 19), (true, 35), (true, 39), (true, 42), (true, 107), (false, 400 * 0 + 11)]) := by decide +kernel
theorem sh15 : zSh[15]? = some (3, 400 * 15 + 0, 2, [(true, 108), (true, 115)]) := by decide +kernel
theorem sh16 : zSh[16]? = some (2, 400 * 16 + 0, 2, []) := by decide +kernel
theorem sh17 : zSh[17]? = some (3, 400 * 17 + 0, 4, [(true, 122), (true, 129), (true, 136), (true, 143)]) := by decide +kernel
theorem sh18 : zSh[18]? = some (0, 400 * 18 + 0, 4, []) := by decide +kernel
theorem sh19 : zSh[19]? = some (9, 400 * 19 + 0, 11, [(true, 20), (false, 400 * 19 + 1), (false, 400 * 19 + 2), (false, 400 * 19 + 3), (true, 21), (true, 28), (false, 400 * 19 + 6), (false, 400 * 19 + 7), (false, 400 * 19 + 8), (false, 400 * 19 + 9), (false, 400 * 19 + 10)]) := by decide +kernel
theorem sh20 : zSh[20]? = some (0, 400 * 20 + 0, 160, []) := by decide +kernel
theorem sh35 : zSh[35]? = some (6, 400 * 35 + 0, 4, [(false, 400 * 35 + 0), (true, 36), (true, 37), (true, 38)]) := by decide +kernel
theorem sh36 : zSh[36]? = some (0, 400 * 36 + 0, 6, []) := by decide +kernel
theorem sh37 : zSh[37]? = some (0, 400 * 37 + 0, 6, []) := by decide +kernel
theorem sh38 : zSh[38]? = some (0, 400 * 38 + 0, 6, []) := by decide +kernel
theorem sh39 : zSh[39]? = some (7, 400 * 39 + 0, 6, [(false, 400 * 39 + 0), (false, 400 * 39 + 1), (true, 40), (true, 41), (false, 400 * 39 + 4), (false, 400 * 39 + 5)]) := by decide +kernel
theorem sh40 : zSh[40]? = some (0, 400 * 40 + 0, 5, []) := by decide +kernel
theorem sh41 : zSh[41]? = some (0, 400 * 41 + 0, 5, []) := by decide +kernel
theorem sh42 : zSh[42]? = some (10, 400 * 42 + 0, 5, [(false, 400 * 42 + 0), (false, 400 * 42 + 1), (false, 400 * 42 + 2), (false, 400 * 42 + 3), (true, 43)]) := by decide +kernel
theorem sh43 : zSh[43]? = some (3, 400 * 43 + 0, 9, [(true, 44), (true, 51), (true, 58), (true, 65), (true, 72), (true, 79), (true, 86), (true, 93), (true, 100)]) := by decide +kernel
theorem sh107 : zSh[107]? = some (4, 400 * 107 + 0, 4, [(true, 150), (true, 152), (true, 154), (true, 156)]) := by decide +kernel
theorem sh150 : zSh[150]? = some (8, 400 * 150 + 0, 3, [(false, 400 * 150 + 0), (false, 400 * 150 + 1), (true, 151)]) := by decide +kernel
theorem sh151 : zSh[151]? = some (0, 400 * 151 + 0, 40, []) := by decide +kernel
theorem sh152 : zSh[152]? = some (8, 400 * 152 + 0, 3, [(false, 400 * 152 + 0), (false, 400 * 152 + 1), (true, 153)]) := by decide +kernel
theorem sh153 : zSh[153]? = some (0, 400 * 153 + 0, 40, []) := by decide +kernel
theorem sh154 : zSh[154]? = some (8, 400 * 154 + 0, 3, [(false, 400 * 154 + 0), (false, 400 * 154 + 1), (true, 155)]) := by decide +kernel
theorem sh155 : zSh[155]? = some (0, 400 * 155 + 0, 40, []) := by decide +kernel
theorem sh156 : zSh[156]? = some (8, 400 * 156 + 0, 3, [(false, 400 * 156 + 0), (false, 400 * 156 + 1), (true, 157)]) := by decide +kernel
theorem sh157 : zSh[157]? = some (0, 400 * 157 + 0, 40, []) := by decide +kernel
theorem sh158 : zSh[158]? = some (12, 400 * 158 + 0, 33, [(true, 159), (false, 400 * 158 + 1), (false, 400 * 158 + 2), (true, 160), (false, 400 * 158 + 4), (false, 400 * 158 + 5), (false, 400 * 158 + 6), (false, 400 * 158 + 7), (false, 400 * 158 + 8), (true, 161), (false, 400 * 158 + 10), (false, 400 * 158 + 11), (false, 400 * 158 + 12), (false, 400 * 158 + 13), (false, 400 * 158 + 14), (false, 400 * 158 + 15), (false, 400 * 158 + 16), (false, 400 * 158 + 17), (true, 162), (true, 163), (false, 400 * 158 + 20), (true, 164), (false, 400 * 158 + 22), (true, 165), (true, 166), (true, 167), (false, 400 * 158 + 26), (true, 168), (true, 169), (true, 170), (true, 171), (true, 172), (false, 400 * 158 + 32)]) := by decide +kernel
theorem sh159 : zSh[159]? = some (0, 400 * 159 + 0, 330, []) := by decide +kernel
theorem sh160 : zSh[160]? = some (0, 400 * 160 + 0, 55, []) := by decide +kernel
theorem sh161 : zSh[161]? = some (0, 400 * 161 + 0, 160, []) := by decide +kernel
theorem sh162 : zSh[162]? = some (0, 400 * 162 + 0, 7, []) := by decide +kernel
theorem sh163 : zSh[163]? = some (0, 400 * 163 + 0, 32, []) := by decide +kernel
theorem sh164 : zSh[164]? = some (0, 400 * 164 + 0, 4, []) := by decide +kernel
theorem sh165 : zSh[165]? = some (0, 400 * 165 + 0, 5, []) := by decide +kernel
theorem sh166 : zSh[166]? = some (0, 400 * 166 + 0, 5, []) := by decide +kernel
theorem sh167 : zSh[167]? = some (0, 400 * 167 + 0, 18, []) := by decide +kernel
theorem sh168 : zSh[168]? = some (0, 400 * 168 + 0, 336, []) := by decide +kernel
theorem sh169 : zSh[169]? = some (2, 400 * 169 + 0, 2, []) := by decide +kernel
theorem sh170 : zSh[170]? = some (0, 400 * 170 + 0, 4, []) := by decide +kernel
theorem sh171 : zSh[171]? = some (0, 400 * 171 + 0, 4, []) := by decide +kernel
theorem sh172 : zSh[172]? = some (0, 400 * 172 + 0, 160, []) := by decide +kernel
theorem bkm1 : zBk 1 := by show 1 ∈ zBks; decide +kernel
theorem bkm8 : zBk 8 := by show 8 ∈ zBks; decide +kernel
theorem bkm21 : zBk 21 := by show 21 ∈ zBks; decide +kernel
theorem bkm28 : zBk 28 := by show 28 ∈ zBks; decide +kernel
theorem bkm44 : zBk 44 := by show 44 ∈ zBks; decide +kernel
theorem bkm51 : zBk 51 := by show 51 ∈ zBks; decide +kernel
theorem bkm58 : zBk 58 := by show 58 ∈ zBks; decide +kernel
theorem bkm65 : zBk 65 := by show 65 ∈ zBks; decide +kernel
theorem bkm72 : zBk 72 := by show 72 ∈ zBks; decide +kernel
theorem bkm79 : zBk 79 := by show 79 ∈ zBks; decide +kernel
theorem bkm86 : zBk 86 := by show 86 ∈ zBks; decide +kernel
theorem bkm93 : zBk 93 := by show 93 ∈ zBks; decide +kernel
theorem bkm100 : zBk 100 := by show 100 ∈ zBks; decide +kernel
theorem bkm108 : zBk 108 := by show 108 ∈ zBks; decide +kernel
theorem bkm115 : zBk 115 := by show 115 ∈ zBks; decide +kernel
theorem bkm122 : zBk 122 := by show 122 ∈ zBks; decide +kernel
theorem bkm129 : zBk 129 := by show 129 ∈ zBks; decide +kernel
theorem bkm136 : zBk 136 := by show 136 ∈ zBks; decide +kernel
theorem bkm143 : zBk 143 := by show 143 ∈ zBks; decide +kernel
end
section
/-! ===== rows over the flat world ===== -/
def zUq : List (Bool × Nat) → Bool
  | [] => true
  | (t, q) :: l => (t || l.all fun p => p.1 || decide (p.2 ≠ q)) && zUq l
theorem zUq_of : ∀ (l : List (Bool × Nat)), zUq l = true → ∀ (i j q : Nat), l[i]? = some (false, q) → l[j]? = some (false, q) → i = j
  | [], _, i, j, q, h, _ => by simp at h
  | (t, c) :: l, hu, i, j, q, hi, hj => by
    simp only [zUq, Bool.and_eq_true] at hu
    have key : ∀ k : Nat, (t, c) = (false, q) → l[k]? = some (false, q) → False := by
      intro k h1 h2
      cases h1
      have h3 : (l.all fun p => p.1 || decide (p.2 ≠ c)) = true := by simpa only [Bool.false_or] using hu.1
      have := List.all_eq_true.mp h3 _ (List.mem_of_getElem? h2)
      simp at this
    cases i with
    | zero =>
      cases j with
      | zero => rfl
      | succ j =>
        simp only [List.getElem?_cons_zero, Option.some.injEq, List.getElem?_cons_succ] at hi hj
        exact absurd hj (fun h => key j hi h)
    | succ i =>
      cases j with
      | zero =>
        simp only [List.getElem?_cons_zero, Option.some.injEq, List.getElem?_cons_succ] at hi hj
        exact absurd hi (fun h => key i hj h)
      | succ j =>
        simp only [List.getElem?_cons_succ] at hi hj
        rw [zUq_of l hu.2 i j q hi hj]
theorem zSh_uq : (zSh.all fun s => zUq s.2.2.2) = true := by decide +kernel
/-- an answer and a state, both told -/
def zFn (G : zG) (v : Option Value) (σ' : Nat → Int32) : Option Value → va_W → Prop := fun r w => r = v ∧ w = zW G σ'
/-- an answer and a state of which something is told -/
def zP (G : zG) (P : Option Value → (Nat → Int32) → Prop) : Option Value → va_W → Prop := fun r w => ∃ σ', P r σ' ∧ w = zW G σ'
section YC
variable {G : zG} {X : zX} {μ : zM} {σ : Nat → Int32} {pc : Nat} {L : List (Option Value)} {S S0 : List Value}
theorem y_putI (n r : Nat) {lo len : Nat} {sl : List (Bool × Nat)} {idx ci j ad : Nat} {x : Int32} (hr : zSh[r]? = some (ci + 5, lo, len, sl)) (hj : sl[j]? = some (false, ad)) (hf : zFldP (zMo μ) idx ci j .int false) (hd : decode (zMc μ) pc = .ok (.putfield idx, 3)) (hn : pc + 3 = n) (k : Y G X μ (upd σ ad x) n L S) : Y G X μ σ pc L (.int x :: .ref (zGa G r) :: S) :=
  y_put n r hr hj (fun i q hi e => zUq_of sl (List.all_eq_true.mp zSh_uq _ (List.mem_of_getElem? hr)) i j ad (e ▸ hi) hj) hf hd hn k
/-- a callee that makes nothing -/
def zRm0 (μ' μ : zM) : Prop := zMd μ' + 1 ≤ zMd μ ∧ zMl μ' ≤ 45 ∧ zMk μ' = 0 ∧ zMs μ' = 0
theorem zRm0.rm {μ' μ : zM} (h : zRm0 μ' μ) : zRm μ' μ 0 0 := by
  obtain ⟨h1, h2, h3, h4⟩ := h
  exact ⟨h1, h2, by omega, by omega⟩
theorem y_cVP (n r : Nat) {y : MethodName} {μ' : zM} {As : List Value} {idx ci lo len : Nat} {sl : List (Bool × Nat)} {P : Option Value → (Nat → Int32) → Prop} (hM : zMet (zXl X) y μ' (.ref (zGa G r) :: As) G (zW G σ) (zP G P)) (hr : zSh[r]? = some (ci + 5, lo, len, sl)) (hc : zCV (zMo μ) idx ci y μ' As.length) (hm : zRm0 μ' μ) (hs : (S.map fun v => v.category).sum ≤ 8) (hd : decode (zMc μ) pc = .ok (.invokevirtual idx, 3)) (hS0 : S0 = As.reverse ++ .ref (zGa G r) :: S) (hn : pc + 3 = n)
    (k : ∀ v σ', P v σ' → Y G X μ σ' n L (v.toList ++ S)) : Y G X μ σ pc L S0 :=
  z_callV n r hM (zW_at hr) hc hm.rm hs hd hS0 hn (fun v w h => by
    obtain ⟨σ', h1, h2⟩ := h
    rw [h2, hm.2.2.1, hm.2.2.2]
    exact k v σ' h1)
theorem y_cV (n r : Nat) {y : MethodName} {μ' : zM} {As : List Value} {idx ci lo len : Nat} {sl : List (Bool × Nat)} {v : Option Value} {σ' : Nat → Int32} (hM : zMet (zXl X) y μ' (.ref (zGa G r) :: As) G (zW G σ) (zFn G v σ')) (hr : zSh[r]? = some (ci + 5, lo, len, sl)) (hc : zCV (zMo μ) idx ci y μ' As.length) (hm : zRm0 μ' μ) (hs : (S.map fun v => v.category).sum ≤ 8) (hd : decode (zMc μ) pc = .ok (.invokevirtual idx, 3)) (hS0 : S0 = As.reverse ++ .ref (zGa G r) :: S) (hn : pc + 3 = n)
    (k : Y G X μ σ' n L (v.toList ++ S)) : Y G X μ σ pc L S0 :=
  z_callV n r hM (zW_at hr) hc hm.rm hs hd hS0 hn (fun v w h => by
    obtain ⟨h1, h2⟩ := h
    rw [h1, h2, hm.2.2.1, hm.2.2.2]
    exact k)
theorem y_cSP (n : Nat) {y : MethodName} {μ' : zM} {As : List Value} {idx : Nat} {P : Option Value → (Nat → Int32) → Prop} (hM : zMet (zXl X) y μ' As G (zW G σ) (zP G P)) (hc : zCS (zMo μ) idx y μ' As.length) (hm : zRm0 μ' μ) (hs : (S.map fun v => v.category).sum ≤ 8) (hd : decode (zMc μ) pc = .ok (.invokestatic idx, 3)) (hS0 : S0 = As.reverse ++ S) (hn : pc + 3 = n)
    (k : ∀ v σ', P v σ' → Y G X μ σ' n L (v.toList ++ S)) : Y G X μ σ pc L S0 :=
  z_callS n hM hc hm.rm hs hd hS0 hn (fun v w h => by
    obtain ⟨σ', h1, h2⟩ := h
    rw [h2, hm.2.2.1, hm.2.2.2]
    exact k v σ' h1)
theorem y_cS (n : Nat) {y : MethodName} {μ' : zM} {As : List Value} {idx : Nat} {v : Option Value} {σ' : Nat → Int32} (hM : zMet (zXl X) y μ' As G (zW G σ) (zFn G v σ')) (hc : zCS (zMo μ) idx y μ' As.length) (hm : zRm0 μ' μ) (hs : (S.map fun v => v.category).sum ≤ 8) (hd : decode (zMc μ) pc = .ok (.invokestatic idx, 3)) (hS0 : S0 = As.reverse ++ S) (hn : pc + 3 = n)
    (k : Y G X μ σ' n L (v.toList ++ S)) : Y G X μ σ pc L S0 :=
  z_callS n hM hc hm.rm hs hd hS0 hn (fun v w h => by
    obtain ⟨h1, h2⟩ := h
    rw [h1, h2, hm.2.2.1, hm.2.2.2]
    exact k)
theorem y_cN (n : Nat) {y : MethodName} {μ' : zM} {As : List Value} {idx : Nat} {v : Option Value} {σ' : Nat → Int32} (hM : zMet (zXl X) y μ' As G (zW G σ) (zFn G v σ')) (hc : zCN (zMo μ) idx y μ' As.length) (hm : zRm0 μ' μ) (hs : (S.map fun v => v.category).sum ≤ 8) (hd : decode (zMc μ) pc = .ok (.invokestatic idx, 3)) (hS0 : S0 = As.reverse ++ S) (hn : pc + 3 = n)
    (k : Y G X μ σ' n L (v.toList ++ S)) : Y G X μ σ pc L S0 :=
  z_callN n hM hc hm.rm hs hd hS0 hn (fun v w h => by
    obtain ⟨h1, h2⟩ := h
    rw [h1, h2, hm.2.2.1, hm.2.2.2]
    exact k)
theorem y_min (n : Nat) {idx : Nat} {x y : Int32} (hl : Cond.methodLink (zMo μ) idx Lib.Math.min.name ∈ zws) (h1 : Cond.static Lib.Math.min.name ∈ zws) (h2 : Cond.initialized "java/lang/Math" ∈ zws) (h3 : Cond.code Lib.Math.min.name Lib.Math.min.code 2 (some .int) ∈ zws) (h0 : 1 ≤ zMd μ) (hs : (S.map fun v => v.category).sum ≤ 8) (hd : decode (zMc μ) pc = .ok (.invokestatic idx, 3)) (hn : pc + 3 = n) (k : Y G X μ σ n L (.int (if y < x then y else x) :: S)) : Y G X μ σ pc L (.int y :: .int x :: S) := by
  subst hn
  intro ok H locs ls hP hD hS hl'
  have hts := ok.2.2.2.2.2.2.1
  obtain ⟨o1, o2, o3, o4, -⟩ := ok.2.2.2.2.2.2.2.2.2.2
  exact va_mmin ok.1 ok.2.1 (ok.2.2.2.1.trans hl'.1.symm) ok.2.2.2.2.1 (hts _ hl) (hts _ h1) (hts _ h2) (hts _ h3) (by omega) (by omega) (Nat.zero_le _) (Nat.zero_le _) hd (k ok H locs ls hP hD hS hl')
end YC
/-! numbers -/
theorem zi_add {x y : Int32} {a b : Nat} (hx : x = nI a) (hy : y = nI b) : x + y = nI (a + b) := by rw [hx, hy, nI_add]
theorem zi_mul {x y : Int32} {a b : Nat} (hx : x = nI a) (hy : y = nI b) : x * y = nI (a * b) := by rw [hx, hy, pk_mul]
theorem zi_sub {x y : Int32} {a b : Nat} (hx : x = nI a) (hy : y = nI b) (h : b ≤ a) : x - y = nI (a - b) := by rw [hx, hy, pk_sub h]
/-- a loop that counts up: its end, and each step, give its beginning -/
theorem zup {P : Nat → Prop} (N : Nat) (he : P N) (hs : ∀ i, i < N → P (i + 1) → P i) : ∀ i, i ≤ N → P i := by
  intro i hi
  obtain ⟨k, rfl⟩ : ∃ k, N = i + k := ⟨N - i, by omega⟩
  clear hi
  induction k generalizing i with
  | zero => exact he
  | succ k ih =>
    have h : P (i + 1) := ih (i + 1) (by rw [show i + 1 + k = i + (k + 1) by omega]; exact he) (fun j hj => hs j (by omega))
    exact hs i (by omega) h
def bi (p : Prop) [Decidable p] : Int32 := if p then 1 else 0
theorem bi_t {p : Prop} [Decidable p] (h : p) : bi p = 1 := if_pos h
theorem bi_f {p : Prop} [Decidable p] (h : ¬ p) : bi p = 0 := if_neg h
theorem bi0 {p : Prop} [Decidable p] : bi p = 0 ↔ ¬ p := by
  by_cases h : p
  · rw [bi_t h]; exact ⟨fun q => absurd q (by decide), fun q => absurd h q⟩
  · rw [bi_f h]; exact ⟨fun _ => h, fun _ => rfl⟩
theorem bin0 {p : Prop} [Decidable p] : ¬ bi p = 0 ↔ p := by
  rw [bi0]; exact Decidable.not_not
theorem bi_nar {p : Prop} [Decidable p] : narrow .boolean (.int (bi p)) = .int (bi p) := by
  by_cases h : p
  · rw [bi_t h]; rfl
  · rw [bi_f h]; rfl
theorem bi_cg {p q : Prop} [Decidable p] [Decidable q] (h : p ↔ q) : bi p = bi q := by
  by_cases hp : p
  · rw [bi_t hp, bi_t (h.mp hp)]
  · rw [bi_f hp, bi_f (fun z => hp (h.mpr z))]
end
