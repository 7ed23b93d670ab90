section
-- ===== PART A: goes FIRST, ahead of the names: the tables' words, and 'selects' of the private methods out of them =====
/-- a private method of a class that the tables say can be made, by its rows of tables_1 -/
def lw_okq (q : MethodName × Nat) : Prop := (q.1.cls ≠ "java/lang/invoke/MethodHandle" ∧ q.1.cls ≠ "java/lang/invoke/VarHandle") ∧ Cond.instantiable q.1.cls q.2 ∈ tables_1 ∧ Cond.privateMethod q.1 ∈ tables_1 ∧ Cond.instanceMethod q.1 ∈ tables_1
theorem lw_p0 : lw_okq (⟨"GonePipes", "refuseBad", "()I"⟩, 13) := ⟨⟨by decide +kernel, by decide +kernel⟩, List.mem_of_getElem? (i := 21) (by decide +kernel), List.mem_of_getElem? (i := 268) (by decide +kernel), List.mem_of_getElem? (i := 269) (by decide +kernel)⟩
theorem lw_p1 : lw_okq (⟨"GonePipes", "refuseFull", "()I"⟩, 13) := ⟨⟨by decide +kernel, by decide +kernel⟩, List.mem_of_getElem? (i := 21) (by decide +kernel), List.mem_of_getElem? (i := 276) (by decide +kernel), List.mem_of_getElem? (i := 277) (by decide +kernel)⟩
theorem lw_p2 : lw_okq (⟨"GonePipes$Text", "step", "()V"⟩, 7) := ⟨⟨by decide +kernel, by decide +kernel⟩, List.mem_of_getElem? (i := 156) (by decide +kernel), List.mem_of_getElem? (i := 330) (by decide +kernel), List.mem_of_getElem? (i := 331) (by decide +kernel)⟩
theorem lw_p3 : lw_okq (⟨"GonePipes$Text", "isWord", "(Ljava/lang/String;)Z"⟩, 7) := ⟨⟨by decide +kernel, by decide +kernel⟩, List.mem_of_getElem? (i := 156) (by decide +kernel), List.mem_of_getElem? (i := 341) (by decide +kernel), List.mem_of_getElem? (i := 342) (by decide +kernel)⟩
theorem lw_p4 : lw_okq (⟨"GonePipes$Text", "stepTo", "(I)Z"⟩, 7) := ⟨⟨by decide +kernel, by decide +kernel⟩, List.mem_of_getElem? (i := 156) (by decide +kernel), List.mem_of_getElem? (i := 393) (by decide +kernel), List.mem_of_getElem? (i := 394) (by decide +kernel)⟩
theorem lw_p5 : lw_okq (⟨"GonePipes$Text", "readItem", "(LGonePipes$Organ;)Z"⟩, 7) := ⟨⟨by decide +kernel, by decide +kernel⟩, List.mem_of_getElem? (i := 156) (by decide +kernel), List.mem_of_getElem? (i := 397) (by decide +kernel), List.mem_of_getElem? (i := 398) (by decide +kernel)⟩
theorem lw_p6 : lw_okq (⟨"GonePipes$Text", "readPlace", "(LGonePipes$Organ;)Z"⟩, 7) := ⟨⟨by decide +kernel, by decide +kernel⟩, List.mem_of_getElem? (i := 156) (by decide +kernel), List.mem_of_getElem? (i := 402) (by decide +kernel), List.mem_of_getElem? (i := 403) (by decide +kernel)⟩
theorem lw_p7 : lw_okq (⟨"GonePipes$Text", "readNumber", "(II)Z"⟩, 7) := ⟨⟨by decide +kernel, by decide +kernel⟩, List.mem_of_getElem? (i := 156) (by decide +kernel), List.mem_of_getElem? (i := 406) (by decide +kernel), List.mem_of_getElem? (i := 407) (by decide +kernel)⟩
theorem lw_p8 : lw_okq (⟨"GonePipes$Text", "readPipe", "(LGonePipes$Organ;)Z"⟩, 7) := ⟨⟨by decide +kernel, by decide +kernel⟩, List.mem_of_getElem? (i := 156) (by decide +kernel), List.mem_of_getElem? (i := 412) (by decide +kernel), List.mem_of_getElem? (i := 413) (by decide +kernel)⟩
theorem lw_p9 : lw_okq (⟨"GonePipes$Text", "readHymn", "(LGonePipes$Organ;)Z"⟩, 7) := ⟨⟨by decide +kernel, by decide +kernel⟩, List.mem_of_getElem? (i := 156) (by decide +kernel), List.mem_of_getElem? (i := 418) (by decide +kernel), List.mem_of_getElem? (i := 419) (by decide +kernel)⟩
theorem lw_p10 : lw_okq (⟨"GonePipes$Organ", "ruleOf", "(I[LGonePipes$Plain;)LGonePipes$Plain;"⟩, 13) := ⟨⟨by decide +kernel, by decide +kernel⟩, List.mem_of_getElem? (i := 72) (by decide +kernel), List.mem_of_getElem? (i := 452) (by decide +kernel), List.mem_of_getElem? (i := 453) (by decide +kernel)⟩
theorem lw_p11 : lw_okq (⟨"GonePipes$Organ", "sendOut", "(I)V"⟩, 13) := ⟨⟨by decide +kernel, by decide +kernel⟩, List.mem_of_getElem? (i := 72) (by decide +kernel), List.mem_of_getElem? (i := 485) (by decide +kernel), List.mem_of_getElem? (i := 486) (by decide +kernel)⟩
theorem lw_p12 : lw_okq (⟨"GonePipes", "isPipe", "(I)Z"⟩, 13) := ⟨⟨by decide +kernel, by decide +kernel⟩, List.mem_of_getElem? (i := 21) (by decide +kernel), List.mem_of_getElem? (i := 528) (by decide +kernel), List.mem_of_getElem? (i := 529) (by decide +kernel)⟩
theorem lw_p13 : lw_okq (⟨"GonePipes", "refuseNo", "()I"⟩, 13) := ⟨⟨by decide +kernel, by decide +kernel⟩, List.mem_of_getElem? (i := 21) (by decide +kernel), List.mem_of_getElem? (i := 532) (by decide +kernel), List.mem_of_getElem? (i := 533) (by decide +kernel)⟩
theorem lw_p14 : lw_okq (⟨"GonePipes", "refuseBadTen", "()I"⟩, 13) := ⟨⟨by decide +kernel, by decide +kernel⟩, List.mem_of_getElem? (i := 21) (by decide +kernel), List.mem_of_getElem? (i := 549) (by decide +kernel), List.mem_of_getElem? (i := 550) (by decide +kernel)⟩
theorem lw_p15 : lw_okq (⟨"GonePipes", "isPlace", "(I)Z"⟩, 13) := ⟨⟨by decide +kernel, by decide +kernel⟩, List.mem_of_getElem? (i := 21) (by decide +kernel), List.mem_of_getElem? (i := 561) (by decide +kernel), List.mem_of_getElem? (i := 562) (by decide +kernel)⟩
def lw_privs_1 : List (MethodName × Nat) := [(⟨"GonePipes", "refuseBad", "()I"⟩, 13), (⟨"GonePipes", "refuseFull", "()I"⟩, 13), (⟨"GonePipes$Text", "step", "()V"⟩, 7), (⟨"GonePipes$Text", "isWord", "(Ljava/lang/String;)Z"⟩, 7), (⟨"GonePipes$Text", "stepTo", "(I)Z"⟩, 7), (⟨"GonePipes$Text", "readItem", "(LGonePipes$Organ;)Z"⟩, 7), (⟨"GonePipes$Text", "readPlace", "(LGonePipes$Organ;)Z"⟩, 7), (⟨"GonePipes$Text", "readNumber", "(II)Z"⟩, 7), (⟨"GonePipes$Text", "readPipe", "(LGonePipes$Organ;)Z"⟩, 7), (⟨"GonePipes$Text", "readHymn", "(LGonePipes$Organ;)Z"⟩, 7), (⟨"GonePipes$Organ", "ruleOf", "(I[LGonePipes$Plain;)LGonePipes$Plain;"⟩, 13), (⟨"GonePipes$Organ", "sendOut", "(I)V"⟩, 13), (⟨"GonePipes", "isPipe", "(I)Z"⟩, 13), (⟨"GonePipes", "refuseNo", "()I"⟩, 13), (⟨"GonePipes", "refuseBadTen", "()I"⟩, 13), (⟨"GonePipes", "isPlace", "(I)Z"⟩, 13)]
theorem lw_r1 : ∀ q ∈ lw_privs_1, lw_okq q := List.forall_mem_cons.mpr ⟨lw_p0, List.forall_mem_cons.mpr ⟨lw_p1, List.forall_mem_cons.mpr ⟨lw_p2, List.forall_mem_cons.mpr ⟨lw_p3, List.forall_mem_cons.mpr ⟨lw_p4, List.forall_mem_cons.mpr ⟨lw_p5, List.forall_mem_cons.mpr ⟨lw_p6, List.forall_mem_cons.mpr ⟨lw_p7, List.forall_mem_cons.mpr ⟨lw_p8, List.forall_mem_cons.mpr ⟨lw_p9, List.forall_mem_cons.mpr ⟨lw_p10, List.forall_mem_cons.mpr ⟨lw_p11, List.forall_mem_cons.mpr ⟨lw_p12, List.forall_mem_cons.mpr ⟨lw_p13, List.forall_mem_cons.mpr ⟨lw_p14, List.forall_mem_cons.mpr ⟨lw_p15, fun _ h => absurd h List.not_mem_nil⟩⟩⟩⟩⟩⟩⟩⟩⟩⟩⟩⟩⟩⟩⟩⟩
theorem lw_p16 : lw_okq (⟨"GonePipes$Organ", "eastOf", "(I)I"⟩, 13) := ⟨⟨by decide +kernel, by decide +kernel⟩, List.mem_of_getElem? (i := 72) (by decide +kernel), List.mem_of_getElem? (i := 572) (by decide +kernel), List.mem_of_getElem? (i := 573) (by decide +kernel)⟩
theorem lw_p17 : lw_okq (⟨"GonePipes$Organ", "northOf", "(I)I"⟩, 13) := ⟨⟨by decide +kernel, by decide +kernel⟩, List.mem_of_getElem? (i := 72) (by decide +kernel), List.mem_of_getElem? (i := 579) (by decide +kernel), List.mem_of_getElem? (i := 580) (by decide +kernel)⟩
theorem lw_p18 : lw_okq (⟨"GonePipes", "tryHours", "(I)V"⟩, 13) := ⟨⟨by decide +kernel, by decide +kernel⟩, List.mem_of_getElem? (i := 21) (by decide +kernel), List.mem_of_getElem? (i := 588) (by decide +kernel), List.mem_of_getElem? (i := 589) (by decide +kernel)⟩
theorem lw_p19 : lw_okq (⟨"GonePipes$Organ", "firstOfNote", "(I)I"⟩, 13) := ⟨⟨by decide +kernel, by decide +kernel⟩, List.mem_of_getElem? (i := 72) (by decide +kernel), List.mem_of_getElem? (i := 636) (by decide +kernel), List.mem_of_getElem? (i := 637) (by decide +kernel)⟩
theorem lw_p20 : lw_okq (⟨"GonePipes$Walk", "fill", "(LGonePipes$Organ;)V"⟩, 3) := ⟨⟨by decide +kernel, by decide +kernel⟩, List.mem_of_getElem? (i := 187) (by decide +kernel), List.mem_of_getElem? (i := 670) (by decide +kernel), List.mem_of_getElem? (i := 671) (by decide +kernel)⟩
theorem lw_p21 : lw_okq (⟨"GonePipes$Walk", "leastFrom", "(LGonePipes$Organ;II)I"⟩, 3) := ⟨⟨by decide +kernel, by decide +kernel⟩, List.mem_of_getElem? (i := 187) (by decide +kernel), List.mem_of_getElem? (i := 674) (by decide +kernel), List.mem_of_getElem? (i := 675) (by decide +kernel)⟩
theorem lw_p22 : lw_okq (⟨"GonePipes", "kindsThatMayBe", "(I)I"⟩, 13) := ⟨⟨by decide +kernel, by decide +kernel⟩, List.mem_of_getElem? (i := 21) (by decide +kernel), List.mem_of_getElem? (i := 699) (by decide +kernel), List.mem_of_getElem? (i := 700) (by decide +kernel)⟩
theorem lw_p23 : lw_okq (⟨"GonePipes", "areReadingsSo", "()Z"⟩, 13) := ⟨⟨by decide +kernel, by decide +kernel⟩, List.mem_of_getElem? (i := 21) (by decide +kernel), List.mem_of_getElem? (i := 703) (by decide +kernel), List.mem_of_getElem? (i := 704) (by decide +kernel)⟩
theorem lw_p24 : lw_okq (⟨"GonePipes$Organ", "isAt", "(II)Z"⟩, 13) := ⟨⟨by decide +kernel, by decide +kernel⟩, List.mem_of_getElem? (i := 72) (by decide +kernel), List.mem_of_getElem? (i := 718) (by decide +kernel), List.mem_of_getElem? (i := 719) (by decide +kernel)⟩
theorem lw_p25 : lw_okq (⟨"GonePipes", "tryKinds", "(II)V"⟩, 13) := ⟨⟨by decide +kernel, by decide +kernel⟩, List.mem_of_getElem? (i := 21) (by decide +kernel), List.mem_of_getElem? (i := 726) (by decide +kernel), List.mem_of_getElem? (i := 727) (by decide +kernel)⟩
theorem lw_p26 : lw_okq (⟨"GonePipes", "greaterPart", "(II)I"⟩, 13) := ⟨⟨by decide +kernel, by decide +kernel⟩, List.mem_of_getElem? (i := 21) (by decide +kernel), List.mem_of_getElem? (i := 730) (by decide +kernel), List.mem_of_getElem? (i := 731) (by decide +kernel)⟩
theorem lw_p27 : lw_okq (⟨"GonePipes", "setFraction", "(JJ)V"⟩, 13) := ⟨⟨by decide +kernel, by decide +kernel⟩, List.mem_of_getElem? (i := 21) (by decide +kernel), List.mem_of_getElem? (i := 759) (by decide +kernel), List.mem_of_getElem? (i := 760) (by decide +kernel)⟩
theorem lw_p28 : lw_okq (⟨"GonePipes", "howMany", "(I)I"⟩, 13) := ⟨⟨by decide +kernel, by decide +kernel⟩, List.mem_of_getElem? (i := 21) (by decide +kernel), List.mem_of_getElem? (i := 795) (by decide +kernel), List.mem_of_getElem? (i := 796) (by decide +kernel)⟩
theorem lw_p29 : lw_okq (⟨"GonePipesModel", "pipes", "()I"⟩, 23) := ⟨⟨by decide +kernel, by decide +kernel⟩, List.mem_of_getElem? (i := 813) (by decide +kernel), List.mem_of_getElem? (i := 893) (by decide +kernel), List.mem_of_getElem? (i := 894) (by decide +kernel)⟩
theorem lw_p30 : lw_okq (⟨"GonePipesModel", "bad", "(I)I"⟩, 23) := ⟨⟨by decide +kernel, by decide +kernel⟩, List.mem_of_getElem? (i := 813) (by decide +kernel), List.mem_of_getElem? (i := 911) (by decide +kernel), List.mem_of_getElem? (i := 912) (by decide +kernel)⟩
theorem lw_p31 : lw_okq (⟨"GonePipesModel", "places", "()I"⟩, 23) := ⟨⟨by decide +kernel, by decide +kernel⟩, List.mem_of_getElem? (i := 813) (by decide +kernel), List.mem_of_getElem? (i := 915) (by decide +kernel), List.mem_of_getElem? (i := 916) (by decide +kernel)⟩
def lw_privs_2 : List (MethodName × Nat) := [(⟨"GonePipes$Organ", "eastOf", "(I)I"⟩, 13), (⟨"GonePipes$Organ", "northOf", "(I)I"⟩, 13), (⟨"GonePipes", "tryHours", "(I)V"⟩, 13), (⟨"GonePipes$Organ", "firstOfNote", "(I)I"⟩, 13), (⟨"GonePipes$Walk", "fill", "(LGonePipes$Organ;)V"⟩, 3), (⟨"GonePipes$Walk", "leastFrom", "(LGonePipes$Organ;II)I"⟩, 3), (⟨"GonePipes", "kindsThatMayBe", "(I)I"⟩, 13), (⟨"GonePipes", "areReadingsSo", "()Z"⟩, 13), (⟨"GonePipes$Organ", "isAt", "(II)Z"⟩, 13), (⟨"GonePipes", "tryKinds", "(II)V"⟩, 13), (⟨"GonePipes", "greaterPart", "(II)I"⟩, 13), (⟨"GonePipes", "setFraction", "(JJ)V"⟩, 13), (⟨"GonePipes", "howMany", "(I)I"⟩, 13), (⟨"GonePipesModel", "pipes", "()I"⟩, 23), (⟨"GonePipesModel", "bad", "(I)I"⟩, 23), (⟨"GonePipesModel", "places", "()I"⟩, 23)]
theorem lw_r2 : ∀ q ∈ lw_privs_2, lw_okq q := List.forall_mem_cons.mpr ⟨lw_p16, List.forall_mem_cons.mpr ⟨lw_p17, List.forall_mem_cons.mpr ⟨lw_p18, List.forall_mem_cons.mpr ⟨lw_p19, List.forall_mem_cons.mpr ⟨lw_p20, List.forall_mem_cons.mpr ⟨lw_p21, List.forall_mem_cons.mpr ⟨lw_p22, List.forall_mem_cons.mpr ⟨lw_p23, List.forall_mem_cons.mpr ⟨lw_p24, List.forall_mem_cons.mpr ⟨lw_p25, List.forall_mem_cons.mpr ⟨lw_p26, List.forall_mem_cons.mpr ⟨lw_p27, List.forall_mem_cons.mpr ⟨lw_p28, List.forall_mem_cons.mpr ⟨lw_p29, List.forall_mem_cons.mpr ⟨lw_p30, List.forall_mem_cons.mpr ⟨lw_p31, fun _ h => absurd h List.not_mem_nil⟩⟩⟩⟩⟩⟩⟩⟩⟩⟩⟩⟩⟩⟩⟩⟩
theorem lw_p32 : lw_okq (⟨"GonePipesModel", "full", "()I"⟩, 23) := ⟨⟨by decide +kernel, by decide +kernel⟩, List.mem_of_getElem? (i := 813) (by decide +kernel), List.mem_of_getElem? (i := 919) (by decide +kernel), List.mem_of_getElem? (i := 920) (by decide +kernel)⟩
theorem lw_p33 : lw_okq (⟨"GonePipesModel", "notes", "(I)I"⟩, 23) := ⟨⟨by decide +kernel, by decide +kernel⟩, List.mem_of_getElem? (i := 813) (by decide +kernel), List.mem_of_getElem? (i := 943) (by decide +kernel), List.mem_of_getElem? (i := 944) (by decide +kernel)⟩
theorem lw_p34 : lw_okq (⟨"GonePipesModel", "keep", "()V"⟩, 23) := ⟨⟨by decide +kernel, by decide +kernel⟩, List.mem_of_getElem? (i := 813) (by decide +kernel), List.mem_of_getElem? (i := 956) (by decide +kernel), List.mem_of_getElem? (i := 957) (by decide +kernel)⟩
theorem lw_p35 : lw_okq (⟨"GonePipesModel", "pipeHas", "(II)I"⟩, 23) := ⟨⟨by decide +kernel, by decide +kernel⟩, List.mem_of_getElem? (i := 813) (by decide +kernel), List.mem_of_getElem? (i := 960) (by decide +kernel), List.mem_of_getElem? (i := 961) (by decide +kernel)⟩
theorem lw_p36 : lw_okq (⟨"GonePipesModel", "layHand", "()V"⟩, 23) := ⟨⟨by decide +kernel, by decide +kernel⟩, List.mem_of_getElem? (i := 813) (by decide +kernel), List.mem_of_getElem? (i := 964) (by decide +kernel), List.mem_of_getElem? (i := 965) (by decide +kernel)⟩
theorem lw_p37 : lw_okq (⟨"GonePipesModel", "placeHas", "(II)I"⟩, 23) := ⟨⟨by decide +kernel, by decide +kernel⟩, List.mem_of_getElem? (i := 813) (by decide +kernel), List.mem_of_getElem? (i := 968) (by decide +kernel), List.mem_of_getElem? (i := 969) (by decide +kernel)⟩
theorem lw_p38 : lw_okq (⟨"GonePipesModel", "goHour", "()V"⟩, 23) := ⟨⟨by decide +kernel, by decide +kernel⟩, List.mem_of_getElem? (i := 813) (by decide +kernel), List.mem_of_getElem? (i := 972) (by decide +kernel), List.mem_of_getElem? (i := 973) (by decide +kernel)⟩
theorem lw_p39 : lw_okq (⟨"GonePipesModel", "comesBack", "(I)Z"⟩, 23) := ⟨⟨by decide +kernel, by decide +kernel⟩, List.mem_of_getElem? (i := 813) (by decide +kernel), List.mem_of_getElem? (i := 976) (by decide +kernel), List.mem_of_getElem? (i := 977) (by decide +kernel)⟩
theorem lw_p40 : lw_okq (⟨"GonePipesModel", "isWished", "(I)Z"⟩, 23) := ⟨⟨by decide +kernel, by decide +kernel⟩, List.mem_of_getElem? (i := 813) (by decide +kernel), List.mem_of_getElem? (i := 980) (by decide +kernel), List.mem_of_getElem? (i := 981) (by decide +kernel)⟩
theorem lw_p41 : lw_okq (⟨"GonePipesModel", "goes", "(I)Z"⟩, 23) := ⟨⟨by decide +kernel, by decide +kernel⟩, List.mem_of_getElem? (i := 813) (by decide +kernel), List.mem_of_getElem? (i := 984) (by decide +kernel), List.mem_of_getElem? (i := 985) (by decide +kernel)⟩
theorem lw_p42 : lw_okq (⟨"GonePipesModel", "isOtherAway", "(I)Z"⟩, 23) := ⟨⟨by decide +kernel, by decide +kernel⟩, List.mem_of_getElem? (i := 813) (by decide +kernel), List.mem_of_getElem? (i := 988) (by decide +kernel), List.mem_of_getElem? (i := 989) (by decide +kernel)⟩
theorem lw_p43 : lw_okq (⟨"GonePipesModel", "isNight", "()Z"⟩, 23) := ⟨⟨by decide +kernel, by decide +kernel⟩, List.mem_of_getElem? (i := 813) (by decide +kernel), List.mem_of_getElem? (i := 992) (by decide +kernel), List.mem_of_getElem? (i := 993) (by decide +kernel)⟩
theorem lw_p44 : lw_okq (⟨"GonePipesModel", "placeFor", "(I)I"⟩, 23) := ⟨⟨by decide +kernel, by decide +kernel⟩, List.mem_of_getElem? (i := 813) (by decide +kernel), List.mem_of_getElem? (i := 996) (by decide +kernel), List.mem_of_getElem? (i := 997) (by decide +kernel)⟩
theorem lw_p45 : lw_okq (⟨"GonePipesModel", "isTaken", "(I)Z"⟩, 23) := ⟨⟨by decide +kernel, by decide +kernel⟩, List.mem_of_getElem? (i := 813) (by decide +kernel), List.mem_of_getElem? (i := 1000) (by decide +kernel), List.mem_of_getElem? (i := 1001) (by decide +kernel)⟩
theorem lw_p46 : lw_okq (⟨"GonePipesModel", "layNow", "()V"⟩, 23) := ⟨⟨by decide +kernel, by decide +kernel⟩, List.mem_of_getElem? (i := 813) (by decide +kernel), List.mem_of_getElem? (i := 1004) (by decide +kernel), List.mem_of_getElem? (i := 1005) (by decide +kernel)⟩
theorem lw_p47 : lw_okq (⟨"GonePipesModel", "inChurch", "()I"⟩, 23) := ⟨⟨by decide +kernel, by decide +kernel⟩, List.mem_of_getElem? (i := 813) (by decide +kernel), List.mem_of_getElem? (i := 1008) (by decide +kernel), List.mem_of_getElem? (i := 1009) (by decide +kernel)⟩
def lw_privs_3 : List (MethodName × Nat) := [(⟨"GonePipesModel", "full", "()I"⟩, 23), (⟨"GonePipesModel", "notes", "(I)I"⟩, 23), (⟨"GonePipesModel", "keep", "()V"⟩, 23), (⟨"GonePipesModel", "pipeHas", "(II)I"⟩, 23), (⟨"GonePipesModel", "layHand", "()V"⟩, 23), (⟨"GonePipesModel", "placeHas", "(II)I"⟩, 23), (⟨"GonePipesModel", "goHour", "()V"⟩, 23), (⟨"GonePipesModel", "comesBack", "(I)Z"⟩, 23), (⟨"GonePipesModel", "isWished", "(I)Z"⟩, 23), (⟨"GonePipesModel", "goes", "(I)Z"⟩, 23), (⟨"GonePipesModel", "isOtherAway", "(I)Z"⟩, 23), (⟨"GonePipesModel", "isNight", "()Z"⟩, 23), (⟨"GonePipesModel", "placeFor", "(I)I"⟩, 23), (⟨"GonePipesModel", "isTaken", "(I)Z"⟩, 23), (⟨"GonePipesModel", "layNow", "()V"⟩, 23), (⟨"GonePipesModel", "inChurch", "()I"⟩, 23)]
theorem lw_r3 : ∀ q ∈ lw_privs_3, lw_okq q := List.forall_mem_cons.mpr ⟨lw_p32, List.forall_mem_cons.mpr ⟨lw_p33, List.forall_mem_cons.mpr ⟨lw_p34, List.forall_mem_cons.mpr ⟨lw_p35, List.forall_mem_cons.mpr ⟨lw_p36, List.forall_mem_cons.mpr ⟨lw_p37, List.forall_mem_cons.mpr ⟨lw_p38, List.forall_mem_cons.mpr ⟨lw_p39, List.forall_mem_cons.mpr ⟨lw_p40, List.forall_mem_cons.mpr ⟨lw_p41, List.forall_mem_cons.mpr ⟨lw_p42, List.forall_mem_cons.mpr ⟨lw_p43, List.forall_mem_cons.mpr ⟨lw_p44, List.forall_mem_cons.mpr ⟨lw_p45, List.forall_mem_cons.mpr ⟨lw_p46, List.forall_mem_cons.mpr ⟨lw_p47, fun _ h => absurd h List.not_mem_nil⟩⟩⟩⟩⟩⟩⟩⟩⟩⟩⟩⟩⟩⟩⟩⟩
theorem lw_p48 : lw_okq (⟨"GonePipesModel", "isPipe", "(I)Z"⟩, 23) := ⟨⟨by decide +kernel, by decide +kernel⟩, List.mem_of_getElem? (i := 813) (by decide +kernel), List.mem_of_getElem? (i := 1019) (by decide +kernel), List.mem_of_getElem? (i := 1020) (by decide +kernel)⟩
theorem lw_p49 : lw_okq (⟨"GonePipesModel", "no", "()I"⟩, 23) := ⟨⟨by decide +kernel, by decide +kernel⟩, List.mem_of_getElem? (i := 813) (by decide +kernel), List.mem_of_getElem? (i := 1023) (by decide +kernel), List.mem_of_getElem? (i := 1024) (by decide +kernel)⟩
theorem lw_p50 : lw_okq (⟨"GonePipesModel", "isPlace", "(I)Z"⟩, 23) := ⟨⟨by decide +kernel, by decide +kernel⟩, List.mem_of_getElem? (i := 813) (by decide +kernel), List.mem_of_getElem? (i := 1040) (by decide +kernel), List.mem_of_getElem? (i := 1041) (by decide +kernel)⟩
theorem lw_p51 : lw_okq (⟨"GonePipesModel", "farOf", "(I)I"⟩, 23) := ⟨⟨by decide +kernel, by decide +kernel⟩, List.mem_of_getElem? (i := 813) (by decide +kernel), List.mem_of_getElem? (i := 1045) (by decide +kernel), List.mem_of_getElem? (i := 1046) (by decide +kernel)⟩
theorem lw_p52 : lw_okq (⟨"GonePipesModel", "goHours", "(I)V"⟩, 23) := ⟨⟨by decide +kernel, by decide +kernel⟩, List.mem_of_getElem? (i := 813) (by decide +kernel), List.mem_of_getElem? (i := 1057) (by decide +kernel), List.mem_of_getElem? (i := 1058) (by decide +kernel)⟩
theorem lw_p53 : lw_okq (⟨"GonePipesModel", "churchNow", "()I"⟩, 23) := ⟨⟨by decide +kernel, by decide +kernel⟩, List.mem_of_getElem? (i := 813) (by decide +kernel), List.mem_of_getElem? (i := 1074) (by decide +kernel), List.mem_of_getElem? (i := 1075) (by decide +kernel)⟩
theorem lw_p54 : lw_okq (⟨"GonePipesModel", "playsBy", "(III)I"⟩, 23) := ⟨⟨by decide +kernel, by decide +kernel⟩, List.mem_of_getElem? (i := 813) (by decide +kernel), List.mem_of_getElem? (i := 1078) (by decide +kernel), List.mem_of_getElem? (i := 1079) (by decide +kernel)⟩
theorem lw_p55 : lw_okq (⟨"GonePipesModel", "noteOf", "(II)I"⟩, 23) := ⟨⟨by decide +kernel, by decide +kernel⟩, List.mem_of_getElem? (i := 813) (by decide +kernel), List.mem_of_getElem? (i := 1082) (by decide +kernel), List.mem_of_getElem? (i := 1083) (by decide +kernel)⟩
theorem lw_p56 : lw_okq (⟨"GonePipesModel", "isPlayed", "(II)Z"⟩, 23) := ⟨⟨by decide +kernel, by decide +kernel⟩, List.mem_of_getElem? (i := 813) (by decide +kernel), List.mem_of_getElem? (i := 1086) (by decide +kernel), List.mem_of_getElem? (i := 1087) (by decide +kernel)⟩
theorem lw_p57 : lw_okq (⟨"GonePipesModel", "isWhole", "(II)Z"⟩, 23) := ⟨⟨by decide +kernel, by decide +kernel⟩, List.mem_of_getElem? (i := 813) (by decide +kernel), List.mem_of_getElem? (i := 1102) (by decide +kernel), List.mem_of_getElem? (i := 1103) (by decide +kernel)⟩
theorem lw_p58 : lw_okq (⟨"GonePipesModel", "layWalk", "(I)V"⟩, 23) := ⟨⟨by decide +kernel, by decide +kernel⟩, List.mem_of_getElem? (i := 813) (by decide +kernel), List.mem_of_getElem? (i := 1114) (by decide +kernel), List.mem_of_getElem? (i := 1115) (by decide +kernel)⟩
theorem lw_p59 : lw_okq (⟨"GonePipesModel", "longOf", "(I)I"⟩, 23) := ⟨⟨by decide +kernel, by decide +kernel⟩, List.mem_of_getElem? (i := 813) (by decide +kernel), List.mem_of_getElem? (i := 1119) (by decide +kernel), List.mem_of_getElem? (i := 1120) (by decide +kernel)⟩
theorem lw_p60 : lw_okq (⟨"GonePipesModel", "between", "(II)I"⟩, 23) := ⟨⟨by decide +kernel, by decide +kernel⟩, List.mem_of_getElem? (i := 813) (by decide +kernel), List.mem_of_getElem? (i := 1123) (by decide +kernel), List.mem_of_getElem? (i := 1124) (by decide +kernel)⟩
theorem lw_p61 : lw_okq (⟨"GonePipesModel", "nextOrder", "(I)Z"⟩, 23) := ⟨⟨by decide +kernel, by decide +kernel⟩, List.mem_of_getElem? (i := 813) (by decide +kernel), List.mem_of_getElem? (i := 1130) (by decide +kernel), List.mem_of_getElem? (i := 1131) (by decide +kernel)⟩
theorem lw_p62 : lw_okq (⟨"GonePipesModel", "kindsOf", "(I)I"⟩, 23) := ⟨⟨by decide +kernel, by decide +kernel⟩, List.mem_of_getElem? (i := 813) (by decide +kernel), List.mem_of_getElem? (i := 1146) (by decide +kernel), List.mem_of_getElem? (i := 1147) (by decide +kernel)⟩
theorem lw_p63 : lw_okq (⟨"GonePipesModel", "mayBe", "(II)Z"⟩, 23) := ⟨⟨by decide +kernel, by decide +kernel⟩, List.mem_of_getElem? (i := 813) (by decide +kernel), List.mem_of_getElem? (i := 1150) (by decide +kernel), List.mem_of_getElem? (i := 1151) (by decide +kernel)⟩
def lw_privs_4 : List (MethodName × Nat) := [(⟨"GonePipesModel", "isPipe", "(I)Z"⟩, 23), (⟨"GonePipesModel", "no", "()I"⟩, 23), (⟨"GonePipesModel", "isPlace", "(I)Z"⟩, 23), (⟨"GonePipesModel", "farOf", "(I)I"⟩, 23), (⟨"GonePipesModel", "goHours", "(I)V"⟩, 23), (⟨"GonePipesModel", "churchNow", "()I"⟩, 23), (⟨"GonePipesModel", "playsBy", "(III)I"⟩, 23), (⟨"GonePipesModel", "noteOf", "(II)I"⟩, 23), (⟨"GonePipesModel", "isPlayed", "(II)Z"⟩, 23), (⟨"GonePipesModel", "isWhole", "(II)Z"⟩, 23), (⟨"GonePipesModel", "layWalk", "(I)V"⟩, 23), (⟨"GonePipesModel", "longOf", "(I)I"⟩, 23), (⟨"GonePipesModel", "between", "(II)I"⟩, 23), (⟨"GonePipesModel", "nextOrder", "(I)Z"⟩, 23), (⟨"GonePipesModel", "kindsOf", "(I)I"⟩, 23), (⟨"GonePipesModel", "mayBe", "(II)Z"⟩, 23)]
theorem lw_r4 : ∀ q ∈ lw_privs_4, lw_okq q := List.forall_mem_cons.mpr ⟨lw_p48, List.forall_mem_cons.mpr ⟨lw_p49, List.forall_mem_cons.mpr ⟨lw_p50, List.forall_mem_cons.mpr ⟨lw_p51, List.forall_mem_cons.mpr ⟨lw_p52, List.forall_mem_cons.mpr ⟨lw_p53, List.forall_mem_cons.mpr ⟨lw_p54, List.forall_mem_cons.mpr ⟨lw_p55, List.forall_mem_cons.mpr ⟨lw_p56, List.forall_mem_cons.mpr ⟨lw_p57, List.forall_mem_cons.mpr ⟨lw_p58, List.forall_mem_cons.mpr ⟨lw_p59, List.forall_mem_cons.mpr ⟨lw_p60, List.forall_mem_cons.mpr ⟨lw_p61, List.forall_mem_cons.mpr ⟨lw_p62, List.forall_mem_cons.mpr ⟨lw_p63, fun _ h => absurd h List.not_mem_nil⟩⟩⟩⟩⟩⟩⟩⟩⟩⟩⟩⟩⟩⟩⟩⟩
theorem lw_p64 : lw_okq (⟨"GonePipesModel", "isReadSo", "(I)Z"⟩, 23) := ⟨⟨by decide +kernel, by decide +kernel⟩, List.mem_of_getElem? (i := 813) (by decide +kernel), List.mem_of_getElem? (i := 1154) (by decide +kernel), List.mem_of_getElem? (i := 1155) (by decide +kernel)⟩
theorem lw_p65 : lw_okq (⟨"GonePipesModel", "fraction", "(JJ)V"⟩, 23) := ⟨⟨by decide +kernel, by decide +kernel⟩, List.mem_of_getElem? (i := 813) (by decide +kernel), List.mem_of_getElem? (i := 1171) (by decide +kernel), List.mem_of_getElem? (i := 1172) (by decide +kernel)⟩
theorem lw_p66 : lw_okq (⟨"GonePipesModel", "lookAt", "(I)V"⟩, 23) := ⟨⟨by decide +kernel, by decide +kernel⟩, List.mem_of_getElem? (i := 813) (by decide +kernel), List.mem_of_getElem? (i := 1198) (by decide +kernel), List.mem_of_getElem? (i := 1199) (by decide +kernel)⟩
theorem lw_p67 : lw_okq (⟨"GonePipesModel", "isCalled", "(IIIIII)Z"⟩, 23) := ⟨⟨by decide +kernel, by decide +kernel⟩, List.mem_of_getElem? (i := 813) (by decide +kernel), List.mem_of_getElem? (i := 1211) (by decide +kernel), List.mem_of_getElem? (i := 1212) (by decide +kernel)⟩
theorem lw_p68 : lw_okq (⟨"GonePipesModel", "goBehind", "()V"⟩, 23) := ⟨⟨by decide +kernel, by decide +kernel⟩, List.mem_of_getElem? (i := 813) (by decide +kernel), List.mem_of_getElem? (i := 1215) (by decide +kernel), List.mem_of_getElem? (i := 1216) (by decide +kernel)⟩
theorem lw_p69 : lw_okq (⟨"GonePipesModel", "takesItem", "()Z"⟩, 23) := ⟨⟨by decide +kernel, by decide +kernel⟩, List.mem_of_getElem? (i := 813) (by decide +kernel), List.mem_of_getElem? (i := 1219) (by decide +kernel), List.mem_of_getElem? (i := 1220) (by decide +kernel)⟩
theorem lw_p70 : lw_okq (⟨"GonePipesModel", "takesPlace", "()Z"⟩, 23) := ⟨⟨by decide +kernel, by decide +kernel⟩, List.mem_of_getElem? (i := 813) (by decide +kernel), List.mem_of_getElem? (i := 1223) (by decide +kernel), List.mem_of_getElem? (i := 1224) (by decide +kernel)⟩
theorem lw_p71 : lw_okq (⟨"GonePipesModel", "takes", "(III)Z"⟩, 23) := ⟨⟨by decide +kernel, by decide +kernel⟩, List.mem_of_getElem? (i := 813) (by decide +kernel), List.mem_of_getElem? (i := 1227) (by decide +kernel), List.mem_of_getElem? (i := 1228) (by decide +kernel)⟩
theorem lw_p72 : lw_okq (⟨"GonePipesModel", "takesPipe", "()Z"⟩, 23) := ⟨⟨by decide +kernel, by decide +kernel⟩, List.mem_of_getElem? (i := 813) (by decide +kernel), List.mem_of_getElem? (i := 1231) (by decide +kernel), List.mem_of_getElem? (i := 1232) (by decide +kernel)⟩
theorem lw_p73 : lw_okq (⟨"GonePipesModel", "takesHymn", "()Z"⟩, 23) := ⟨⟨by decide +kernel, by decide +kernel⟩, List.mem_of_getElem? (i := 813) (by decide +kernel), List.mem_of_getElem? (i := 1235) (by decide +kernel), List.mem_of_getElem? (i := 1236) (by decide +kernel)⟩
theorem lw_p74 : lw_okq (⟨"GonePipesModel", "counted", "(I)I"⟩, 23) := ⟨⟨by decide +kernel, by decide +kernel⟩, List.mem_of_getElem? (i := 813) (by decide +kernel), List.mem_of_getElem? (i := 1259) (by decide +kernel), List.mem_of_getElem? (i := 1260) (by decide +kernel)⟩
theorem lw_p75 : lw_okq (⟨"GonePipesModel", "sums", "(JII)J"⟩, 23) := ⟨⟨by decide +kernel, by decide +kernel⟩, List.mem_of_getElem? (i := 813) (by decide +kernel), List.mem_of_getElem? (i := 1269) (by decide +kernel), List.mem_of_getElem? (i := 1270) (by decide +kernel)⟩
def lw_privs_5 : List (MethodName × Nat) := [(⟨"GonePipesModel", "isReadSo", "(I)Z"⟩, 23), (⟨"GonePipesModel", "fraction", "(JJ)V"⟩, 23), (⟨"GonePipesModel", "lookAt", "(I)V"⟩, 23), (⟨"GonePipesModel", "isCalled", "(IIIIII)Z"⟩, 23), (⟨"GonePipesModel", "goBehind", "()V"⟩, 23), (⟨"GonePipesModel", "takesItem", "()Z"⟩, 23), (⟨"GonePipesModel", "takesPlace", "()Z"⟩, 23), (⟨"GonePipesModel", "takes", "(III)Z"⟩, 23), (⟨"GonePipesModel", "takesPipe", "()Z"⟩, 23), (⟨"GonePipesModel", "takesHymn", "()Z"⟩, 23), (⟨"GonePipesModel", "counted", "(I)I"⟩, 23), (⟨"GonePipesModel", "sums", "(JII)J"⟩, 23)]
theorem lw_r5 : ∀ q ∈ lw_privs_5, lw_okq q := List.forall_mem_cons.mpr ⟨lw_p64, List.forall_mem_cons.mpr ⟨lw_p65, List.forall_mem_cons.mpr ⟨lw_p66, List.forall_mem_cons.mpr ⟨lw_p67, List.forall_mem_cons.mpr ⟨lw_p68, List.forall_mem_cons.mpr ⟨lw_p69, List.forall_mem_cons.mpr ⟨lw_p70, List.forall_mem_cons.mpr ⟨lw_p71, List.forall_mem_cons.mpr ⟨lw_p72, List.forall_mem_cons.mpr ⟨lw_p73, List.forall_mem_cons.mpr ⟨lw_p74, List.forall_mem_cons.mpr ⟨lw_p75, fun _ h => absurd h List.not_mem_nil⟩⟩⟩⟩⟩⟩⟩⟩⟩⟩⟩⟩
def lw_privs : List (MethodName × Nat) := lw_privs_1 ++ (lw_privs_2 ++ (lw_privs_3 ++ (lw_privs_4 ++ (lw_privs_5))))
def lw_tbl : List Cond := k2_sels lw_privs ++ tables_1
theorem lw_privs_ok : ∀ q ∈ lw_privs, lw_okq q := by
  show ∀ q ∈ lw_privs_1 ++ (lw_privs_2 ++ (lw_privs_3 ++ (lw_privs_4 ++ (lw_privs_5)))), lw_okq q
  exact List.forall_mem_append.mpr ⟨lw_r1, List.forall_mem_append.mpr ⟨lw_r2, List.forall_mem_append.mpr ⟨lw_r3, List.forall_mem_append.mpr ⟨lw_r4, lw_r5⟩⟩⟩⟩
end
section
def RX0 : String := "GonePipes$Bourdon"
def TX0 : u_T := fun k => match k with
  | _ => ("", "", "", false)
def tyX0 : Nat → FieldType := fun k => match k with
  | _ => .int
abbrev wsX00 : List Cond := u_ws RX0 TX0 0
theorem nmX0 : ∀ a, a < 0 → ∀ b, b < 0 → a ≠ b → (TX0 a).2.1 ≠ (TX0 b).2.1 := by decide +kernel
theorem tyX0_ok : ∀ k, k < 0 → parseFieldDescriptor (TX0 k).2.2.1 = some (tyX0 k) := by decide +kernel
abbrev cX0_init : ByteArray := prog_2_method_1_code
def yX0_init : MethodName := ⟨RX0, "<init>", "()V"⟩
abbrev cX0_mayGo : ByteArray := prog_2_method_2_code
def yX0_mayGo : MethodName := ⟨RX0, "mayGo", "(LGonePipes$Organ;I)Z"⟩
def RX1 : String := "GonePipes$Flute"
def TX1 : u_T := fun k => match k with
  | _ => ("", "", "", false)
def tyX1 : Nat → FieldType := fun k => match k with
  | _ => .int
abbrev wsX10 : List Cond := u_ws RX1 TX1 0
theorem nmX1 : ∀ a, a < 0 → ∀ b, b < 0 → a ≠ b → (TX1 a).2.1 ≠ (TX1 b).2.1 := by decide +kernel
theorem tyX1_ok : ∀ k, k < 0 → parseFieldDescriptor (TX1 k).2.2.1 = some (tyX1 k) := by decide +kernel
abbrev cX1_init : ByteArray := prog_3_method_1_code
def yX1_init : MethodName := ⟨RX1, "<init>", "()V"⟩
abbrev cX1_mayGo : ByteArray := prog_3_method_2_code
def yX1_mayGo : MethodName := ⟨RX1, "mayGo", "(LGonePipes$Organ;I)Z"⟩
def RX2 : String := "GonePipes$Homesick"
def TX2 : u_T := fun k => match k with
  | _ => ("", "", "", false)
def tyX2 : Nat → FieldType := fun k => match k with
  | _ => .int
abbrev wsX20 : List Cond := u_ws RX2 TX2 0
theorem nmX2 : ∀ a, a < 0 → ∀ b, b < 0 → a ≠ b → (TX2 a).2.1 ≠ (TX2 b).2.1 := by decide +kernel
theorem tyX2_ok : ∀ k, k < 0 → parseFieldDescriptor (TX2 k).2.2.1 = some (tyX2 k) := by decide +kernel
abbrev cX2_init : ByteArray := prog_4_method_1_code
def yX2_init : MethodName := ⟨RX2, "<init>", "()V"⟩
abbrev cX2_comesBack : ByteArray := prog_4_method_2_code
def yX2_comesBack : MethodName := ⟨RX2, "comesBack", "(LGonePipes$Organ;I)Z"⟩
def RX3 : String := "GonePipes$NightFlute"
def TX3 : u_T := fun k => match k with
  | _ => ("", "", "", false)
def tyX3 : Nat → FieldType := fun k => match k with
  | _ => .int
abbrev wsX30 : List Cond := u_ws RX3 TX3 0
theorem nmX3 : ∀ a, a < 0 → ∀ b, b < 0 → a ≠ b → (TX3 a).2.1 ≠ (TX3 b).2.1 := by decide +kernel
theorem tyX3_ok : ∀ k, k < 0 → parseFieldDescriptor (TX3 k).2.2.1 = some (tyX3 k) := by decide +kernel
abbrev cX3_init : ByteArray := prog_5_method_1_code
def yX3_init : MethodName := ⟨RX3, "<init>", "()V"⟩
abbrev cX3_mayGo : ByteArray := prog_5_method_2_code
def yX3_mayGo : MethodName := ⟨RX3, "mayGo", "(LGonePipes$Organ;I)Z"⟩
abbrev cX3_comesBack : ByteArray := prog_5_method_3_code
def yX3_comesBack : MethodName := ⟨RX3, "comesBack", "(LGonePipes$Organ;I)Z"⟩
def RX4 : String := "GonePipes$Organ"
def TX4 : u_T := fun k => match k with
  | 0 => ("GonePipes$Organ", "hour", "I", false)
  | 1 => ("GonePipes$Organ", "places", "I", false)
  | 2 => ("GonePipes$Organ", "pipes", "I", false)
  | 3 => ("GonePipes$Organ", "readings", "I", false)
  | 4 => ("GonePipes$Organ", "placeRows", "[I", true)
  | 5 => ("GonePipes$Organ", "kind", "[I", true)
  | 6 => ("GonePipes$Organ", "note", "[I", true)
  | 7 => ("GonePipes$Organ", "where", "[I", true)
  | 8 => ("GonePipes$Organ", "away", "[I", true)
  | 9 => ("GonePipes$Organ", "hymnCounts", "[I", true)
  | 10 => ("GonePipes$Organ", "hymnRows", "[I", true)
  | 11 => ("GonePipes$Organ", "readingRows", "[I", true)
  | _ => ("GonePipes$Organ", "past", "LGonePipes$Past;", true)
def tyX4 : Nat → FieldType := fun k => match k with
  | 0 => .int
  | 1 => .int
  | 2 => .int
  | 3 => .int
  | 4 => .array .int
  | 5 => .array .int
  | 6 => .array .int
  | 7 => .array .int
  | 8 => .array .int
  | 9 => .array .int
  | 10 => .array .int
  | 11 => .array .int
  | _ => .object "GonePipes$Past"
abbrev wsX40 : List Cond := u_ws RX4 TX4 13
theorem nmX4 : ∀ a, a < 13 → ∀ b, b < 13 → a ≠ b → (TX4 a).2.1 ≠ (TX4 b).2.1 := by decide +kernel
theorem tyX4_ok : ∀ k, k < 13 → parseFieldDescriptor (TX4 k).2.2.1 = some (tyX4 k) := by decide +kernel
abbrev cX4_init : ByteArray := prog_6_method_1_code
def yX4_init : MethodName := ⟨RX4, "<init>", "()V"⟩
abbrev cX4_reset : ByteArray := prog_6_method_2_code
def yX4_reset : MethodName := ⟨RX4, "reset", "()V"⟩
abbrev cX4_takeStage : ByteArray := prog_6_method_3_code
def yX4_takeStage : MethodName := ⟨RX4, "takeStage", "(LGonePipes$Organ;)V"⟩
abbrev cX4_takeAll : ByteArray := prog_6_method_4_code
def yX4_takeAll : MethodName := ⟨RX4, "takeAll", "(LGonePipes$Organ;)V"⟩
abbrev cX4_addPlace : ByteArray := prog_6_method_5_code
def yX4_addPlace : MethodName := ⟨RX4, "addPlace", "(IIIII)Z"⟩
abbrev cX4_addPipe : ByteArray := prog_6_method_6_code
def yX4_addPipe : MethodName := ⟨RX4, "addPipe", "(II)Z"⟩
abbrev cX4_addNote : ByteArray := prog_6_method_7_code
def yX4_addNote : MethodName := ⟨RX4, "addNote", "(II)Z"⟩
abbrev cX4_emptyHymn : ByteArray := prog_6_method_8_code
def yX4_emptyHymn : MethodName := ⟨RX4, "emptyHymn", "(I)V"⟩
abbrev cX4_addReading : ByteArray := prog_6_method_9_code
def yX4_addReading : MethodName := ⟨RX4, "addReading", "(IIII)Z"⟩
abbrev cX4_bringHome : ByteArray := prog_6_method_10_code
def yX4_bringHome : MethodName := ⟨RX4, "bringHome", "(I)V"⟩
abbrev cX4_letHourGoBy : ByteArray := prog_6_method_11_code
def yX4_letHourGoBy : MethodName := ⟨RX4, "letHourGoBy", "([LGonePipes$Plain;)V"⟩
abbrev cX4_sendOut : ByteArray := prog_6_method_12_code
def yX4_sendOut : MethodName := ⟨RX4, "sendOut", "(I)V"⟩
abbrev cX4_wouldGo : ByteArray := prog_6_method_13_code
def yX4_wouldGo : MethodName := ⟨RX4, "wouldGo", "(I[LGonePipes$Plain;)Z"⟩
abbrev cX4_ruleOf : ByteArray := prog_6_method_14_code
def yX4_ruleOf : MethodName := ⟨RX4, "ruleOf", "(I[LGonePipes$Plain;)LGonePipes$Plain;"⟩
abbrev cX4_isNight : ByteArray := prog_6_method_15_code
def yX4_isNight : MethodName := ⟨RX4, "isNight", "()Z"⟩
abbrev cX4_isWished : ByteArray := prog_6_method_16_code
def yX4_isWished : MethodName := ⟨RX4, "isWished", "(I)Z"⟩
abbrev cX4_toneWishedAt : ByteArray := prog_6_method_17_code
def yX4_toneWishedAt : MethodName := ⟨RX4, "toneWishedAt", "(I)I"⟩
abbrev cX4_wishTone : ByteArray := prog_6_method_18_code
def yX4_wishTone : MethodName := ⟨RX4, "wishTone", "(II)V"⟩
abbrev cX4_isAnotherAway : ByteArray := prog_6_method_19_code
def yX4_isAnotherAway : MethodName := ⟨RX4, "isAnotherAway", "(I)Z"⟩
abbrev cX4_howManyAway : ByteArray := prog_6_method_20_code
def yX4_howManyAway : MethodName := ⟨RX4, "howManyAway", "()I"⟩
abbrev cX4_howManyAwayOf : ByteArray := prog_6_method_21_code
def yX4_howManyAwayOf : MethodName := ⟨RX4, "howManyAwayOf", "(I)I"⟩
abbrev cX4_pipesAt : ByteArray := prog_6_method_22_code
def yX4_pipesAt : MethodName := ⟨RX4, "pipesAt", "(I)I"⟩
abbrev cX4_placesOf : ByteArray := prog_6_method_23_code
def yX4_placesOf : MethodName := ⟨RX4, "placesOf", "(I)I"⟩
abbrev cX4_howFar : ByteArray := prog_6_method_24_code
def yX4_howFar : MethodName := ⟨RX4, "howFar", "(II)I"⟩
abbrev cX4_eastOf : ByteArray := prog_6_method_25_code
def yX4_eastOf : MethodName := ⟨RX4, "eastOf", "(I)I"⟩
abbrev cX4_northOf : ByteArray := prog_6_method_26_code
def yX4_northOf : MethodName := ⟨RX4, "northOf", "(I)I"⟩
abbrev cX4_notesInChurch : ByteArray := prog_6_method_27_code
def yX4_notesInChurch : MethodName := ⟨RX4, "notesInChurch", "()J"⟩
abbrev cX4_hymnNote : ByteArray := prog_6_method_28_code
def yX4_hymnNote : MethodName := ⟨RX4, "hymnNote", "(II)I"⟩
abbrev cX4_isFirstOfItsNote : ByteArray := prog_6_method_29_code
def yX4_isFirstOfItsNote : MethodName := ⟨RX4, "isFirstOfItsNote", "(II)Z"⟩
abbrev cX4_howManyPlayed : ByteArray := prog_6_method_30_code
def yX4_howManyPlayed : MethodName := ⟨RX4, "howManyPlayed", "(IIJ)I"⟩
abbrev cX4_canBeWhole : ByteArray := prog_6_method_31_code
def yX4_canBeWhole : MethodName := ⟨RX4, "canBeWhole", "(IJ)Z"⟩
abbrev cX4_pipesToFetch : ByteArray := prog_6_method_32_code
def yX4_pipesToFetch : MethodName := ⟨RX4, "pipesToFetch", "(IIJ)I"⟩
abbrev cX4_firstOfNote : ByteArray := prog_6_method_33_code
def yX4_firstOfNote : MethodName := ⟨RX4, "firstOfNote", "(I)I"⟩
abbrev cX4_lastReadingHour : ByteArray := prog_6_method_34_code
def yX4_lastReadingHour : MethodName := ⟨RX4, "lastReadingHour", "()I"⟩
abbrev cX4_agreesWith : ByteArray := prog_6_method_35_code
def yX4_agreesWith : MethodName := ⟨RX4, "agreesWith", "(LGonePipes$Organ;I)Z"⟩
abbrev cX4_isAt : ByteArray := prog_6_method_36_code
def yX4_isAt : MethodName := ⟨RX4, "isAt", "(II)Z"⟩
abbrev cX4_digestOn : ByteArray := prog_6_method_37_code
def yX4_digestOn : MethodName := ⟨RX4, "digestOn", "(J)J"⟩
abbrev cX4_digestRow : ByteArray := prog_6_method_38_code
def yX4_digestRow : MethodName := ⟨RX4, "digestRow", "(J[III)J"⟩
def RX5 : String := "GonePipes$Past"
def TX5 : u_T := fun k => match k with
  | 0 => ("GonePipes$Past", "count", "I", false)
  | 1 => ("GonePipes$Past", "oldest", "I", false)
  | _ => ("GonePipes$Past", "rows", "[I", true)
def tyX5 : Nat → FieldType := fun k => match k with
  | 0 => .int
  | 1 => .int
  | _ => .array .int
abbrev wsX50 : List Cond := u_ws RX5 TX5 3
theorem nmX5 : ∀ a, a < 3 → ∀ b, b < 3 → a ≠ b → (TX5 a).2.1 ≠ (TX5 b).2.1 := by decide +kernel
theorem tyX5_ok : ∀ k, k < 3 → parseFieldDescriptor (TX5 k).2.2.1 = some (tyX5 k) := by decide +kernel
abbrev cX5_init : ByteArray := prog_7_method_1_code
def yX5_init : MethodName := ⟨RX5, "<init>", "()V"⟩
abbrev cX5_reset : ByteArray := prog_7_method_2_code
def yX5_reset : MethodName := ⟨RX5, "reset", "()V"⟩
abbrev cX5_takeOver : ByteArray := prog_7_method_3_code
def yX5_takeOver : MethodName := ⟨RX5, "takeOver", "(LGonePipes$Past;)V"⟩
abbrev cX5_keep : ByteArray := prog_7_method_4_code
def yX5_keep : MethodName := ⟨RX5, "keep", "(LGonePipes$Organ;)V"⟩
abbrev cX5_giveBack : ByteArray := prog_7_method_5_code
def yX5_giveBack : MethodName := ⟨RX5, "giveBack", "(LGonePipes$Organ;)Z"⟩
def RX6 : String := "GonePipes$Plain"
def TX6 : u_T := fun k => match k with
  | _ => ("", "", "", false)
def tyX6 : Nat → FieldType := fun k => match k with
  | _ => .int
abbrev wsX60 : List Cond := u_ws RX6 TX6 0
theorem nmX6 : ∀ a, a < 0 → ∀ b, b < 0 → a ≠ b → (TX6 a).2.1 ≠ (TX6 b).2.1 := by decide +kernel
theorem tyX6_ok : ∀ k, k < 0 → parseFieldDescriptor (TX6 k).2.2.1 = some (tyX6 k) := by decide +kernel
abbrev cX6_init : ByteArray := prog_8_method_1_code
def yX6_init : MethodName := ⟨RX6, "<init>", "()V"⟩
abbrev cX6_mayGo : ByteArray := prog_8_method_2_code
def yX6_mayGo : MethodName := ⟨RX6, "mayGo", "(LGonePipes$Organ;I)Z"⟩
abbrev cX6_comesBack : ByteArray := prog_8_method_3_code
def yX6_comesBack : MethodName := ⟨RX6, "comesBack", "(LGonePipes$Organ;I)Z"⟩
def RX7 : String := "GonePipes$Reed"
def TX7 : u_T := fun k => match k with
  | _ => ("", "", "", false)
def tyX7 : Nat → FieldType := fun k => match k with
  | _ => .int
abbrev wsX70 : List Cond := u_ws RX7 TX7 0
theorem nmX7 : ∀ a, a < 0 → ∀ b, b < 0 → a ≠ b → (TX7 a).2.1 ≠ (TX7 b).2.1 := by decide +kernel
theorem tyX7_ok : ∀ k, k < 0 → parseFieldDescriptor (TX7 k).2.2.1 = some (tyX7 k) := by decide +kernel
abbrev cX7_init : ByteArray := prog_9_method_1_code
def yX7_init : MethodName := ⟨RX7, "<init>", "()V"⟩
abbrev cX7_comesBack : ByteArray := prog_9_method_2_code
def yX7_comesBack : MethodName := ⟨RX7, "comesBack", "(LGonePipes$Organ;I)Z"⟩
def RX8 : String := "GonePipes$Text"
def TX8 : u_T := fun k => match k with
  | 0 => ("GonePipes$Text", "count", "I", false)
  | 1 => ("GonePipes$Text", "bytes", "[B", true)
  | 2 => ("GonePipes$Text", "row", "[I", true)
  | 3 => ("GonePipes$Text", "sort", "I", false)
  | 4 => ("GonePipes$Text", "start", "I", false)
  | 5 => ("GonePipes$Text", "next", "I", false)
  | _ => ("GonePipes$Text", "value", "I", false)
def tyX8 : Nat → FieldType := fun k => match k with
  | 0 => .int
  | 1 => .array .byte
  | 2 => .array .int
  | 3 => .int
  | 4 => .int
  | 5 => .int
  | _ => .int
abbrev wsX80 : List Cond := u_ws RX8 TX8 7
theorem nmX8 : ∀ a, a < 7 → ∀ b, b < 7 → a ≠ b → (TX8 a).2.1 ≠ (TX8 b).2.1 := by decide +kernel
theorem tyX8_ok : ∀ k, k < 7 → parseFieldDescriptor (TX8 k).2.2.1 = some (tyX8 k) := by decide +kernel
abbrev cX8_init : ByteArray := prog_10_method_1_code
def yX8_init : MethodName := ⟨RX8, "<init>", "()V"⟩
abbrev cX8_add : ByteArray := prog_10_method_2_code
def yX8_add : MethodName := ⟨RX8, "add", "(I)Z"⟩
abbrev cX8_readInto : ByteArray := prog_10_method_3_code
def yX8_readInto : MethodName := ⟨RX8, "readInto", "(LGonePipes$Organ;)I"⟩
abbrev cX8_readItem : ByteArray := prog_10_method_4_code
def yX8_readItem : MethodName := ⟨RX8, "readItem", "(LGonePipes$Organ;)Z"⟩
abbrev cX8_readPlace : ByteArray := prog_10_method_5_code
def yX8_readPlace : MethodName := ⟨RX8, "readPlace", "(LGonePipes$Organ;)Z"⟩
abbrev cX8_readPipe : ByteArray := prog_10_method_6_code
def yX8_readPipe : MethodName := ⟨RX8, "readPipe", "(LGonePipes$Organ;)Z"⟩
abbrev cX8_readHymn : ByteArray := prog_10_method_7_code
def yX8_readHymn : MethodName := ⟨RX8, "readHymn", "(LGonePipes$Organ;)Z"⟩
abbrev cX8_readNumber : ByteArray := prog_10_method_8_code
def yX8_readNumber : MethodName := ⟨RX8, "readNumber", "(II)Z"⟩
abbrev cX8_stepTo : ByteArray := prog_10_method_9_code
def yX8_stepTo : MethodName := ⟨RX8, "stepTo", "(I)Z"⟩
abbrev cX8_step : ByteArray := prog_10_method_10_code
def yX8_step : MethodName := ⟨RX8, "step", "()V"⟩
abbrev cX8_isWord : ByteArray := prog_10_method_11_code
def yX8_isWord : MethodName := ⟨RX8, "isWord", "(Ljava/lang/String;)Z"⟩
abbrev cX8_isLetter : ByteArray := prog_10_method_12_code
def yX8_isLetter : MethodName := ⟨RX8, "isLetter", "(I)Z"⟩
abbrev cX8_isFigure : ByteArray := prog_10_method_13_code
def yX8_isFigure : MethodName := ⟨RX8, "isFigure", "(I)Z"⟩
def RX9 : String := "GonePipes$Walk"
def TX9 : u_T := fun k => match k with
  | 0 => ("GonePipes$Walk", "length", "I", false)
  | 1 => ("GonePipes$Walk", "first", "I", false)
  | _ => ("GonePipes$Walk", "rest", "[I", true)
def tyX9 : Nat → FieldType := fun k => match k with
  | 0 => .int
  | 1 => .int
  | _ => .array .int
abbrev wsX90 : List Cond := u_ws RX9 TX9 3
theorem nmX9 : ∀ a, a < 3 → ∀ b, b < 3 → a ≠ b → (TX9 a).2.1 ≠ (TX9 b).2.1 := by decide +kernel
theorem tyX9_ok : ∀ k, k < 3 → parseFieldDescriptor (TX9 k).2.2.1 = some (tyX9 k) := by decide +kernel
abbrev cX9_init : ByteArray := prog_11_method_1_code
def yX9_init : MethodName := ⟨RX9, "<init>", "()V"⟩
abbrev cX9_find : ByteArray := prog_11_method_2_code
def yX9_find : MethodName := ⟨RX9, "find", "(LGonePipes$Organ;I)V"⟩
abbrev cX9_fill : ByteArray := prog_11_method_3_code
def yX9_fill : MethodName := ⟨RX9, "fill", "(LGonePipes$Organ;)V"⟩
abbrev cX9_leastFrom : ByteArray := prog_11_method_4_code
def yX9_leastFrom : MethodName := ⟨RX9, "leastFrom", "(LGonePipes$Organ;II)I"⟩
def RX10 : String := "GonePipes"
def TX10 : u_T := fun k => match k with
  | 0 => ("GonePipes", "kinds", "[LGonePipes$Plain;", true)
  | 1 => ("GonePipes", "now", "LGonePipes$Organ;", true)
  | 2 => ("GonePipes", "trial", "LGonePipes$Organ;", true)
  | 3 => ("GonePipes", "images", "[LGonePipes$Organ;", true)
  | 4 => ("GonePipes", "kept", "[Z", true)
  | 5 => ("GonePipes", "text", "LGonePipes$Text;", true)
  | 6 => ("GonePipes", "way", "LGonePipes$Walk;", true)
  | 7 => ("GonePipes", "whereByKind", "[I", true)
  | 8 => ("GonePipes", "above", "J", false)
  | 9 => ("GonePipes", "below", "J", false)
  | 10 => ("GonePipes", "refusedBad", "I", false)
  | 11 => ("GonePipes", "refusedNo", "I", false)
  | _ => ("GonePipes", "refusedFull", "I", false)
def tyX10 : Nat → FieldType := fun k => match k with
  | 0 => .array (.object "GonePipes$Plain")
  | 1 => .object "GonePipes$Organ"
  | 2 => .object "GonePipes$Organ"
  | 3 => .array (.object "GonePipes$Organ")
  | 4 => .array .boolean
  | 5 => .object "GonePipes$Text"
  | 6 => .object "GonePipes$Walk"
  | 7 => .array .int
  | 8 => .long
  | 9 => .long
  | 10 => .int
  | 11 => .int
  | _ => .int
abbrev wsX100 : List Cond := u_ws RX10 TX10 13
theorem nmX10 : ∀ a, a < 13 → ∀ b, b < 13 → a ≠ b → (TX10 a).2.1 ≠ (TX10 b).2.1 := by decide +kernel
theorem tyX10_ok : ∀ k, k < 13 → parseFieldDescriptor (TX10 k).2.2.1 = some (tyX10 k) := by decide +kernel
abbrev cX10_init : ByteArray := prog_1_method_1_code
def yX10_init : MethodName := ⟨RX10, "<init>", "()V"⟩
abbrev cX10_organ : ByteArray := prog_1_method_2_code
def yX10_organ : MethodName := ⟨RX10, "organ", "()I"⟩
abbrev cX10_place : ByteArray := prog_1_method_3_code
def yX10_place : MethodName := ⟨RX10, "place", "(IIIII)I"⟩
abbrev cX10_pipe : ByteArray := prog_1_method_4_code
def yX10_pipe : MethodName := ⟨RX10, "pipe", "(II)I"⟩
abbrev cX10_note : ByteArray := prog_1_method_5_code
def yX10_note : MethodName := ⟨RX10, "note", "(II)I"⟩
abbrev cX10_hush : ByteArray := prog_1_method_6_code
def yX10_hush : MethodName := ⟨RX10, "hush", "(I)I"⟩
abbrev cX10_type : ByteArray := prog_1_method_7_code
def yX10_type : MethodName := ⟨RX10, "type", "(I)I"⟩
abbrev cX10_clear : ByteArray := prog_1_method_8_code
def yX10_clear : MethodName := ⟨RX10, "clear", "()I"⟩
abbrev cX10_read : ByteArray := prog_1_method_9_code
def yX10_read : MethodName := ⟨RX10, "read", "()I"⟩
abbrev cX10_pass : ByteArray := prog_1_method_10_code
def yX10_pass : MethodName := ⟨RX10, "pass", "(I)I"⟩
abbrev cX10_fetch : ByteArray := prog_1_method_11_code
def yX10_fetch : MethodName := ⟨RX10, "fetch", "(I)I"⟩
abbrev cX10_undo : ByteArray := prog_1_method_12_code
def yX10_undo : MethodName := ⟨RX10, "undo", "()I"⟩
abbrev cX10_of : ByteArray := prog_1_method_13_code
def yX10_of : MethodName := ⟨RX10, "of", "(II)I"⟩
abbrev cX10_at : ByteArray := prog_1_method_14_code
def yX10_at : MethodName := ⟨RX10, "at", "(II)I"⟩
abbrev cX10_then : ByteArray := prog_1_method_15_code
def yX10_then : MethodName := ⟨RX10, "then", "(II)I"⟩
abbrev cX10_left : ByteArray := prog_1_method_16_code
def yX10_left : MethodName := ⟨RX10, "left", "(I)I"⟩
abbrev cX10_plays : ByteArray := prog_1_method_17_code
def yX10_plays : MethodName := ⟨RX10, "plays", "(II)I"⟩
abbrev cX10_best : ByteArray := prog_1_method_18_code
def yX10_best : MethodName := ⟨RX10, "best", "(I)I"⟩
abbrev cX10_missing : ByteArray := prog_1_method_19_code
def yX10_missing : MethodName := ⟨RX10, "missing", "(II)I"⟩
abbrev cX10_fetchAll : ByteArray := prog_1_method_20_code
def yX10_fetchAll : MethodName := ⟨RX10, "fetchAll", "(I)I"⟩
abbrev cX10_falls : ByteArray := prog_1_method_21_code
def yX10_falls : MethodName := ⟨RX10, "falls", "(I)I"⟩
abbrev cX10_walk : ByteArray := prog_1_method_22_code
def yX10_walk : MethodName := ⟨RX10, "walk", "(II)I"⟩
abbrev cX10_reading : ByteArray := prog_1_method_23_code
def yX10_reading : MethodName := ⟨RX10, "reading", "(IIII)I"⟩
abbrev cX10_forget : ByteArray := prog_1_method_24_code
def yX10_forget : MethodName := ⟨RX10, "forget", "()I"⟩
abbrev cX10_may : ByteArray := prog_1_method_25_code
def yX10_may : MethodName := ⟨RX10, "may", "(I)I"⟩
abbrev cX10_listen : ByteArray := prog_1_method_26_code
def yX10_listen : MethodName := ⟨RX10, "listen", "(II)I"⟩
abbrev cX10_wish : ByteArray := prog_1_method_27_code
def yX10_wish : MethodName := ⟨RX10, "wish", "(II)I"⟩
abbrev cX10_feast : ByteArray := prog_1_method_28_code
def yX10_feast : MethodName := ⟨RX10, "feast", "(III)I"⟩
abbrev cX10_hours : ByteArray := prog_1_method_29_code
def yX10_hours : MethodName := ⟨RX10, "hours", "(II)I"⟩
abbrev cX10_part : ByteArray := prog_1_method_30_code
def yX10_part : MethodName := ⟨RX10, "part", "(I)J"⟩
abbrev cX10_image : ByteArray := prog_1_method_31_code
def yX10_image : MethodName := ⟨RX10, "image", "(I)I"⟩
abbrev cX10_from : ByteArray := prog_1_method_32_code
def yX10_from : MethodName := ⟨RX10, "from", "(I)I"⟩
abbrev cX10_status : ByteArray := prog_1_method_33_code
def yX10_status : MethodName := ⟨RX10, "status", "(I)I"⟩
abbrev cX10_count : ByteArray := prog_1_method_34_code
def yX10_count : MethodName := ⟨RX10, "count", "(I)I"⟩
abbrev cX10_digest : ByteArray := prog_1_method_35_code
def yX10_digest : MethodName := ⟨RX10, "digest", "()J"⟩
abbrev cX10_isUpTo : ByteArray := prog_1_method_36_code
def yX10_isUpTo : MethodName := ⟨RX10, "isUpTo", "(II)Z"⟩
abbrev cX10_isHymn : ByteArray := prog_1_method_37_code
def yX10_isHymn : MethodName := ⟨RX10, "isHymn", "(I)Z"⟩
abbrev cX10_isShift : ByteArray := prog_1_method_38_code
def yX10_isShift : MethodName := ⟨RX10, "isShift", "(I)Z"⟩
abbrev cX10_isPipe : ByteArray := prog_1_method_39_code
def yX10_isPipe : MethodName := ⟨RX10, "isPipe", "(I)Z"⟩
abbrev cX10_isPlace : ByteArray := prog_1_method_40_code
def yX10_isPlace : MethodName := ⟨RX10, "isPlace", "(I)Z"⟩
abbrev cX10_refuseBad : ByteArray := prog_1_method_41_code
def yX10_refuseBad : MethodName := ⟨RX10, "refuseBad", "()I"⟩
abbrev cX10_refuseBadTen : ByteArray := prog_1_method_42_code
def yX10_refuseBadTen : MethodName := ⟨RX10, "refuseBadTen", "()I"⟩
abbrev cX10_refuseNo : ByteArray := prog_1_method_43_code
def yX10_refuseNo : MethodName := ⟨RX10, "refuseNo", "()I"⟩
abbrev cX10_refuseFull : ByteArray := prog_1_method_44_code
def yX10_refuseFull : MethodName := ⟨RX10, "refuseFull", "()I"⟩
abbrev cX10_tryHours : ByteArray := prog_1_method_45_code
def yX10_tryHours : MethodName := ⟨RX10, "tryHours", "(I)V"⟩
abbrev cX10_kindsThatMayBe : ByteArray := prog_1_method_46_code
def yX10_kindsThatMayBe : MethodName := ⟨RX10, "kindsThatMayBe", "(I)I"⟩
abbrev cX10_areReadingsSo : ByteArray := prog_1_method_47_code
def yX10_areReadingsSo : MethodName := ⟨RX10, "areReadingsSo", "()Z"⟩
abbrev cX10_tryKinds : ByteArray := prog_1_method_48_code
def yX10_tryKinds : MethodName := ⟨RX10, "tryKinds", "(II)V"⟩
abbrev cX10_greaterPart : ByteArray := prog_1_method_49_code
def yX10_greaterPart : MethodName := ⟨RX10, "greaterPart", "(II)I"⟩
abbrev cX10_setFraction : ByteArray := prog_1_method_50_code
def yX10_setFraction : MethodName := ⟨RX10, "setFraction", "(JJ)V"⟩
abbrev cX10_greatestDivisor : ByteArray := prog_1_method_51_code
def yX10_greatestDivisor : MethodName := ⟨RX10, "greatestDivisor", "(JJ)J"⟩
abbrev cX10_power : ByteArray := prog_1_method_52_code
def yX10_power : MethodName := ⟨RX10, "power", "(JI)J"⟩
abbrev cX10_isFewer : ByteArray := prog_1_method_53_code
def yX10_isFewer : MethodName := ⟨RX10, "isFewer", "(II)Z"⟩
abbrev cX10_hasNote : ByteArray := prog_1_method_54_code
def yX10_hasNote : MethodName := ⟨RX10, "hasNote", "(JI)Z"⟩
abbrev cX10_howMany : ByteArray := prog_1_method_55_code
def yX10_howMany : MethodName := ⟨RX10, "howMany", "(I)I"⟩
def RX11 : String := "GonePipesModel"
def TX11 : u_T := fun k => match k with
  | 0 => ("GonePipesModel", "now", "[I", true)
  | 1 => ("GonePipesModel", "kept", "[I", true)
  | 2 => ("GonePipesModel", "isKept", "[Z", true)
  | 3 => ("GonePipesModel", "refused", "[I", true)
  | 4 => ("GonePipesModel", "above", "J", false)
  | 5 => ("GonePipesModel", "below", "J", false)
  | 6 => ("GonePipesModel", "hour", "I", false)
  | 7 => ("GonePipesModel", "kinds", "[I", true)
  | 8 => ("GonePipesModel", "wheres", "[I", true)
  | 9 => ("GonePipesModel", "aways", "[I", true)
  | 10 => ("GonePipesModel", "tones", "[I", true)
  | 11 => ("GonePipesModel", "order", "[I", true)
  | 12 => ("GonePipesModel", "shortest", "I", false)
  | 13 => ("GonePipesModel", "goFirst", "I", false)
  | 14 => ("GonePipesModel", "whereBy", "[I", true)
  | 15 => ("GonePipesModel", "bytes", "[I", true)
  | 16 => ("GonePipesModel", "bytesLong", "I", false)
  | 17 => ("GonePipesModel", "tokenAt", "I", false)
  | 18 => ("GonePipesModel", "tokenLong", "I", false)
  | 19 => ("GonePipesModel", "token", "I", false)
  | 20 => ("GonePipesModel", "value", "I", false)
  | 21 => ("GonePipesModel", "anew", "[I", true)
  | _ => ("GonePipesModel", "values", "[I", true)
def tyX11 : Nat → FieldType := fun k => match k with
  | 0 => .array .int
  | 1 => .array .int
  | 2 => .array .boolean
  | 3 => .array .int
  | 4 => .long
  | 5 => .long
  | 6 => .int
  | 7 => .array .int
  | 8 => .array .int
  | 9 => .array .int
  | 10 => .array .int
  | 11 => .array .int
  | 12 => .int
  | 13 => .int
  | 14 => .array .int
  | 15 => .array .int
  | 16 => .int
  | 17 => .int
  | 18 => .int
  | 19 => .int
  | 20 => .int
  | 21 => .array .int
  | _ => .array .int
abbrev wsX110 : List Cond := u_ws RX11 TX11 23
theorem nmX11 : ∀ a, a < 23 → ∀ b, b < 23 → a ≠ b → (TX11 a).2.1 ≠ (TX11 b).2.1 := by decide +kernel
theorem tyX11_ok : ∀ k, k < 23 → parseFieldDescriptor (TX11 k).2.2.1 = some (tyX11 k) := by decide +kernel
abbrev cX11_init : ByteArray := prog_13_method_1_code
def yX11_init : MethodName := ⟨RX11, "<init>", "()V"⟩
abbrev cX11_in : ByteArray := prog_13_method_3_code
def yX11_in : MethodName := ⟨RX11, "in", "(JJJ)Z"⟩
abbrev cX11_bad : ByteArray := prog_13_method_4_code
def yX11_bad : MethodName := ⟨RX11, "bad", "(I)I"⟩
abbrev cX11_no : ByteArray := prog_13_method_5_code
def yX11_no : MethodName := ⟨RX11, "no", "()I"⟩
abbrev cX11_full : ByteArray := prog_13_method_6_code
def yX11_full : MethodName := ⟨RX11, "full", "()I"⟩
abbrev cX11_bits : ByteArray := prog_13_method_7_code
def yX11_bits : MethodName := ⟨RX11, "bits", "(I)I"⟩
abbrev cX11_begin : ByteArray := prog_13_method_8_code
def yX11_begin : MethodName := ⟨RX11, "begin", "([I)V"⟩
abbrev cX11_pipes : ByteArray := prog_13_method_9_code
def yX11_pipes : MethodName := ⟨RX11, "pipes", "()I"⟩
abbrev cX11_places : ByteArray := prog_13_method_10_code
def yX11_places : MethodName := ⟨RX11, "places", "()I"⟩
abbrev cX11_isPipe : ByteArray := prog_13_method_11_code
def yX11_isPipe : MethodName := ⟨RX11, "isPipe", "(I)Z"⟩
abbrev cX11_isPlace : ByteArray := prog_13_method_12_code
def yX11_isPlace : MethodName := ⟨RX11, "isPlace", "(I)Z"⟩
abbrev cX11_isHymn : ByteArray := prog_13_method_13_code
def yX11_isHymn : MethodName := ⟨RX11, "isHymn", "(I)Z"⟩
abbrev cX11_isShift : ByteArray := prog_13_method_14_code
def yX11_isShift : MethodName := ⟨RX11, "isShift", "(I)Z"⟩
abbrev cX11_isThen : ByteArray := prog_13_method_15_code
def yX11_isThen : MethodName := ⟨RX11, "isThen", "(I)Z"⟩
abbrev cX11_placeHas : ByteArray := prog_13_method_16_code
def yX11_placeHas : MethodName := ⟨RX11, "placeHas", "(II)I"⟩
abbrev cX11_pipeHas : ByteArray := prog_13_method_17_code
def yX11_pipeHas : MethodName := ⟨RX11, "pipeHas", "(II)I"⟩
abbrev cX11_notes : ByteArray := prog_13_method_18_code
def yX11_notes : MethodName := ⟨RX11, "notes", "(I)I"⟩
abbrev cX11_noteOf : ByteArray := prog_13_method_19_code
def yX11_noteOf : MethodName := ⟨RX11, "noteOf", "(II)I"⟩
abbrev cX11_organ : ByteArray := prog_13_method_20_code
def yX11_organ : MethodName := ⟨RX11, "organ", "()I"⟩
abbrev cX11_layPlace : ByteArray := prog_13_method_21_code
def yX11_layPlace : MethodName := ⟨RX11, "layPlace", "([IIIIII)V"⟩
abbrev cX11_place : ByteArray := prog_13_method_22_code
def yX11_place : MethodName := ⟨RX11, "place", "(IIIII)I"⟩
abbrev cX11_layPipe : ByteArray := prog_13_method_23_code
def yX11_layPipe : MethodName := ⟨RX11, "layPipe", "([III)V"⟩
abbrev cX11_pipe : ByteArray := prog_13_method_24_code
def yX11_pipe : MethodName := ⟨RX11, "pipe", "(II)I"⟩
abbrev cX11_note : ByteArray := prog_13_method_25_code
def yX11_note : MethodName := ⟨RX11, "note", "(II)I"⟩
abbrev cX11_hush : ByteArray := prog_13_method_26_code
def yX11_hush : MethodName := ⟨RX11, "hush", "(I)I"⟩
abbrev cX11_layHand : ByteArray := prog_13_method_27_code
def yX11_layHand : MethodName := ⟨RX11, "layHand", "()V"⟩
abbrev cX11_isWished : ByteArray := prog_13_method_28_code
def yX11_isWished : MethodName := ⟨RX11, "isWished", "(I)Z"⟩
abbrev cX11_isNight : ByteArray := prog_13_method_29_code
def yX11_isNight : MethodName := ⟨RX11, "isNight", "()Z"⟩
abbrev cX11_isOtherAway : ByteArray := prog_13_method_30_code
def yX11_isOtherAway : MethodName := ⟨RX11, "isOtherAway", "(I)Z"⟩
abbrev cX11_goes : ByteArray := prog_13_method_31_code
def yX11_goes : MethodName := ⟨RX11, "goes", "(I)Z"⟩
abbrev cX11_comesBack : ByteArray := prog_13_method_32_code
def yX11_comesBack : MethodName := ⟨RX11, "comesBack", "(I)Z"⟩
abbrev cX11_isTaken : ByteArray := prog_13_method_33_code
def yX11_isTaken : MethodName := ⟨RX11, "isTaken", "(I)Z"⟩
abbrev cX11_placeFor : ByteArray := prog_13_method_34_code
def yX11_placeFor : MethodName := ⟨RX11, "placeFor", "(I)I"⟩
abbrev cX11_goHour : ByteArray := prog_13_method_35_code
def yX11_goHour : MethodName := ⟨RX11, "goHour", "()V"⟩
abbrev cX11_goHours : ByteArray := prog_13_method_36_code
def yX11_goHours : MethodName := ⟨RX11, "goHours", "(I)V"⟩
abbrev cX11_inChurch : ByteArray := prog_13_method_37_code
def yX11_inChurch : MethodName := ⟨RX11, "inChurch", "()I"⟩
abbrev cX11_keep : ByteArray := prog_13_method_38_code
def yX11_keep : MethodName := ⟨RX11, "keep", "()V"⟩
abbrev cX11_layNow : ByteArray := prog_13_method_39_code
def yX11_layNow : MethodName := ⟨RX11, "layNow", "()V"⟩
abbrev cX11_pass : ByteArray := prog_13_method_40_code
def yX11_pass : MethodName := ⟨RX11, "pass", "(I)I"⟩
abbrev cX11_fetch : ByteArray := prog_13_method_41_code
def yX11_fetch : MethodName := ⟨RX11, "fetch", "(I)I"⟩
abbrev cX11_undo : ByteArray := prog_13_method_42_code
def yX11_undo : MethodName := ⟨RX11, "undo", "()I"⟩
abbrev cX11_of : ByteArray := prog_13_method_43_code
def yX11_of : MethodName := ⟨RX11, "of", "(II)I"⟩
abbrev cX11_farOf : ByteArray := prog_13_method_44_code
def yX11_farOf : MethodName := ⟨RX11, "farOf", "(I)I"⟩
abbrev cX11_at : ByteArray := prog_13_method_45_code
def yX11_at : MethodName := ⟨RX11, "at", "(II)I"⟩
abbrev cX11_then : ByteArray := prog_13_method_46_code
def yX11_then : MethodName := ⟨RX11, "then", "(II)I"⟩
abbrev cX11_left : ByteArray := prog_13_method_47_code
def yX11_left : MethodName := ⟨RX11, "left", "(I)I"⟩
abbrev cX11_isPlayed : ByteArray := prog_13_method_48_code
def yX11_isPlayed : MethodName := ⟨RX11, "isPlayed", "(II)Z"⟩
abbrev cX11_playsBy : ByteArray := prog_13_method_49_code
def yX11_playsBy : MethodName := ⟨RX11, "playsBy", "(III)I"⟩
abbrev cX11_isWhole : ByteArray := prog_13_method_50_code
def yX11_isWhole : MethodName := ⟨RX11, "isWhole", "(II)Z"⟩
abbrev cX11_churchNow : ByteArray := prog_13_method_51_code
def yX11_churchNow : MethodName := ⟨RX11, "churchNow", "()I"⟩
abbrev cX11_plays : ByteArray := prog_13_method_52_code
def yX11_plays : MethodName := ⟨RX11, "plays", "(II)I"⟩
abbrev cX11_best : ByteArray := prog_13_method_53_code
def yX11_best : MethodName := ⟨RX11, "best", "(I)I"⟩
abbrev cX11_missing : ByteArray := prog_13_method_54_code
def yX11_missing : MethodName := ⟨RX11, "missing", "(II)I"⟩
abbrev cX11_fetchAll : ByteArray := prog_13_method_55_code
def yX11_fetchAll : MethodName := ⟨RX11, "fetchAll", "(I)I"⟩
abbrev cX11_falls : ByteArray := prog_13_method_56_code
def yX11_falls : MethodName := ⟨RX11, "falls", "(I)I"⟩
abbrev cX11_apart : ByteArray := prog_13_method_57_code
def yX11_apart : MethodName := ⟨RX11, "apart", "(II)I"⟩
abbrev cX11_between : ByteArray := prog_13_method_58_code
def yX11_between : MethodName := ⟨RX11, "between", "(II)I"⟩
abbrev cX11_longOf : ByteArray := prog_13_method_59_code
def yX11_longOf : MethodName := ⟨RX11, "longOf", "(I)I"⟩
abbrev cX11_nextOrder : ByteArray := prog_13_method_60_code
def yX11_nextOrder : MethodName := ⟨RX11, "nextOrder", "(I)Z"⟩
abbrev cX11_layWalk : ByteArray := prog_13_method_61_code
def yX11_layWalk : MethodName := ⟨RX11, "layWalk", "(I)V"⟩
abbrev cX11_walk : ByteArray := prog_13_method_62_code
def yX11_walk : MethodName := ⟨RX11, "walk", "(II)I"⟩
abbrev cX11_reading : ByteArray := prog_13_method_63_code
def yX11_reading : MethodName := ⟨RX11, "reading", "(IIII)I"⟩
abbrev cX11_forget : ByteArray := prog_13_method_64_code
def yX11_forget : MethodName := ⟨RX11, "forget", "()I"⟩
abbrev cX11_isReadSo : ByteArray := prog_13_method_65_code
def yX11_isReadSo : MethodName := ⟨RX11, "isReadSo", "(I)Z"⟩
abbrev cX11_mayBe : ByteArray := prog_13_method_66_code
def yX11_mayBe : MethodName := ⟨RX11, "mayBe", "(II)Z"⟩
abbrev cX11_kindsOf : ByteArray := prog_13_method_67_code
def yX11_kindsOf : MethodName := ⟨RX11, "kindsOf", "(I)I"⟩
abbrev cX11_may : ByteArray := prog_13_method_68_code
def yX11_may : MethodName := ⟨RX11, "may", "(I)I"⟩
abbrev cX11_listen : ByteArray := prog_13_method_69_code
def yX11_listen : MethodName := ⟨RX11, "listen", "(II)I"⟩
abbrev cX11_wish : ByteArray := prog_13_method_70_code
def yX11_wish : MethodName := ⟨RX11, "wish", "(II)I"⟩
abbrev cX11_fraction : ByteArray := prog_13_method_71_code
def yX11_fraction : MethodName := ⟨RX11, "fraction", "(JJ)V"⟩
abbrev cX11_feast : ByteArray := prog_13_method_72_code
def yX11_feast : MethodName := ⟨RX11, "feast", "(III)I"⟩
abbrev cX11_hours : ByteArray := prog_13_method_73_code
def yX11_hours : MethodName := ⟨RX11, "hours", "(II)I"⟩
abbrev cX11_type : ByteArray := prog_13_method_74_code
def yX11_type : MethodName := ⟨RX11, "type", "(I)I"⟩
abbrev cX11_clear : ByteArray := prog_13_method_75_code
def yX11_clear : MethodName := ⟨RX11, "clear", "()I"⟩
abbrev cX11_isSmall : ByteArray := prog_13_method_76_code
def yX11_isSmall : MethodName := ⟨RX11, "isSmall", "(I)Z"⟩
abbrev cX11_isFigure : ByteArray := prog_13_method_77_code
def yX11_isFigure : MethodName := ⟨RX11, "isFigure", "(I)Z"⟩
abbrev cX11_lookAt : ByteArray := prog_13_method_78_code
def yX11_lookAt : MethodName := ⟨RX11, "lookAt", "(I)V"⟩
abbrev cX11_goBehind : ByteArray := prog_13_method_79_code
def yX11_goBehind : MethodName := ⟨RX11, "goBehind", "()V"⟩
abbrev cX11_isCalled : ByteArray := prog_13_method_80_code
def yX11_isCalled : MethodName := ⟨RX11, "isCalled", "(IIIIII)Z"⟩
abbrev cX11_takes : ByteArray := prog_13_method_81_code
def yX11_takes : MethodName := ⟨RX11, "takes", "(III)Z"⟩
abbrev cX11_takesPlace : ByteArray := prog_13_method_82_code
def yX11_takesPlace : MethodName := ⟨RX11, "takesPlace", "()Z"⟩
abbrev cX11_takesPipe : ByteArray := prog_13_method_83_code
def yX11_takesPipe : MethodName := ⟨RX11, "takesPipe", "()Z"⟩
abbrev cX11_takesHymn : ByteArray := prog_13_method_84_code
def yX11_takesHymn : MethodName := ⟨RX11, "takesHymn", "()Z"⟩
abbrev cX11_takesItem : ByteArray := prog_13_method_85_code
def yX11_takesItem : MethodName := ⟨RX11, "takesItem", "()Z"⟩
abbrev cX11_read : ByteArray := prog_13_method_86_code
def yX11_read : MethodName := ⟨RX11, "read", "()I"⟩
abbrev cX11_part : ByteArray := prog_13_method_87_code
def yX11_part : MethodName := ⟨RX11, "part", "(I)J"⟩
abbrev cX11_image : ByteArray := prog_13_method_88_code
def yX11_image : MethodName := ⟨RX11, "image", "(I)I"⟩
abbrev cX11_from : ByteArray := prog_13_method_89_code
def yX11_from : MethodName := ⟨RX11, "from", "(I)I"⟩
abbrev cX11_status : ByteArray := prog_13_method_90_code
def yX11_status : MethodName := ⟨RX11, "status", "(I)I"⟩
abbrev cX11_counted : ByteArray := prog_13_method_91_code
def yX11_counted : MethodName := ⟨RX11, "counted", "(I)I"⟩
abbrev cX11_count : ByteArray := prog_13_method_92_code
def yX11_count : MethodName := ⟨RX11, "count", "(I)I"⟩
abbrev cX11_sums : ByteArray := prog_13_method_93_code
def yX11_sums : MethodName := ⟨RX11, "sums", "(JII)J"⟩
abbrev cX11_digest : ByteArray := prog_13_method_94_code
def yX11_digest : MethodName := ⟨RX11, "digest", "()J"⟩
def RJ6 : String := "java/lang/Integer"
def TJ6 : u_T := fun k => match k with
  | _ => ("", "", "", false)
def tyJ6 : Nat → FieldType := fun k => match k with
  | _ => .int
abbrev wsJ60 : List Cond := u_ws RJ6 TJ6 0
theorem nmJ6 : ∀ a, a < 0 → ∀ b, b < 0 → a ≠ b → (TJ6 a).2.1 ≠ (TJ6 b).2.1 := by decide +kernel
theorem tyJ6_ok : ∀ k, k < 0 → parseFieldDescriptor (TJ6 k).2.2.1 = some (tyJ6 k) := by decide +kernel
abbrev cJ6_bitCount_0f7a4 : ByteArray := prog_14_method_49_code
def yJ6_bitCount_0f7a4 : MethodName := ⟨RJ6, "bitCount", "(I)I"⟩
def RJ9 : String := "java/lang/Math"
def TJ9 : u_T := fun k => match k with
  | _ => ("", "", "", false)
def tyJ9 : Nat → FieldType := fun k => match k with
  | _ => .int
abbrev wsJ90 : List Cond := u_ws RJ9 TJ9 0
theorem nmJ9 : ∀ a, a < 0 → ∀ b, b < 0 → a ≠ b → (TJ9 a).2.1 ≠ (TJ9 b).2.1 := by decide +kernel
theorem tyJ9_ok : ∀ k, k < 0 → parseFieldDescriptor (TJ9 k).2.2.1 = some (tyJ9 k) := by decide +kernel
abbrev cJ9_abs_0f7a4 : ByteArray := prog_15_method_59_code
def yJ9_abs_0f7a4 : MethodName := ⟨RJ9, "abs", "(I)I"⟩
abbrev cJ9_max_7cf53 : ByteArray := prog_15_method_65_code
def yJ9_max_7cf53 : MethodName := ⟨RJ9, "max", "(II)I"⟩
abbrev cJ9_min_7cf53 : ByteArray := prog_15_method_69_code
def yJ9_min_7cf53 : MethodName := ⟨RJ9, "min", "(II)I"⟩
def RJ0 : String := "java/lang/String"
def TJ0 : u_T := fun k => match k with
  | _ => ("", "", "", false)
def tyJ0 : Nat → FieldType := fun k => match k with
  | _ => .int
abbrev wsJ00 : List Cond := u_ws RJ0 TJ0 0
theorem nmJ0 : ∀ a, a < 0 → ∀ b, b < 0 → a ≠ b → (TJ0 a).2.1 ≠ (TJ0 b).2.1 := by decide +kernel
theorem tyJ0_ok : ∀ k, k < 0 → parseFieldDescriptor (TJ0 k).2.2.1 = some (tyJ0 k) := by decide +kernel
abbrev cJ0_length_8abf5 : ByteArray := prog_16_method_54_code
def yJ0_length_8abf5 : MethodName := ⟨RJ0, "length", "()I"⟩
abbrev cJ0_charAt_5068e : ByteArray := prog_16_method_56_code
def yJ0_charAt_5068e : MethodName := ⟨RJ0, "charAt", "(I)C"⟩
abbrev cJ0_coder_7d493 : ByteArray := prog_16_method_152_code
def yJ0_coder_7d493 : MethodName := ⟨RJ0, "coder", "()B"⟩
abbrev cJ0_isLatin1_aae02 : ByteArray := prog_16_method_154_code
def yJ0_isLatin1_aae02 : MethodName := ⟨RJ0, "isLatin1", "()Z"⟩
abbrev cJ0_checkIndex_df160 : ByteArray := prog_16_method_155_code
def yJ0_checkIndex_df160 : MethodName := ⟨RJ0, "checkIndex", "(II)V"⟩
def RJ1 : String := "java/lang/StringLatin1"
def TJ1 : u_T := fun k => match k with
  | _ => ("", "", "", false)
def tyJ1 : Nat → FieldType := fun k => match k with
  | _ => .int
abbrev wsJ10 : List Cond := u_ws RJ1 TJ1 0
theorem nmJ1 : ∀ a, a < 0 → ∀ b, b < 0 → a ≠ b → (TJ1 a).2.1 ≠ (TJ1 b).2.1 := by decide +kernel
theorem tyJ1_ok : ∀ k, k < 0 → parseFieldDescriptor (TJ1 k).2.2.1 = some (tyJ1 k) := by decide +kernel
abbrev cJ1_charAt_3b067 : ByteArray := prog_17_method_2_code
def yJ1_charAt_3b067 : MethodName := ⟨RJ1, "charAt", "([BI)C"⟩
def RJ2 : String := "java/lang/StringUTF16"
def TJ2 : u_T := fun k => match k with
  | _ => ("", "", "", false)
def tyJ2 : Nat → FieldType := fun k => match k with
  | _ => .int
abbrev wsJ20 : List Cond := u_ws RJ2 TJ2 0
theorem nmJ2 : ∀ a, a < 0 → ∀ b, b < 0 → a ≠ b → (TJ2 a).2.1 ≠ (TJ2 b).2.1 := by decide +kernel
theorem tyJ2_ok : ∀ k, k < 0 → parseFieldDescriptor (TJ2 k).2.2.1 = some (tyJ2 k) := by decide +kernel
abbrev cJ2_getChar_3b067 : ByteArray := prog_18_method_5_code
def yJ2_getChar_3b067 : MethodName := ⟨RJ2, "getChar", "([BI)C"⟩
abbrev cJ2_length_9d52b : ByteArray := prog_18_method_6_code
def yJ2_length_9d52b : MethodName := ⟨RJ2, "length", "([B)I"⟩
abbrev cJ2_charAt_3b067 : ByteArray := prog_18_method_83_code
def yJ2_charAt_3b067 : MethodName := ⟨RJ2, "charAt", "([BI)C"⟩
abbrev cJ2_checkIndex_2214a : ByteArray := prog_18_method_91_code
def yJ2_checkIndex_2214a : MethodName := ⟨RJ2, "checkIndex", "(I[B)V"⟩
def RJ10 : String := "java/lang/System"
def TJ10 : u_T := fun k => match k with
  | _ => ("", "", "", false)
def tyJ10 : Nat → FieldType := fun k => match k with
  | _ => .int
abbrev wsJ100 : List Cond := u_ws RJ10 TJ10 0
theorem nmJ10 : ∀ a, a < 0 → ∀ b, b < 0 → a ≠ b → (TJ10 a).2.1 ≠ (TJ10 b).2.1 := by decide +kernel
theorem tyJ10_ok : ∀ k, k < 0 → parseFieldDescriptor (TJ10 k).2.2.1 = some (tyJ10 k) := by decide +kernel
def RJ3 : String := "jdk/internal/util/Preconditions"
def TJ3 : u_T := fun k => match k with
  | _ => ("", "", "", false)
def tyJ3 : Nat → FieldType := fun k => match k with
  | _ => .int
abbrev wsJ30 : List Cond := u_ws RJ3 TJ3 0
theorem nmJ3 : ∀ a, a < 0 → ∀ b, b < 0 → a ≠ b → (TJ3 a).2.1 ≠ (TJ3 b).2.1 := by decide +kernel
theorem tyJ3_ok : ∀ k, k < 0 → parseFieldDescriptor (TJ3 k).2.2.1 = some (tyJ3 k) := by decide +kernel
abbrev cJ3_checkIndex_8e157 : ByteArray := prog_20_method_11_code
def yJ3_checkIndex_8e157 : MethodName := ⟨RJ3, "checkIndex", "(IILjava/util/function/BiFunction;)I"⟩
def RL : String := "GonePipesLaw"
abbrev cL_law : ByteArray := code
def yL_law : MethodName := ⟨RL, "law", "([I)Z"⟩
def wsL_law_r1 : List Cond := [Cond.classLink RL 7 RX10, Cond.instantiable RX10 13, Cond.initialized RX10, Cond.classLink RL 10 RX11, Cond.instantiable RX11 23, Cond.initialized RX11, Cond.methodLink RL 9 yX10_init, Cond.instanceMethod yX10_init, Cond.code yX10_init cX10_init 1 none, Cond.methodLink RX10 3 objectInit, Cond.instanceMethod objectInit, Cond.code objectInit ⟨#[0xb1]⟩ 1 none, Cond.classLink RX10 9 RX6, Cond.instantiable RX6 0, Cond.initialized RX6, Cond.classLink RX10 12 RX7, Cond.instantiable RX7 0, Cond.initialized RX7, Cond.classLink RX10 15 RX1, Cond.instantiable RX1 0, Cond.initialized RX1, Cond.classLink RX10 18 RX0, Cond.instantiable RX0 0, Cond.initialized RX0]
def wsL_law_r2 : List Cond := [Cond.classLink RX10 21 RX2, Cond.instantiable RX2 0, Cond.initialized RX2, Cond.classLink RX10 24 RX3, Cond.instantiable RX3 0, Cond.initialized RX3, Cond.fieldLink RX10 27 "GonePipes" "kinds" "[LGonePipes$Plain;", Cond.classLink RX10 31 RX4, Cond.instantiable RX4 13, Cond.initialized RX4, Cond.fieldLink RX10 34 "GonePipes" "now" "LGonePipes$Organ;", Cond.fieldLink RX10 38 "GonePipes" "trial" "LGonePipes$Organ;", Cond.fieldLink RX10 41 "GonePipes" "images" "[LGonePipes$Organ;", Cond.arrayClass .boolean, Cond.fieldLink RX10 45 "GonePipes" "kept" "[Z", Cond.classLink RX10 49 RX8, Cond.instantiable RX8 7, Cond.initialized RX8, Cond.fieldLink RX10 52 "GonePipes" "text" "LGonePipes$Text;", Cond.classLink RX10 56 RX9, Cond.instantiable RX9 3, Cond.initialized RX9, Cond.fieldLink RX10 59 "GonePipes" "way" "LGonePipes$Walk;", Cond.arrayClass .int]
def wsL_law_r3 : List Cond := [Cond.fieldLink RX10 63 "GonePipes" "whereByKind" "[I", Cond.fieldLink RX10 67 "GonePipes" "above" "J", Cond.fieldLink RX10 71 "GonePipes" "below" "J", Cond.instanceMethod yX6_init, Cond.code yX6_init cX6_init 1 none, Cond.methodLink RX6 1 objectInit, Cond.instanceMethod yX7_init, Cond.code yX7_init cX7_init 1 none, Cond.instanceMethod yX1_init, Cond.code yX1_init cX1_init 1 none, Cond.instanceMethod yX0_init, Cond.code yX0_init cX0_init 1 none, Cond.instanceMethod yX2_init, Cond.code yX2_init cX2_init 1 none, Cond.instanceMethod yX3_init, Cond.code yX3_init cX3_init 1 none, Cond.instanceMethod yX4_init, Cond.code yX4_init cX4_init 1 none, Cond.methodLink RX4 3 objectInit, Cond.fieldLink RX4 9 "GonePipes$Organ" "placeRows" "[I", Cond.fieldLink RX4 15 "GonePipes$Organ" "kind" "[I", Cond.fieldLink RX4 18 "GonePipes$Organ" "note" "[I", Cond.fieldLink RX4 21 "GonePipes$Organ" "where" "[I", Cond.fieldLink RX4 24 "GonePipes$Organ" "away" "[I"]
def wsL_law_r4 : List Cond := [Cond.fieldLink RX4 27 "GonePipes$Organ" "hymnCounts" "[I", Cond.fieldLink RX4 30 "GonePipes$Organ" "hymnRows" "[I", Cond.fieldLink RX4 33 "GonePipes$Organ" "readingRows" "[I", Cond.classLink RX4 36 RX5, Cond.instantiable RX5 3, Cond.initialized RX5, Cond.fieldLink RX4 39 "GonePipes$Organ" "past" "LGonePipes$Past;", Cond.instanceMethod yX5_init, Cond.code yX5_init cX5_init 1 none, Cond.methodLink RX5 3 objectInit, Cond.fieldLink RX5 9 "GonePipes$Past" "rows" "[I", Cond.instanceMethod yX8_init, Cond.code yX8_init cX8_init 1 none, Cond.methodLink RX8 3 objectInit, Cond.arrayClass .byte, Cond.fieldLink RX8 9 "GonePipes$Text" "bytes" "[B", Cond.fieldLink RX8 15 "GonePipes$Text" "row" "[I", Cond.instanceMethod yX9_init, Cond.code yX9_init cX9_init 1 none, Cond.methodLink RX9 3 objectInit, Cond.fieldLink RX9 11 "GonePipes$Walk" "rest" "[I", Cond.methodLink RL 12 yX11_init, Cond.instanceMethod yX11_init, Cond.code yX11_init cX11_init 1 none]
def wsL_law_r5 : List Cond := [Cond.methodLink RX11 1 objectInit, Cond.fieldLink RX11 7 "GonePipesModel" "now" "[I", Cond.fieldLink RX11 13 "GonePipesModel" "kept" "[I", Cond.fieldLink RX11 16 "GonePipesModel" "isKept" "[Z", Cond.fieldLink RX11 20 "GonePipesModel" "refused" "[I", Cond.fieldLink RX11 23 "GonePipesModel" "below" "J", Cond.fieldLink RX11 27 "GonePipesModel" "kinds" "[I", Cond.fieldLink RX11 30 "GonePipesModel" "wheres" "[I", Cond.fieldLink RX11 33 "GonePipesModel" "aways" "[I", Cond.fieldLink RX11 36 "GonePipesModel" "tones" "[I", Cond.fieldLink RX11 39 "GonePipesModel" "order" "[I", Cond.fieldLink RX11 42 "GonePipesModel" "whereBy" "[I", Cond.fieldLink RX11 45 "GonePipesModel" "bytes" "[I", Cond.fieldLink RX11 48 "GonePipesModel" "anew" "[I", Cond.fieldLink RX11 51 "GonePipesModel" "values" "[I", Cond.methodLink RL 13 yX10_organ, Cond.instanceMethod yX10_organ, Cond.selects RX10 yX10_organ yX10_organ, Cond.code yX10_organ cX10_organ 2 (some .int), Cond.fieldLink RX10 74 "GonePipes$Organ" "pipes" "I", Cond.methodLink RX10 78 yX4_reset, Cond.instanceMethod yX4_reset, Cond.selects RX4 yX4_reset yX4_reset, Cond.code yX4_reset cX4_reset 2 none]
def wsL_law_r6 : List Cond := [Cond.fieldLink RX4 43 "GonePipes$Organ" "hour" "I", Cond.fieldLink RX4 47 "GonePipes$Organ" "places" "I", Cond.fieldLink RX4 50 "GonePipes$Organ" "pipes" "I", Cond.fieldLink RX4 53 "GonePipes$Organ" "readings" "I", Cond.methodLink RX4 56 yX4_emptyHymn, Cond.instanceMethod yX4_emptyHymn, Cond.selects RX4 yX4_emptyHymn yX4_emptyHymn, Cond.code yX4_emptyHymn cX4_emptyHymn 2 none, Cond.methodLink RX4 60 yX5_reset, Cond.instanceMethod yX5_reset, Cond.selects RX5 yX5_reset yX5_reset, Cond.code yX5_reset cX5_reset 1 none, Cond.fieldLink RX5 15 "GonePipes$Past" "count" "I", Cond.fieldLink RX5 19 "GonePipes$Past" "oldest" "I", Cond.methodLink RL 17 yX11_organ, Cond.instanceMethod yX11_organ, Cond.selects RX11 yX11_organ yX11_organ, Cond.code yX11_organ cX11_organ 2 (some .int), Cond.methodLink RX11 54 yX11_pipes, Cond.instanceMethod yX11_pipes, Cond.selects RX11 yX11_pipes yX11_pipes, Cond.code yX11_pipes cX11_pipes 1 (some .int), Cond.methodLink RX11 73 yX11_begin, Cond.static yX11_begin]
def wsL_law_r7 : List Cond := [Cond.code yX11_begin cX11_begin 2 none, Cond.methodLink RL 18 yX10_place, Cond.instanceMethod yX10_place, Cond.selects RX10 yX10_place yX10_place, Cond.code yX10_place cX10_place 6 (some .int), Cond.fieldLink RX10 96 "GonePipes$Organ" "past" "LGonePipes$Past;", Cond.fieldLink RX10 103 "GonePipes$Organ" "places" "I", Cond.methodLink RX10 81 yX10_isUpTo, Cond.static yX10_isUpTo, Cond.code yX10_isUpTo cX10_isUpTo 2 (some .boolean), Cond.methodLink RX10 85 yX10_refuseBad, Cond.instanceMethod yX10_refuseBad, Cond.selects RX10 yX10_refuseBad yX10_refuseBad, Cond.code yX10_refuseBad cX10_refuseBad 1 (some .int), Cond.fieldLink RX10 291 "GonePipes" "refusedBad" "I", Cond.methodLink RX10 89 yX4_addPlace, Cond.instanceMethod yX4_addPlace, Cond.selects RX4 yX4_addPlace yX4_addPlace, Cond.code yX4_addPlace cX4_addPlace 7 (some .boolean), Cond.methodLink RX10 93 yX10_refuseFull, Cond.instanceMethod yX10_refuseFull, Cond.selects RX10 yX10_refuseFull yX10_refuseFull, Cond.code yX10_refuseFull cX10_refuseFull 1 (some .int), Cond.fieldLink RX10 297 "GonePipes" "refusedFull" "I"]
def wsL_law_r8 : List Cond := [Cond.methodLink RX10 100 yX5_reset, Cond.methodLink RL 22 yX11_place, Cond.instanceMethod yX11_place, Cond.selects RX11 yX11_place yX11_place, Cond.code yX11_place cX11_place 6 (some .int), Cond.constantLong RX11 77 (11), Cond.constantLong RX11 79 (23), Cond.constantLong RX11 81 (24), Cond.constantLong RX11 83 (30), Cond.methodLink RX11 58 yX11_in, Cond.static yX11_in, Cond.code yX11_in cX11_in 6 (some .boolean), Cond.methodLink RX11 85 yX11_bad, Cond.instanceMethod yX11_bad, Cond.selects RX11 yX11_bad yX11_bad, Cond.code yX11_bad cX11_bad 2 (some .int), Cond.methodLink RX11 62 yX11_places, Cond.instanceMethod yX11_places, Cond.selects RX11 yX11_places yX11_places, Cond.code yX11_places cX11_places 1 (some .int), Cond.methodLink RX11 89 yX11_full, Cond.instanceMethod yX11_full, Cond.selects RX11 yX11_full yX11_full, Cond.code yX11_full cX11_full 1 (some .int)]
def wsL_law_r9 : List Cond := [Cond.methodLink RX11 92 yX11_layPlace, Cond.static yX11_layPlace, Cond.code yX11_layPlace cX11_layPlace 7 none, Cond.methodLink RL 23 yX10_pipe, Cond.instanceMethod yX10_pipe, Cond.selects RX10 yX10_pipe yX10_pipe, Cond.code yX10_pipe cX10_pipe 3 (some .int), Cond.methodLink RX10 106 yX4_addPipe, Cond.instanceMethod yX4_addPipe, Cond.selects RX4 yX4_addPipe yX4_addPipe, Cond.code yX4_addPipe cX4_addPipe 3 (some .boolean), Cond.methodLink RX4 77 yX4_bringHome, Cond.instanceMethod yX4_bringHome, Cond.selects RX4 yX4_bringHome yX4_bringHome, Cond.code yX4_bringHome cX4_bringHome 2 none, Cond.methodLink RL 27 yX11_pipe, Cond.instanceMethod yX11_pipe, Cond.selects RX11 yX11_pipe yX11_pipe, Cond.code yX11_pipe cX11_pipe 3 (some .int), Cond.constantLong RX11 96 (5), Cond.constantLong RX11 98 (35), Cond.methodLink RX11 100 yX11_layPipe, Cond.static yX11_layPipe, Cond.code yX11_layPipe cX11_layPipe 4 none]
def wsL_law_r10 : List Cond := [Cond.methodLink RL 28 yX10_note, Cond.instanceMethod yX10_note, Cond.selects RX10 yX10_note yX10_note, Cond.code yX10_note cX10_note 3 (some .int), Cond.fieldLink RX10 116 "GonePipes$Organ" "hymnCounts" "[I", Cond.methodLink RX10 109 yX10_isHymn, Cond.static yX10_isHymn, Cond.code yX10_isHymn cX10_isHymn 1 (some .boolean), Cond.methodLink RX10 113 yX4_addNote, Cond.instanceMethod yX4_addNote, Cond.selects RX4 yX4_addNote yX4_addNote, Cond.code yX4_addNote cX4_addNote 4 (some .boolean), Cond.methodLink RL 31 yX11_note, Cond.instanceMethod yX11_note, Cond.selects RX11 yX11_note yX11_note, Cond.code yX11_note cX11_note 3 (some .int), Cond.methodLink RX11 104 yX11_isHymn, Cond.static yX11_isHymn, Cond.code yX11_isHymn cX11_isHymn 1 (some .boolean), Cond.constantLong RX11 65 (2), Cond.methodLink RX11 108 yX11_notes, Cond.instanceMethod yX11_notes, Cond.selects RX11 yX11_notes yX11_notes, Cond.code yX11_notes cX11_notes 2 (some .int)]
def wsL_law_r11 : List Cond := [Cond.methodLink RL 32 yX10_hush, Cond.instanceMethod yX10_hush, Cond.selects RX10 yX10_hush yX10_hush, Cond.code yX10_hush cX10_hush 3 (some .int), Cond.methodLink RX10 119 yX4_emptyHymn, Cond.methodLink RL 36 yX11_hush, Cond.instanceMethod yX11_hush, Cond.selects RX11 yX11_hush yX11_hush, Cond.code yX11_hush cX11_hush 3 (some .int), Cond.methodLink RL 37 yX10_type, Cond.instanceMethod yX10_type, Cond.selects RX10 yX10_type yX10_type, Cond.code yX10_type cX10_type 2 (some .int), Cond.fieldLink RX10 126 "GonePipes$Text" "count" "I", Cond.methodLink RX10 123 yX8_add, Cond.instanceMethod yX8_add, Cond.selects RX8 yX8_add yX8_add, Cond.code yX8_add cX8_add 2 (some .boolean), Cond.fieldLink RX8 19 "GonePipes$Text" "count" "I", Cond.methodLink RL 40 yX11_type, Cond.instanceMethod yX11_type, Cond.selects RX11 yX11_type yX11_type, Cond.code yX11_type cX11_type 2 (some .int), Cond.constantLong RX11 259 (127)]
def wsL_law_r12 : List Cond := [Cond.fieldLink RX11 261 "GonePipesModel" "bytesLong" "I", Cond.methodLink RL 41 yX10_clear, Cond.instanceMethod yX10_clear, Cond.selects RX10 yX10_clear yX10_clear, Cond.code yX10_clear cX10_clear 2 (some .int), Cond.methodLink RL 44 yX11_clear, Cond.instanceMethod yX11_clear, Cond.selects RX11 yX11_clear yX11_clear, Cond.code yX11_clear cX11_clear 2 (some .int), Cond.methodLink RL 45 yX10_read, Cond.instanceMethod yX10_read, Cond.selects RX10 yX10_read yX10_read, Cond.code yX10_read cX10_read 2 (some .int), Cond.methodLink RX10 129 yX8_readInto, Cond.instanceMethod yX8_readInto, Cond.selects RX8 yX8_readInto yX8_readInto, Cond.code yX8_readInto cX8_readInto 3 (some .int), Cond.fieldLink RX8 28 "GonePipes$Text" "next" "I", Cond.fieldLink RX8 44 "GonePipes$Text" "start" "I", Cond.fieldLink RX8 47 "GonePipes$Text" "sort" "I", Cond.methodLink RX8 23 yX4_reset, Cond.methodLink RX8 31 yX8_step, Cond.instanceMethod yX8_step, Cond.selects RX8 yX8_step yX8_step]
def wsL_law_r13 : List Cond := [Cond.code yX8_step cX8_step 1 none, Cond.fieldLink RX8 90 "GonePipes$Text" "value" "I", Cond.methodLink RX8 96 yX8_isLetter, Cond.static yX8_isLetter, Cond.code yX8_isLetter cX8_isLetter 1 (some .boolean), Cond.methodLink RX8 99 yX8_isFigure, Cond.static yX8_isFigure, Cond.code yX8_isFigure cX8_isFigure 1 (some .boolean), Cond.methodLink RX8 36 yX8_isWord, Cond.instanceMethod yX8_isWord, Cond.selects RX8 yX8_isWord yX8_isWord, Cond.code yX8_isWord cX8_isWord 3 (some .boolean), Cond.methodLink RX8 102 yJ0_length_8abf5, Cond.instanceMethod yJ0_length_8abf5, Cond.selects RJ0 yJ0_length_8abf5 yJ0_length_8abf5, Cond.initialized RJ0, Cond.code yJ0_length_8abf5 cJ0_length_8abf5 1 (some .int), Cond.fieldLink RJ0 9 "java/lang/String" "value" "[B", Cond.methodLink RJ0 335 yJ0_coder_7d493, Cond.instanceMethod yJ0_coder_7d493, Cond.selects RJ0 yJ0_coder_7d493 yJ0_coder_7d493, Cond.code yJ0_coder_7d493 cJ0_coder_7d493 1 (some .byte), Cond.fieldLink RJ0 38 "java/lang/String" "COMPACT_STRINGS" "Z", Cond.fieldLink RJ0 15 "java/lang/String" "coder" "B"]
def wsL_law_r14 : List Cond := [Cond.methodLink RX8 108 yJ0_charAt_5068e, Cond.instanceMethod yJ0_charAt_5068e, Cond.selects RJ0 yJ0_charAt_5068e yJ0_charAt_5068e, Cond.code yJ0_charAt_5068e cJ0_charAt_5068e 2 (some .char), Cond.methodLink RJ0 492 yJ0_isLatin1_aae02, Cond.instanceMethod yJ0_isLatin1_aae02, Cond.selects RJ0 yJ0_isLatin1_aae02 yJ0_isLatin1_aae02, Cond.code yJ0_isLatin1_aae02 cJ0_isLatin1_aae02 1 (some .boolean), Cond.methodLink RJ0 495 yJ1_charAt_3b067, Cond.static yJ1_charAt_3b067, Cond.initialized RJ1, Cond.code yJ1_charAt_3b067 cJ1_charAt_3b067 2 (some .char), Cond.methodLink RJ1 9 yJ0_checkIndex_df160, Cond.static yJ0_checkIndex_df160, Cond.code yJ0_checkIndex_df160 cJ0_checkIndex_df160 2 none, Cond.fieldLink RJ0 1053 "jdk/internal/util/Preconditions" "SIOOBE_FORMATTER" "Ljava/util/function/BiFunction;", Cond.methodLink RJ0 1059 yJ3_checkIndex_8e157, Cond.static yJ3_checkIndex_8e157, Cond.initialized RJ3, Cond.code yJ3_checkIndex_8e157 cJ3_checkIndex_8e157 3 (some .int), Cond.methodLink RJ0 498 yJ2_charAt_3b067, Cond.static yJ2_charAt_3b067, Cond.initialized RJ2, Cond.code yJ2_charAt_3b067 cJ2_charAt_3b067 2 (some .char)]
def wsL_law_r15 : List Cond := [Cond.methodLink RJ2 67 yJ2_checkIndex_2214a, Cond.static yJ2_checkIndex_2214a, Cond.code yJ2_checkIndex_2214a cJ2_checkIndex_2214a 2 none, Cond.methodLink RJ2 48 yJ2_length_9d52b, Cond.static yJ2_length_9d52b, Cond.code yJ2_length_9d52b cJ2_length_9d52b 1 (some .int), Cond.methodLink RJ2 414 yJ0_checkIndex_df160, Cond.methodLink RJ2 71 yJ2_getChar_3b067, Cond.static yJ2_getChar_3b067, Cond.code yJ2_getChar_3b067 cJ2_getChar_3b067 2 (some .char), Cond.fieldLink RJ2 44 "java/lang/StringUTF16" "$assertionsDisabled" "Z", Cond.fieldLink RJ2 59 "java/lang/StringUTF16" "HI_BYTE_SHIFT" "I", Cond.fieldLink RJ2 63 "java/lang/StringUTF16" "LO_BYTE_SHIFT" "I", Cond.methodLink RX8 40 yX8_stepTo, Cond.instanceMethod yX8_stepTo, Cond.selects RX8 yX8_stepTo yX8_stepTo, Cond.code yX8_stepTo cX8_stepTo 2 (some .boolean), Cond.methodLink RX8 50 yX8_readItem, Cond.instanceMethod yX8_readItem, Cond.selects RX8 yX8_readItem yX8_readItem, Cond.code yX8_readItem cX8_readItem 2 (some .boolean), Cond.fieldLink RX8 56 "GonePipes$Organ" "places" "I", Cond.fieldLink RX8 64 "GonePipes$Organ" "pipes" "I", Cond.methodLink RX8 59 yX8_readPlace]
def wsL_law_r16 : List Cond := [Cond.instanceMethod yX8_readPlace, Cond.selects RX8 yX8_readPlace yX8_readPlace, Cond.code yX8_readPlace cX8_readPlace 2 (some .boolean), Cond.methodLink RX8 75 yX8_readNumber, Cond.instanceMethod yX8_readNumber, Cond.selects RX8 yX8_readNumber yX8_readNumber, Cond.code yX8_readNumber cX8_readNumber 3 (some .boolean), Cond.methodLink RX8 79 yX4_addPlace, Cond.methodLink RX8 67 yX8_readPipe, Cond.instanceMethod yX8_readPipe, Cond.selects RX8 yX8_readPipe yX8_readPipe, Cond.code yX8_readPipe cX8_readPipe 2 (some .boolean), Cond.methodLink RX8 83 yX4_addPipe, Cond.methodLink RX8 72 yX8_readHymn, Cond.instanceMethod yX8_readHymn, Cond.selects RX8 yX8_readHymn yX8_readHymn, Cond.code yX8_readHymn cX8_readHymn 3 (some .boolean), Cond.methodLink RX8 86 yX4_emptyHymn, Cond.methodLink RX8 93 yX4_addNote, Cond.methodLink RX10 133 yX4_takeAll, Cond.instanceMethod yX4_takeAll, Cond.selects RX4 yX4_takeAll yX4_takeAll, Cond.code yX4_takeAll cX4_takeAll 2 none, Cond.methodLink RX4 63 arraycopyName]
def wsL_law_r17 : List Cond := [Cond.native arraycopyName, Cond.static arraycopyName, Cond.initialized "java/lang/System", Cond.methodLink RX4 69 yX4_takeStage, Cond.instanceMethod yX4_takeStage, Cond.selects RX4 yX4_takeStage yX4_takeStage, Cond.code yX4_takeStage cX4_takeStage 2 none, Cond.methodLink RX4 73 yX5_takeOver, Cond.instanceMethod yX5_takeOver, Cond.selects RX5 yX5_takeOver yX5_takeOver, Cond.code yX5_takeOver cX5_takeOver 2 none, Cond.methodLink RX5 22 arraycopyName, Cond.methodLink RL 48 yX11_read, Cond.instanceMethod yX11_read, Cond.selects RX11 yX11_read yX11_read, Cond.code yX11_read cX11_read 3 (some .int), Cond.fieldLink RX11 270 "GonePipesModel" "tokenAt" "I", Cond.fieldLink RX11 276 "GonePipesModel" "token" "I", Cond.methodLink RX11 288 yX11_lookAt, Cond.instanceMethod yX11_lookAt, Cond.selects RX11 yX11_lookAt yX11_lookAt, Cond.code yX11_lookAt cX11_lookAt 5 none, Cond.fieldLink RX11 273 "GonePipesModel" "tokenLong" "I", Cond.fieldLink RX11 279 "GonePipesModel" "value" "I"]
def wsL_law_r18 : List Cond := [Cond.methodLink RX11 282 yX11_isSmall, Cond.static yX11_isSmall, Cond.code yX11_isSmall cX11_isSmall 1 (some .boolean), Cond.constantLong RX11 264 (97), Cond.constantLong RX11 266 (122), Cond.methodLink RX11 285 yX11_isFigure, Cond.static yX11_isFigure, Cond.code yX11_isFigure cX11_isFigure 1 (some .boolean), Cond.constantLong RX11 147 (48), Cond.constantLong RX11 268 (57), Cond.methodLink RX11 298 yX11_isCalled, Cond.instanceMethod yX11_isCalled, Cond.selects RX11 yX11_isCalled yX11_isCalled, Cond.code yX11_isCalled cX11_isCalled 9 (some .boolean), Cond.methodLink RX11 291 yX11_goBehind, Cond.instanceMethod yX11_goBehind, Cond.selects RX11 yX11_goBehind yX11_goBehind, Cond.code yX11_goBehind cX11_goBehind 1 none, Cond.methodLink RX11 311 yX11_takesItem, Cond.instanceMethod yX11_takesItem, Cond.selects RX11 yX11_takesItem yX11_takesItem, Cond.code yX11_takesItem cX11_takesItem 1 (some .boolean), Cond.methodLink RX11 302 yX11_takesPlace, Cond.instanceMethod yX11_takesPlace]
def wsL_law_r19 : List Cond := [Cond.selects RX11 yX11_takesPlace yX11_takesPlace, Cond.code yX11_takesPlace cX11_takesPlace 1 (some .boolean), Cond.methodLink RX11 294 yX11_takes, Cond.instanceMethod yX11_takes, Cond.selects RX11 yX11_takes yX11_takes, Cond.code yX11_takes cX11_takes 4 (some .boolean), Cond.methodLink RX11 305 yX11_takesPipe, Cond.instanceMethod yX11_takesPipe, Cond.selects RX11 yX11_takesPipe yX11_takesPipe, Cond.code yX11_takesPipe cX11_takesPipe 1 (some .boolean), Cond.methodLink RX11 308 yX11_takesHymn, Cond.instanceMethod yX11_takesHymn, Cond.selects RX11 yX11_takesHymn yX11_takesHymn, Cond.code yX11_takesHymn cX11_takesHymn 2 (some .boolean), Cond.methodLink RL 49 yX10_pass, Cond.instanceMethod yX10_pass, Cond.selects RX10 yX10_pass yX10_pass, Cond.code yX10_pass cX10_pass 3 (some .int), Cond.methodLink RX10 137 yX5_keep, Cond.instanceMethod yX5_keep, Cond.selects RX5 yX5_keep yX5_keep, Cond.code yX5_keep cX5_keep 3 none, Cond.fieldLink RX5 28 "GonePipes$Organ" "hour" "I", Cond.fieldLink RX5 33 "GonePipes$Organ" "where" "[I"]
def wsL_law_r20 : List Cond := [Cond.fieldLink RX5 36 "GonePipes$Organ" "away" "[I", Cond.methodLink RX10 140 yX4_letHourGoBy, Cond.instanceMethod yX4_letHourGoBy, Cond.selects RX4 yX4_letHourGoBy yX4_letHourGoBy, Cond.code yX4_letHourGoBy cX4_letHourGoBy 4 none, Cond.methodLink RX4 80 yX4_ruleOf, Cond.instanceMethod yX4_ruleOf, Cond.selects RX4 yX4_ruleOf yX4_ruleOf, Cond.code yX4_ruleOf cX4_ruleOf 4 (some (.object "GonePipes$Plain")), Cond.methodLink RX4 84 ⟨"GonePipes$Plain", "mayGo", "(LGonePipes$Organ;I)Z"⟩, Cond.sameMethod "GonePipes$Plain" "GonePipes$Plain" "mayGo" "(LGonePipes$Organ;I)Z", Cond.instanceMethod ⟨"GonePipes$Plain", "mayGo", "(LGonePipes$Organ;I)Z"⟩, Cond.selects RX0 ⟨"GonePipes$Plain", "mayGo", "(LGonePipes$Organ;I)Z"⟩ yX0_mayGo, Cond.instanceMethod yX0_mayGo, Cond.code yX0_mayGo cX0_mayGo 3 (some .boolean), Cond.methodLink RX0 7 yX4_isNight, Cond.instanceMethod yX4_isNight, Cond.selects RX4 yX4_isNight yX4_isNight, Cond.code yX4_isNight cX4_isNight 2 (some .boolean), Cond.code yX6_mayGo cX6_mayGo 3 (some .boolean), Cond.selects RX1 ⟨"GonePipes$Plain", "mayGo", "(LGonePipes$Organ;I)Z"⟩ yX1_mayGo, Cond.instanceMethod yX1_mayGo, Cond.code yX1_mayGo cX1_mayGo 3 (some .boolean), Cond.methodLink RX1 7 yX4_isAnotherAway]
def wsL_law_r21 : List Cond := [Cond.instanceMethod yX4_isAnotherAway, Cond.selects RX4 yX4_isAnotherAway yX4_isAnotherAway, Cond.code yX4_isAnotherAway cX4_isAnotherAway 3 (some .boolean), Cond.selects RX2 ⟨"GonePipes$Plain", "mayGo", "(LGonePipes$Organ;I)Z"⟩ yX6_mayGo, Cond.instanceMethod yX6_mayGo, Cond.selects RX3 ⟨"GonePipes$Plain", "mayGo", "(LGonePipes$Organ;I)Z"⟩ yX3_mayGo, Cond.instanceMethod yX3_mayGo, Cond.code yX3_mayGo cX3_mayGo 3 (some .boolean), Cond.methodLink RX3 7 yX4_isNight, Cond.methodLink RX3 13 yX1_mayGo, Cond.sameMethod "GonePipes$Flute" "GonePipes$Flute" "mayGo" "(LGonePipes$Organ;I)Z", Cond.superclass RX3 RX1, Cond.methodLink RX4 84 yX6_mayGo, Cond.selects RX6 yX6_mayGo yX6_mayGo, Cond.selects RX7 ⟨"GonePipes$Plain", "mayGo", "(LGonePipes$Organ;I)Z"⟩ yX6_mayGo, Cond.methodLink RX4 90 yX4_sendOut, Cond.instanceMethod yX4_sendOut, Cond.selects RX4 yX4_sendOut yX4_sendOut, Cond.code yX4_sendOut cX4_sendOut 4 none, Cond.methodLink RX4 96 yX4_toneWishedAt, Cond.instanceMethod yX4_toneWishedAt, Cond.selects RX4 yX4_toneWishedAt yX4_toneWishedAt, Cond.code yX4_toneWishedAt cX4_toneWishedAt 2 (some .int), Cond.methodLink RX4 100 yX4_isWished]
def wsL_law_r22 : List Cond := [Cond.instanceMethod yX4_isWished, Cond.selects RX4 yX4_isWished yX4_isWished, Cond.code yX4_isWished cX4_isWished 3 (some .boolean), Cond.methodLink RX4 104 yX4_pipesAt, Cond.instanceMethod yX4_pipesAt, Cond.selects RX4 yX4_pipesAt yX4_pipesAt, Cond.code yX4_pipesAt cX4_pipesAt 4 (some .int), Cond.methodLink RX4 93 ⟨"GonePipes$Plain", "comesBack", "(LGonePipes$Organ;I)Z"⟩, Cond.sameMethod "GonePipes$Plain" "GonePipes$Plain" "comesBack" "(LGonePipes$Organ;I)Z", Cond.instanceMethod ⟨"GonePipes$Plain", "comesBack", "(LGonePipes$Organ;I)Z"⟩, Cond.selects RX0 ⟨"GonePipes$Plain", "comesBack", "(LGonePipes$Organ;I)Z"⟩ yX7_comesBack, Cond.instanceMethod yX7_comesBack, Cond.code yX7_comesBack cX7_comesBack 3 (some .boolean), Cond.fieldLink RX7 7 "GonePipes$Organ" "away" "[I", Cond.methodLink RX7 13 yX6_comesBack, Cond.superclass RX7 RX6, Cond.instanceMethod yX6_comesBack, Cond.code yX6_comesBack cX6_comesBack 3 (some .boolean), Cond.fieldLink RX6 7 "GonePipes$Organ" "where" "[I", Cond.methodLink RX6 13 yX4_isWished, Cond.selects RX1 ⟨"GonePipes$Plain", "comesBack", "(LGonePipes$Organ;I)Z"⟩ yX6_comesBack, Cond.selects RX2 ⟨"GonePipes$Plain", "comesBack", "(LGonePipes$Organ;I)Z"⟩ yX2_comesBack, Cond.instanceMethod yX2_comesBack, Cond.code yX2_comesBack cX2_comesBack 3 (some .boolean)]
def wsL_law_r23 : List Cond := [Cond.fieldLink RX2 7 "GonePipes$Organ" "away" "[I", Cond.methodLink RX2 13 yX6_comesBack, Cond.superclass RX2 RX6, Cond.selects RX3 ⟨"GonePipes$Plain", "comesBack", "(LGonePipes$Organ;I)Z"⟩ yX3_comesBack, Cond.instanceMethod yX3_comesBack, Cond.code yX3_comesBack cX3_comesBack 3 (some .boolean), Cond.methodLink RX4 93 yX6_comesBack, Cond.selects RX6 yX6_comesBack yX6_comesBack, Cond.selects RX7 ⟨"GonePipes$Plain", "comesBack", "(LGonePipes$Organ;I)Z"⟩ yX7_comesBack, Cond.methodLink RX10 144 yX4_howManyAway, Cond.instanceMethod yX4_howManyAway, Cond.selects RX4 yX4_howManyAway yX4_howManyAway, Cond.code yX4_howManyAway cX4_howManyAway 3 (some .int), Cond.methodLink RL 52 yX11_pass, Cond.instanceMethod yX11_pass, Cond.selects RX11 yX11_pass yX11_pass, Cond.code yX11_pass cX11_pass 3 (some .int), Cond.methodLink RX11 149 yX11_keep, Cond.instanceMethod yX11_keep, Cond.selects RX11 yX11_keep yX11_keep, Cond.code yX11_keep cX11_keep 3 none, Cond.methodLink RX11 115 yX11_pipeHas, Cond.instanceMethod yX11_pipeHas, Cond.selects RX11 yX11_pipeHas yX11_pipeHas]
def wsL_law_r24 : List Cond := [Cond.code yX11_pipeHas cX11_pipeHas 3 (some .int), Cond.methodLink RX11 152 yX11_layHand, Cond.instanceMethod yX11_layHand, Cond.selects RX11 yX11_layHand yX11_layHand, Cond.code yX11_layHand cX11_layHand 2 none, Cond.fieldLink RX11 111 "GonePipesModel" "hour" "I", Cond.methodLink RX11 119 yX11_placeHas, Cond.instanceMethod yX11_placeHas, Cond.selects RX11 yX11_placeHas yX11_placeHas, Cond.code yX11_placeHas cX11_placeHas 3 (some .int), Cond.methodLink RX11 144 yX11_goHour, Cond.instanceMethod yX11_goHour, Cond.selects RX11 yX11_goHour yX11_goHour, Cond.code yX11_goHour cX11_goHour 2 none, Cond.methodLink RX11 135 yX11_comesBack, Cond.instanceMethod yX11_comesBack, Cond.selects RX11 yX11_comesBack yX11_comesBack, Cond.code yX11_comesBack cX11_comesBack 3 (some .boolean), Cond.methodLink RX11 129 yX11_isWished, Cond.instanceMethod yX11_isWished, Cond.selects RX11 yX11_isWished yX11_isWished, Cond.code yX11_isWished cX11_isWished 2 (some .boolean), Cond.methodLink RX11 138 yX11_goes, Cond.instanceMethod yX11_goes]
def wsL_law_r25 : List Cond := [Cond.selects RX11 yX11_goes yX11_goes, Cond.code yX11_goes cX11_goes 2 (some .boolean), Cond.methodLink RX11 122 yX11_isOtherAway, Cond.instanceMethod yX11_isOtherAway, Cond.selects RX11 yX11_isOtherAway yX11_isOtherAway, Cond.code yX11_isOtherAway cX11_isOtherAway 4 (some .boolean), Cond.methodLink RX11 125 yX11_isNight, Cond.instanceMethod yX11_isNight, Cond.selects RX11 yX11_isNight yX11_isNight, Cond.code yX11_isNight cX11_isNight 1 (some .boolean), Cond.methodLink RX11 141 yX11_placeFor, Cond.instanceMethod yX11_placeFor, Cond.selects RX11 yX11_placeFor yX11_placeFor, Cond.code yX11_placeFor cX11_placeFor 3 (some .int), Cond.methodLink RX11 132 yX11_isTaken, Cond.instanceMethod yX11_isTaken, Cond.selects RX11 yX11_isTaken yX11_isTaken, Cond.code yX11_isTaken cX11_isTaken 4 (some .boolean), Cond.methodLink RX11 155 yX11_layNow, Cond.instanceMethod yX11_layNow, Cond.selects RX11 yX11_layNow yX11_layNow, Cond.code yX11_layNow cX11_layNow 2 none, Cond.methodLink RX11 158 yX11_inChurch, Cond.instanceMethod yX11_inChurch]
def wsL_law_r26 : List Cond := [Cond.selects RX11 yX11_inChurch yX11_inChurch, Cond.code yX11_inChurch cX11_inChurch 3 (some .int), Cond.methodLink RX11 161 yX11_bits, Cond.static yX11_bits, Cond.code yX11_bits cX11_bits 3 (some .int), Cond.methodLink RL 53 yX10_fetch, Cond.instanceMethod yX10_fetch, Cond.selects RX10 yX10_fetch yX10_fetch, Cond.code yX10_fetch cX10_fetch 3 (some .int), Cond.fieldLink RX10 150 "GonePipes$Organ" "where" "[I", Cond.methodLink RX10 147 yX10_isPipe, Cond.instanceMethod yX10_isPipe, Cond.selects RX10 yX10_isPipe yX10_isPipe, Cond.code yX10_isPipe cX10_isPipe 2 (some .boolean), Cond.methodLink RX10 153 yX10_refuseNo, Cond.instanceMethod yX10_refuseNo, Cond.selects RX10 yX10_refuseNo yX10_refuseNo, Cond.code yX10_refuseNo cX10_refuseNo 1 (some .int), Cond.fieldLink RX10 294 "GonePipes" "refusedNo" "I", Cond.methodLink RX10 156 yX4_bringHome, Cond.methodLink RL 56 yX11_fetch, Cond.instanceMethod yX11_fetch, Cond.selects RX11 yX11_fetch yX11_fetch, Cond.code yX11_fetch cX11_fetch 3 (some .int)]
def wsL_law_r27 : List Cond := [Cond.methodLink RX11 164 yX11_isPipe, Cond.instanceMethod yX11_isPipe, Cond.selects RX11 yX11_isPipe yX11_isPipe, Cond.code yX11_isPipe cX11_isPipe 2 (some .boolean), Cond.methodLink RX11 167 yX11_no, Cond.instanceMethod yX11_no, Cond.selects RX11 yX11_no yX11_no, Cond.code yX11_no cX11_no 1 (some .int), Cond.methodLink RL 57 yX10_undo, Cond.instanceMethod yX10_undo, Cond.selects RX10 yX10_undo yX10_undo, Cond.code yX10_undo cX10_undo 1 (some .int), Cond.fieldLink RX10 163 "GonePipes$Organ" "hour" "I", Cond.methodLink RX10 159 yX5_giveBack, Cond.instanceMethod yX5_giveBack, Cond.selects RX5 yX5_giveBack yX5_giveBack, Cond.code yX5_giveBack cX5_giveBack 3 (some .boolean), Cond.methodLink RL 60 yX11_undo, Cond.instanceMethod yX11_undo, Cond.selects RX11 yX11_undo yX11_undo, Cond.code yX11_undo cX11_undo 3 (some .int), Cond.methodLink RL 61 yX10_of, Cond.instanceMethod yX10_of, Cond.selects RX10 yX10_of yX10_of]
def wsL_law_r28 : List Cond := [Cond.code yX10_of cX10_of 3 (some .int), Cond.fieldLink RX10 169 "GonePipes$Organ" "kind" "[I", Cond.fieldLink RX10 172 "GonePipes$Organ" "note" "[I", Cond.fieldLink RX10 175 "GonePipes$Organ" "away" "[I", Cond.methodLink RX10 166 yX10_refuseBadTen, Cond.instanceMethod yX10_refuseBadTen, Cond.selects RX10 yX10_refuseBadTen yX10_refuseBadTen, Cond.code yX10_refuseBadTen cX10_refuseBadTen 1 (some .int), Cond.methodLink RX10 178 yX4_wouldGo, Cond.instanceMethod yX4_wouldGo, Cond.selects RX4 yX4_wouldGo yX4_wouldGo, Cond.code yX4_wouldGo cX4_wouldGo 3 (some .boolean), Cond.methodLink RL 64 yX11_of, Cond.instanceMethod yX11_of, Cond.selects RX11 yX11_of yX11_of, Cond.code yX11_of cX11_of 3 (some .int), Cond.constantLong RX11 170 (4), Cond.methodLink RL 65 yX10_at, Cond.instanceMethod yX10_at, Cond.selects RX10 yX10_at yX10_at, Cond.code yX10_at cX10_at 3 (some .int), Cond.methodLink RX10 182 yX10_isPlace, Cond.instanceMethod yX10_isPlace, Cond.selects RX10 yX10_isPlace yX10_isPlace]
def wsL_law_r29 : List Cond := [Cond.code yX10_isPlace cX10_isPlace 2 (some .boolean), Cond.methodLink RX10 185 yX4_toneWishedAt, Cond.methodLink RX10 189 yX4_isWished, Cond.methodLink RX10 192 yX4_pipesAt, Cond.methodLink RX10 195 yX4_howFar, Cond.instanceMethod yX4_howFar, Cond.selects RX4 yX4_howFar yX4_howFar, Cond.code yX4_howFar cX4_howFar 3 (some .int), Cond.methodLink RX4 110 Lib.Math.abs.name, Cond.static Lib.Math.abs.name, Cond.initialized "java/lang/Math", Cond.code Lib.Math.abs.name Lib.Math.abs.code 1 (some .int), Cond.methodLink RX4 107 yX4_eastOf, Cond.instanceMethod yX4_eastOf, Cond.selects RX4 yX4_eastOf yX4_eastOf, Cond.code yX4_eastOf cX4_eastOf 2 (some .int), Cond.methodLink RX4 115 yX4_northOf, Cond.instanceMethod yX4_northOf, Cond.selects RX4 yX4_northOf yX4_northOf, Cond.code yX4_northOf cX4_northOf 2 (some .int), Cond.methodLink RL 68 yX11_at, Cond.instanceMethod yX11_at, Cond.selects RX11 yX11_at yX11_at, Cond.code yX11_at cX11_at 5 (some .int)]
def wsL_law_r30 : List Cond := [Cond.constantLong RX11 175 (3), Cond.methodLink RX11 172 yX11_isPlace, Cond.instanceMethod yX11_isPlace, Cond.selects RX11 yX11_isPlace yX11_isPlace, Cond.code yX11_isPlace cX11_isPlace 2 (some .boolean), Cond.methodLink RX11 177 yX11_farOf, Cond.instanceMethod yX11_farOf, Cond.selects RX11 yX11_farOf yX11_farOf, Cond.code yX11_farOf cX11_farOf 2 (some .int), Cond.methodLink RL 69 yX10_then, Cond.instanceMethod yX10_then, Cond.selects RX10 yX10_then yX10_then, Cond.code yX10_then cX10_then 3 (some .int), Cond.methodLink RX10 199 yX4_takeStage, Cond.methodLink RX10 202 yX10_tryHours, Cond.instanceMethod yX10_tryHours, Cond.selects RX10 yX10_tryHours yX10_tryHours, Cond.code yX10_tryHours cX10_tryHours 3 none, Cond.methodLink RL 72 yX11_then, Cond.instanceMethod yX11_then, Cond.selects RX11 yX11_then yX11_then, Cond.code yX11_then cX11_then 3 (some .int), Cond.methodLink RX11 180 yX11_isThen, Cond.static yX11_isThen]
def wsL_law_r31 : List Cond := [Cond.code yX11_isThen cX11_isThen 1 (some .boolean), Cond.constantLong RX11 71 (72), Cond.methodLink RX11 183 yX11_goHours, Cond.instanceMethod yX11_goHours, Cond.selects RX11 yX11_goHours yX11_goHours, Cond.code yX11_goHours cX11_goHours 3 none, Cond.methodLink RL 73 yX10_left, Cond.instanceMethod yX10_left, Cond.selects RX10 yX10_left yX10_left, Cond.code yX10_left cX10_left 2 (some .int), Cond.methodLink RL 76 yX11_left, Cond.instanceMethod yX11_left, Cond.selects RX11 yX11_left yX11_left, Cond.code yX11_left cX11_left 2 (some .int), Cond.methodLink RL 77 yX10_plays, Cond.instanceMethod yX10_plays, Cond.selects RX10 yX10_plays yX10_plays, Cond.code yX10_plays cX10_plays 3 (some .int), Cond.methodLink RX10 205 yX10_isShift, Cond.static yX10_isShift, Cond.code yX10_isShift cX10_isShift 1 (some .boolean), Cond.methodLink RX10 208 yX4_notesInChurch, Cond.instanceMethod yX4_notesInChurch, Cond.selects RX4 yX4_notesInChurch yX4_notesInChurch]
def wsL_law_r32 : List Cond := [Cond.code yX4_notesInChurch cX4_notesInChurch 4 (some .long), Cond.methodLink RX10 212 yX4_howManyPlayed, Cond.instanceMethod yX4_howManyPlayed, Cond.selects RX4 yX4_howManyPlayed yX4_howManyPlayed, Cond.code yX4_howManyPlayed cX4_howManyPlayed 7 (some .int), Cond.methodLink RX4 118 yX4_hymnNote, Cond.instanceMethod yX4_hymnNote, Cond.selects RX4 yX4_hymnNote yX4_hymnNote, Cond.code yX4_hymnNote cX4_hymnNote 3 (some .int), Cond.static yX10_hasNote, Cond.code yX10_hasNote cX10_hasNote 3 (some .boolean), Cond.methodLink RL 80 yX11_plays, Cond.instanceMethod yX11_plays, Cond.selects RX11 yX11_plays yX11_plays, Cond.code yX11_plays cX11_plays 3 (some .int), Cond.methodLink RX11 198 yX11_isShift, Cond.static yX11_isShift, Cond.code yX11_isShift cX11_isShift 1 (some .boolean), Cond.constantLong RX11 67 (-6), Cond.constantLong RX11 69 (6), Cond.methodLink RX11 201 yX11_churchNow, Cond.instanceMethod yX11_churchNow, Cond.selects RX11 yX11_churchNow yX11_churchNow, Cond.code yX11_churchNow cX11_churchNow 1 (some .int)]
def wsL_law_r33 : List Cond := [Cond.methodLink RX11 194 yX11_playsBy, Cond.instanceMethod yX11_playsBy, Cond.selects RX11 yX11_playsBy yX11_playsBy, Cond.code yX11_playsBy cX11_playsBy 6 (some .int), Cond.methodLink RX11 187 yX11_noteOf, Cond.instanceMethod yX11_noteOf, Cond.selects RX11 yX11_noteOf yX11_noteOf, Cond.code yX11_noteOf cX11_noteOf 3 (some .int), Cond.methodLink RX11 190 yX11_isPlayed, Cond.instanceMethod yX11_isPlayed, Cond.selects RX11 yX11_isPlayed yX11_isPlayed, Cond.code yX11_isPlayed cX11_isPlayed 5 (some .boolean), Cond.methodLink RL 81 yX10_best, Cond.instanceMethod yX10_best, Cond.selects RX10 yX10_best yX10_best, Cond.code yX10_best cX10_best 9 (some .int), Cond.methodLink RL 84 yX11_best, Cond.instanceMethod yX11_best, Cond.selects RX11 yX11_best yX11_best, Cond.code yX11_best cX11_best 8 (some .int), Cond.methodLink RL 85 yX10_missing, Cond.instanceMethod yX10_missing, Cond.selects RX10 yX10_missing yX10_missing, Cond.code yX10_missing cX10_missing 8 (some .int)]
def wsL_law_r34 : List Cond := [Cond.methodLink RX10 216 yX4_hymnNote, Cond.methodLink RX10 219 yX10_hasNote, Cond.methodLink RL 88 yX11_missing, Cond.instanceMethod yX11_missing, Cond.selects RX11 yX11_missing yX11_missing, Cond.code yX11_missing cX11_missing 7 (some .int), Cond.methodLink RL 89 yX10_fetchAll, Cond.instanceMethod yX10_fetchAll, Cond.selects RX10 yX10_fetchAll yX10_fetchAll, Cond.code yX10_fetchAll cX10_fetchAll 7 (some .int), Cond.methodLink RX10 223 yX4_pipesToFetch, Cond.instanceMethod yX4_pipesToFetch, Cond.selects RX4 yX4_pipesToFetch yX4_pipesToFetch, Cond.code yX4_pipesToFetch cX4_pipesToFetch 9 (some .int), Cond.methodLink RX4 130 yX4_firstOfNote, Cond.instanceMethod yX4_firstOfNote, Cond.selects RX4 yX4_firstOfNote yX4_firstOfNote, Cond.code yX4_firstOfNote cX4_firstOfNote 3 (some .int), Cond.methodLink RX10 226 yX10_isFewer, Cond.static yX10_isFewer, Cond.code yX10_isFewer cX10_isFewer 4 (some .boolean), Cond.methodLink RX10 322 yJ6_bitCount_0f7a4, Cond.static yJ6_bitCount_0f7a4, Cond.initialized RJ6]
def wsL_law_r35 : List Cond := [Cond.code yJ6_bitCount_0f7a4 cJ6_bitCount_0f7a4 1 (some .int), Cond.constant RJ6 265 (1431655765), Cond.constant RJ6 266 (858993459), Cond.constant RJ6 267 (252645135), Cond.methodLink RL 92 yX11_fetchAll, Cond.instanceMethod yX11_fetchAll, Cond.selects RX11 yX11_fetchAll yX11_fetchAll, Cond.code yX11_fetchAll cX11_fetchAll 6 (some .int), Cond.methodLink RX11 204 yX11_isWhole, Cond.instanceMethod yX11_isWhole, Cond.selects RX11 yX11_isWhole yX11_isWhole, Cond.code yX11_isWhole cX11_isWhole 5 (some .boolean), Cond.methodLink RL 93 yX10_falls, Cond.instanceMethod yX10_falls, Cond.selects RX10 yX10_falls yX10_falls, Cond.code yX10_falls cX10_falls 3 (some .int), Cond.methodLink RX10 229 yX4_canBeWhole, Cond.instanceMethod yX4_canBeWhole, Cond.selects RX4 yX4_canBeWhole yX4_canBeWhole, Cond.code yX4_canBeWhole cX4_canBeWhole 5 (some .boolean), Cond.methodLink RX4 126 yX4_howManyPlayed, Cond.methodLink RL 96 yX11_falls, Cond.instanceMethod yX11_falls, Cond.selects RX11 yX11_falls yX11_falls]
def wsL_law_r36 : List Cond := [Cond.code yX11_falls cX11_falls 3 (some .int), Cond.methodLink RL 97 yX10_walk, Cond.instanceMethod yX10_walk, Cond.selects RX10 yX10_walk yX10_walk, Cond.code yX10_walk cX10_walk 3 (some .int), Cond.fieldLink RX10 240 "GonePipes$Walk" "length" "I", Cond.fieldLink RX10 243 "GonePipes$Walk" "first" "I", Cond.methodLink RX10 233 yX4_placesOf, Cond.instanceMethod yX4_placesOf, Cond.selects RX4 yX4_placesOf yX4_placesOf, Cond.code yX4_placesOf cX4_placesOf 4 (some .int), Cond.methodLink RX10 236 yX9_find, Cond.instanceMethod yX9_find, Cond.selects RX9 yX9_find yX9_find, Cond.code yX9_find cX9_find 5 none, Cond.fieldLink RX9 19 "GonePipes$Walk" "length" "I", Cond.fieldLink RX9 23 "GonePipes$Walk" "first" "I", Cond.constant RX9 26 (1000000), Cond.fieldLink RX9 27 "GonePipes$Organ" "places" "I", Cond.methodLink RX9 15 yX9_fill, Cond.instanceMethod yX9_fill, Cond.selects RX9 yX9_fill yX9_fill, Cond.code yX9_fill cX9_fill 5 none, Cond.methodLink RX9 36 yX9_leastFrom]
def wsL_law_r37 : List Cond := [Cond.instanceMethod yX9_leastFrom, Cond.selects RX9 yX9_leastFrom yX9_leastFrom, Cond.code yX9_leastFrom cX9_leastFrom 7 (some .int), Cond.methodLink RX9 40 Lib.Math.min.name, Cond.static Lib.Math.min.name, Cond.code Lib.Math.min.name Lib.Math.min.code 2 (some .int), Cond.methodLink RX9 32 yX4_howFar, Cond.methodLink RL 100 yX11_walk, Cond.instanceMethod yX11_walk, Cond.selects RX11 yX11_walk yX11_walk, Cond.code yX11_walk cX11_walk 6 (some .int), Cond.fieldLink RX11 214 "GonePipesModel" "shortest" "I", Cond.fieldLink RX11 217 "GonePipesModel" "goFirst" "I", Cond.methodLink RX11 226 yX11_layWalk, Cond.instanceMethod yX11_layWalk, Cond.selects RX11 yX11_layWalk yX11_layWalk, Cond.code yX11_layWalk cX11_layWalk 5 none, Cond.constant RX11 213 (1000000), Cond.methodLink RX11 220 yX11_longOf, Cond.instanceMethod yX11_longOf, Cond.selects RX11 yX11_longOf yX11_longOf, Cond.code yX11_longOf cX11_longOf 4 (some .int), Cond.methodLink RX11 210 yX11_between, Cond.instanceMethod yX11_between]
def wsL_law_r38 : List Cond := [Cond.selects RX11 yX11_between yX11_between, Cond.code yX11_between cX11_between 3 (some .int), Cond.methodLink RX11 207 yX11_apart, Cond.static yX11_apart, Cond.code yX11_apart cX11_apart 2 (some .int), Cond.methodLink RX11 223 yX11_nextOrder, Cond.instanceMethod yX11_nextOrder, Cond.selects RX11 yX11_nextOrder yX11_nextOrder, Cond.code yX11_nextOrder cX11_nextOrder 8 (some .boolean), Cond.methodLink RL 101 yX10_reading, Cond.instanceMethod yX10_reading, Cond.selects RX10 yX10_reading yX10_reading, Cond.code yX10_reading cX10_reading 5 (some .int), Cond.fieldLink RX10 250 "GonePipes$Organ" "readings" "I", Cond.methodLink RX10 246 yX4_addReading, Cond.instanceMethod yX4_addReading, Cond.selects RX4 yX4_addReading yX4_addReading, Cond.code yX4_addReading cX4_addReading 6 (some .boolean), Cond.methodLink RL 105 yX11_reading, Cond.instanceMethod yX11_reading, Cond.selects RX11 yX11_reading yX11_reading, Cond.code yX11_reading cX11_reading 6 (some .int), Cond.methodLink RL 106 yX10_forget, Cond.instanceMethod yX10_forget]
def wsL_law_r39 : List Cond := [Cond.selects RX10 yX10_forget yX10_forget, Cond.code yX10_forget cX10_forget 2 (some .int), Cond.methodLink RL 109 yX11_forget, Cond.instanceMethod yX11_forget, Cond.selects RX11 yX11_forget yX11_forget, Cond.code yX11_forget cX11_forget 2 (some .int), Cond.methodLink RL 110 yX10_may, Cond.instanceMethod yX10_may, Cond.selects RX10 yX10_may yX10_may, Cond.code yX10_may cX10_may 2 (some .int), Cond.methodLink RX10 253 yX10_kindsThatMayBe, Cond.instanceMethod yX10_kindsThatMayBe, Cond.selects RX10 yX10_kindsThatMayBe yX10_kindsThatMayBe, Cond.code yX10_kindsThatMayBe cX10_kindsThatMayBe 4 (some .int), Cond.methodLink RX10 311 yX10_areReadingsSo, Cond.instanceMethod yX10_areReadingsSo, Cond.selects RX10 yX10_areReadingsSo yX10_areReadingsSo, Cond.code yX10_areReadingsSo cX10_areReadingsSo 3 (some .boolean), Cond.methodLink RX10 315 yX4_lastReadingHour, Cond.instanceMethod yX4_lastReadingHour, Cond.selects RX4 yX4_lastReadingHour yX4_lastReadingHour, Cond.code yX4_lastReadingHour cX4_lastReadingHour 3 (some .int), Cond.methodLink RX4 133 Lib.Math.max.name, Cond.static Lib.Math.max.name]
def wsL_law_r40 : List Cond := [Cond.code Lib.Math.max.name Lib.Math.max.code 2 (some .int), Cond.methodLink RX10 318 yX4_agreesWith, Cond.instanceMethod yX4_agreesWith, Cond.selects RX4 yX4_agreesWith yX4_agreesWith, Cond.code yX4_agreesWith cX4_agreesWith 6 (some .boolean), Cond.methodLink RX4 136 yX4_isAt, Cond.instanceMethod yX4_isAt, Cond.selects RX4 yX4_isAt yX4_isAt, Cond.code yX4_isAt cX4_isAt 3 (some .boolean), Cond.methodLink RL 113 yX11_may, Cond.instanceMethod yX11_may, Cond.selects RX11 yX11_may yX11_may, Cond.code yX11_may cX11_may 2 (some .int), Cond.methodLink RX11 235 yX11_kindsOf, Cond.instanceMethod yX11_kindsOf, Cond.selects RX11 yX11_kindsOf yX11_kindsOf, Cond.code yX11_kindsOf cX11_kindsOf 4 (some .int), Cond.methodLink RX11 232 yX11_mayBe, Cond.instanceMethod yX11_mayBe, Cond.selects RX11 yX11_mayBe yX11_mayBe, Cond.code yX11_mayBe cX11_mayBe 6 (some .boolean), Cond.methodLink RX11 229 yX11_isReadSo, Cond.instanceMethod yX11_isReadSo, Cond.selects RX11 yX11_isReadSo yX11_isReadSo]
def wsL_law_r41 : List Cond := [Cond.code yX11_isReadSo cX11_isReadSo 3 (some .boolean), Cond.methodLink RL 114 yX10_listen, Cond.instanceMethod yX10_listen, Cond.selects RX10 yX10_listen yX10_listen, Cond.code yX10_listen cX10_listen 8 (some .int), Cond.methodLink RX10 256 yX10_tryKinds, Cond.instanceMethod yX10_tryKinds, Cond.selects RX10 yX10_tryKinds yX10_tryKinds, Cond.code yX10_tryKinds cX10_tryKinds 4 none, Cond.methodLink RX10 260 yX10_greaterPart, Cond.instanceMethod yX10_greaterPart, Cond.selects RX10 yX10_greaterPart yX10_greaterPart, Cond.code yX10_greaterPart cX10_greaterPart 5 (some .int), Cond.methodLink RX10 327 Lib.Math.max.name, Cond.methodLink RL 117 yX11_listen, Cond.instanceMethod yX11_listen, Cond.selects RX11 yX11_listen yX11_listen, Cond.code yX11_listen cX11_listen 9 (some .int), Cond.methodLink RL 118 yX10_wish, Cond.instanceMethod yX10_wish, Cond.selects RX10 yX10_wish yX10_wish, Cond.code yX10_wish cX10_wish 7 (some .int), Cond.methodLink RX10 263 yX4_wishTone, Cond.instanceMethod yX4_wishTone]
def wsL_law_r42 : List Cond := [Cond.selects RX4 yX4_wishTone yX4_wishTone, Cond.code yX4_wishTone cX4_wishTone 3 none, Cond.methodLink RL 121 yX11_wish, Cond.instanceMethod yX11_wish, Cond.selects RX11 yX11_wish yX11_wish, Cond.code yX11_wish cX11_wish 7 (some .int), Cond.methodLink RL 122 yX10_feast, Cond.instanceMethod yX10_feast, Cond.selects RX10 yX10_feast yX10_feast, Cond.code yX10_feast cX10_feast 13 (some .int), Cond.constantLong RX10 272 (10), Cond.methodLink RX10 266 yX4_isFirstOfItsNote, Cond.instanceMethod yX4_isFirstOfItsNote, Cond.selects RX4 yX4_isFirstOfItsNote yX4_isFirstOfItsNote, Cond.code yX4_isFirstOfItsNote cX4_isFirstOfItsNote 4 (some .boolean), Cond.methodLink RX10 269 yX4_howManyAwayOf, Cond.instanceMethod yX4_howManyAwayOf, Cond.selects RX4 yX4_howManyAwayOf yX4_howManyAwayOf, Cond.code yX4_howManyAwayOf cX4_howManyAwayOf 4 (some .int), Cond.methodLink RX10 274 yX10_power, Cond.static yX10_power, Cond.code yX10_power cX10_power 6 (some .long), Cond.methodLink RX10 278 yX10_setFraction, Cond.instanceMethod yX10_setFraction]
def wsL_law_r43 : List Cond := [Cond.selects RX10 yX10_setFraction yX10_setFraction, Cond.code yX10_setFraction cX10_setFraction 7 none, Cond.methodLink RX10 332 yX10_greatestDivisor, Cond.static yX10_greatestDivisor, Cond.code yX10_greatestDivisor cX10_greatestDivisor 7 (some .long), Cond.methodLink RL 126 yX11_feast, Cond.instanceMethod yX11_feast, Cond.selects RX11 yX11_feast yX11_feast, Cond.code yX11_feast cX11_feast 14 (some .int), Cond.constantLong RX11 241 (10), Cond.methodLink RX11 243 yX11_fraction, Cond.instanceMethod yX11_fraction, Cond.selects RX11 yX11_fraction yX11_fraction, Cond.code yX11_fraction cX11_fraction 11 none, Cond.fieldLink RX11 238 "GonePipesModel" "above" "J", Cond.methodLink RL 127 yX10_hours, Cond.instanceMethod yX10_hours, Cond.selects RX10 yX10_hours yX10_hours, Cond.code yX10_hours cX10_hours 6 (some .int), Cond.constant RX10 282 (999999), Cond.constantLong RX10 283 (1103515245), Cond.constantLong RX10 285 (12345), Cond.constantLong RX10 287 (2147483648), Cond.constantLong RX10 289 (65536)]
def wsL_law_r44 : List Cond := [Cond.methodLink RL 130 yX11_hours, Cond.instanceMethod yX11_hours, Cond.selects RX11 yX11_hours yX11_hours, Cond.code yX11_hours cX11_hours 7 (some .int), Cond.constantLong RX11 247 (999999), Cond.constantLong RX11 249 (60), Cond.constantLong RX11 251 (1103515245), Cond.constantLong RX11 253 (12345), Cond.constantLong RX11 255 (2147483648), Cond.constantLong RX11 257 (65536), Cond.methodLink RL 131 yX10_part, Cond.instanceMethod yX10_part, Cond.selects RX10 yX10_part yX10_part, Cond.code yX10_part cX10_part 2 (some .long), Cond.methodLink RL 135 yX11_part, Cond.instanceMethod yX11_part, Cond.selects RX11 yX11_part yX11_part, Cond.code yX11_part cX11_part 2 (some .long), Cond.methodLink RL 136 yX10_image, Cond.instanceMethod yX10_image, Cond.selects RX10 yX10_image yX10_image, Cond.code yX10_image cX10_image 2 (some .int), Cond.methodLink RL 139 yX11_image, Cond.instanceMethod yX11_image]
def wsL_law_r45 : List Cond := [Cond.selects RX11 yX11_image yX11_image, Cond.code yX11_image cX11_image 3 (some .int), Cond.methodLink RL 140 yX10_from, Cond.instanceMethod yX10_from, Cond.selects RX10 yX10_from yX10_from, Cond.code yX10_from cX10_from 2 (some .int), Cond.methodLink RL 143 yX11_from, Cond.instanceMethod yX11_from, Cond.selects RX11 yX11_from yX11_from, Cond.code yX11_from cX11_from 3 (some .int), Cond.methodLink RL 144 yX10_status, Cond.instanceMethod yX10_status, Cond.selects RX10 yX10_status yX10_status, Cond.code yX10_status cX10_status 2 (some .int), Cond.methodLink RL 147 yX11_status, Cond.instanceMethod yX11_status, Cond.selects RX11 yX11_status yX11_status, Cond.code yX11_status cX11_status 2 (some .int), Cond.methodLink RL 148 yX10_count, Cond.instanceMethod yX10_count, Cond.selects RX10 yX10_count yX10_count, Cond.code yX10_count cX10_count 2 (some .int), Cond.methodLink RX10 300 yX10_howMany, Cond.instanceMethod yX10_howMany]
def wsL_law_r46 : List Cond := [Cond.selects RX10 yX10_howMany yX10_howMany, Cond.code yX10_howMany cX10_howMany 2 (some .int), Cond.fieldLink RX10 336 "GonePipes$Past" "count" "I", Cond.methodLink RL 151 yX11_count, Cond.instanceMethod yX11_count, Cond.selects RX11 yX11_count yX11_count, Cond.code yX11_count cX11_count 2 (some .int), Cond.methodLink RX11 314 yX11_counted, Cond.instanceMethod yX11_counted, Cond.selects RX11 yX11_counted yX11_counted, Cond.code yX11_counted cX11_counted 2 (some .int), Cond.methodLink RL 152 yX10_digest, Cond.instanceMethod yX10_digest, Cond.selects RX10 yX10_digest yX10_digest, Cond.code yX10_digest cX10_digest 4 (some .long), Cond.constantLong RX10 303 (983), Cond.constantLong RX10 305 (31), Cond.methodLink RX10 307 yX4_digestOn, Cond.instanceMethod yX4_digestOn, Cond.selects RX4 yX4_digestOn yX4_digestOn, Cond.code yX4_digestOn cX4_digestOn 4 (some .long), Cond.constantLong RX4 144 (31), Cond.methodLink RX4 140 yX4_digestRow, Cond.static yX4_digestRow]
def wsL_law_r47 : List Cond := [Cond.code yX4_digestRow cX4_digestRow 6 (some .long), Cond.methodLink RL 156 yX11_digest, Cond.instanceMethod yX11_digest, Cond.selects RX11 yX11_digest yX11_digest, Cond.code yX11_digest cX11_digest 4 (some .long), Cond.constantLong RX11 319 (983), Cond.constantLong RX11 317 (31), Cond.methodLink RX11 321 yX11_sums, Cond.instanceMethod yX11_sums, Cond.selects RX11 yX11_sums yX11_sums, Cond.code yX11_sums cX11_sums 8 (some .long)]
def wsL_law : List Cond := (wsL_law_r1 ++ (wsL_law_r2 ++ (wsL_law_r3 ++ (wsL_law_r4 ++ (wsL_law_r5 ++ (wsL_law_r6 ++ (wsL_law_r7 ++ (wsL_law_r8 ++ (wsL_law_r9 ++ (wsL_law_r10 ++ (wsL_law_r11 ++ (wsL_law_r12 ++ (wsL_law_r13 ++ (wsL_law_r14 ++ (wsL_law_r15 ++ (wsL_law_r16 ++ (wsL_law_r17 ++ (wsL_law_r18 ++ (wsL_law_r19 ++ (wsL_law_r20 ++ (wsL_law_r21 ++ (wsL_law_r22 ++ (wsL_law_r23 ++ (wsL_law_r24 ++ (wsL_law_r25 ++ (wsL_law_r26 ++ (wsL_law_r27 ++ (wsL_law_r28 ++ (wsL_law_r29 ++ (wsL_law_r30 ++ (wsL_law_r31 ++ (wsL_law_r32 ++ (wsL_law_r33 ++ (wsL_law_r34 ++ (wsL_law_r35 ++ (wsL_law_r36 ++ (wsL_law_r37 ++ (wsL_law_r38 ++ (wsL_law_r39 ++ (wsL_law_r40 ++ (wsL_law_r41 ++ (wsL_law_r42 ++ (wsL_law_r43 ++ (wsL_law_r44 ++ (wsL_law_r45 ++ (wsL_law_r46 ++ wsL_law_r47)))))))))))))))))))))))))))))))))))))))))))))) ++ wsX100 ++ wsX110 ++ wsX60 ++ wsX70 ++ wsX10 ++ wsX00 ++ wsX20 ++ wsX30 ++ wsX40 ++ wsX80 ++ wsX90 ++ wsX50 ++ ([] : List Cond)
theorem inlX0 : ∀ w ∈ wsX00, w ∈ wsL_law := fun _ h => List.mem_append_left _ (List.mem_append_left _ (List.mem_append_left _ (List.mem_append_left _ (List.mem_append_left _ (List.mem_append_left _ (List.mem_append_left _ (List.mem_append_right _ h)))))))
theorem inlX1 : ∀ w ∈ wsX10, w ∈ wsL_law := fun _ h => List.mem_append_left _ (List.mem_append_left _ (List.mem_append_left _ (List.mem_append_left _ (List.mem_append_left _ (List.mem_append_left _ (List.mem_append_left _ (List.mem_append_left _ (List.mem_append_right _ h))))))))
theorem inlX2 : ∀ w ∈ wsX20, w ∈ wsL_law := fun _ h => List.mem_append_left _ (List.mem_append_left _ (List.mem_append_left _ (List.mem_append_left _ (List.mem_append_left _ (List.mem_append_left _ (List.mem_append_right _ h))))))
theorem inlX3 : ∀ w ∈ wsX30, w ∈ wsL_law := fun _ h => List.mem_append_left _ (List.mem_append_left _ (List.mem_append_left _ (List.mem_append_left _ (List.mem_append_left _ (List.mem_append_right _ h)))))
theorem inlX4 : ∀ w ∈ wsX40, w ∈ wsL_law := fun _ h => List.mem_append_left _ (List.mem_append_left _ (List.mem_append_left _ (List.mem_append_left _ (List.mem_append_right _ h))))
theorem inlX5 : ∀ w ∈ wsX50, w ∈ wsL_law := fun _ h => List.mem_append_left _ (List.mem_append_right _ h)
theorem inlX6 : ∀ w ∈ wsX60, w ∈ wsL_law := fun _ h => List.mem_append_left _ (List.mem_append_left _ (List.mem_append_left _ (List.mem_append_left _ (List.mem_append_left _ (List.mem_append_left _ (List.mem_append_left _ (List.mem_append_left _ (List.mem_append_left _ (List.mem_append_left _ (List.mem_append_right _ h))))))))))
theorem inlX7 : ∀ w ∈ wsX70, w ∈ wsL_law := fun _ h => List.mem_append_left _ (List.mem_append_left _ (List.mem_append_left _ (List.mem_append_left _ (List.mem_append_left _ (List.mem_append_left _ (List.mem_append_left _ (List.mem_append_left _ (List.mem_append_left _ (List.mem_append_right _ h)))))))))
theorem inlX8 : ∀ w ∈ wsX80, w ∈ wsL_law := fun _ h => List.mem_append_left _ (List.mem_append_left _ (List.mem_append_left _ (List.mem_append_right _ h)))
theorem inlX9 : ∀ w ∈ wsX90, w ∈ wsL_law := fun _ h => List.mem_append_left _ (List.mem_append_left _ (List.mem_append_right _ h))
theorem inlX10 : ∀ w ∈ wsX100, w ∈ wsL_law := fun _ h => List.mem_append_left _ (List.mem_append_left _ (List.mem_append_left _ (List.mem_append_left _ (List.mem_append_left _ (List.mem_append_left _ (List.mem_append_left _ (List.mem_append_left _ (List.mem_append_left _ (List.mem_append_left _ (List.mem_append_left _ (List.mem_append_left _ (List.mem_append_right _ h))))))))))))
theorem inlX11 : ∀ w ∈ wsX110, w ∈ wsL_law := fun _ h => List.mem_append_left _ (List.mem_append_left _ (List.mem_append_left _ (List.mem_append_left _ (List.mem_append_left _ (List.mem_append_left _ (List.mem_append_left _ (List.mem_append_left _ (List.mem_append_left _ (List.mem_append_left _ (List.mem_append_left _ (List.mem_append_right _ h)))))))))))
abbrev vwCl : List vw_C := [(RX0, TX0, 0), (RX1, TX1, 0), (RX2, TX2, 0), (RX3, TX3, 0), (RX4, TX4, 13), (RX5, TX5, 3), (RX6, TX6, 0), (RX7, TX7, 0), (RX8, TX8, 7), (RX9, TX9, 3), (RX10, TX10, 13), (RX11, TX11, 23)]
end
section
/-! THE LAYER: values, memory, shape, the judgement z_R over the machine, contracts z_C. Places of cells are numbers 0..73; 200 is the script, 300+i the string constant i. -/
abbrev z_V : Type := Int ⊕ Int ⊕ Nat ⊕ Unit
abbrev aI (x : Int) : z_V := Sum.inl x
abbrev aL (x : Int) : z_V := Sum.inr (Sum.inl x)
abbrev aR (k : Nat) : z_V := Sum.inr (Sum.inr (Sum.inl k))
abbrev aU : z_V := Sum.inr (Sum.inr (Sum.inr ()))
abbrev z_M : Type := Nat → Nat → Int
def z_up (I : z_M) (k j : Nat) (v : Int) : z_M := fun a b => if a = k ∧ b = j then v else I a b
abbrev inI (x : Int) : Prop := -2147483648 ≤ x ∧ x ≤ 2147483647
abbrev inL (x : Int) : Prop := -9223372036854775808 ≤ x ∧ x ≤ 9223372036854775807
def i32 (x : Int) : Int := x.bmod 4294967296
def i64 (x : Int) : Int := x.bmod 18446744073709551616
def z_i (x : Int) : Int32 := Int32.ofInt x
def z_l (x : Int) : Int64 := Int64.ofInt x
def z_cv (ad : Nat → Nat) : z_V → Value
  | .inl x => .int (z_i x)
  | .inr (.inl x) => .long (z_l x)
  | .inr (.inr (.inl k)) => .ref (ad k)
  | .inr (.inr (.inr _)) => .null
def z_ca : z_V → Prop
  | .inl x => inI x
  | .inr (.inl x) => inL x
  | .inr (.inr _) => True
theorem z_iT {x : Int} (h : inI x) : (z_i x).toInt = x := Int32.toInt_ofInt_of_le (by omega) (by omega)
theorem z_lT {x : Int} (h : inL x) : (z_l x).toInt = x := Int64.toInt_ofInt_of_le (by omega) (by omega)
theorem i32_in (x : Int) : inI (i32 x) := by
  have h1 := Int.le_bmod (x := x) (m := 4294967296) (by decide)
  have h2 := Int.bmod_lt (x := x) (m := 4294967296) (by decide)
  unfold inI i32
  omega
theorem i64_in (x : Int) : inL (i64 x) := by
  have h1 := Int.le_bmod (x := x) (m := 18446744073709551616) (by decide)
  have h2 := Int.bmod_lt (x := x) (m := 18446744073709551616) (by decide)
  unfold inL i64
  omega
theorem i32_id {x : Int} (h : inI x) : i32 x = x := Int.bmod_eq_of_le (by omega) (by omega)
theorem i64_id {x : Int} (h : inL x) : i64 x = x := Int.bmod_eq_of_le (by omega) (by omega)
theorem z_i32 (x : Int) : z_i (i32 x) = z_i x := Int32.toInt_inj.mp (by simp [z_i, i32, Int32.size])
theorem z_i64 (x : Int) : z_l (i64 x) = z_l x := Int64.toInt_inj.mp (by simp [z_l, i64, Int64.size])
theorem z_iadd (a b : Int) : z_i a + z_i b = z_i (a + b) := Int32.toInt_inj.mp (by simp [z_i, Int32.size])
theorem z_isub (a b : Int) : z_i a - z_i b = z_i (a - b) := Int32.toInt_inj.mp (by simp [z_i, Int32.size])
theorem z_imul (a b : Int) : z_i a * z_i b = z_i (a * b) := Int32.toInt_inj.mp (by simp [z_i, Int32.size])
theorem z_ineg (a : Int) : - z_i a = z_i (-a) := Int32.toInt_inj.mp (by simp [z_i, Int32.size])
theorem z_ladd (a b : Int) : z_l a + z_l b = z_l (a + b) := Int64.toInt_inj.mp (by simp [z_l, Int64.size])
theorem z_lsub (a b : Int) : z_l a - z_l b = z_l (a - b) := Int64.toInt_inj.mp (by simp [z_l, Int64.size])
theorem z_lmul (a b : Int) : z_l a * z_l b = z_l (a * b) := Int64.toInt_inj.mp (by simp [z_l, Int64.size])
theorem z_ilt {a b : Int} (ha : inI a) (hb : inI b) : z_i a < z_i b ↔ a < b := by rw [Int32.lt_iff_toInt_lt, z_iT ha, z_iT hb]
theorem z_ile {a b : Int} (ha : inI a) (hb : inI b) : z_i a ≤ z_i b ↔ a ≤ b := by rw [Int32.le_iff_toInt_le, z_iT ha, z_iT hb]
theorem z_ieq {a b : Int} (ha : inI a) (hb : inI b) : z_i a = z_i b ↔ a = b := by rw [← Int32.toInt_inj, z_iT ha, z_iT hb]
theorem z_llt {a b : Int} (ha : inL a) (hb : inL b) : z_l a < z_l b ↔ a < b := by rw [Int64.lt_iff_toInt_lt, z_lT ha, z_lT hb]
theorem z_leq {a b : Int} (ha : inL a) (hb : inL b) : z_l a = z_l b ↔ a = b := by rw [← Int64.toInt_inj, z_lT ha, z_lT hb]
theorem z_i0 : z_i 0 = 0 := by decide +kernel
theorem z_l0 : z_l 0 = 0 := by decide +kernel
theorem z_inI_inL {x : Int} (h : inI x) : inL x := by unfold inI at h; unfold inL; omega
theorem z_i2l {x : Int} (h : inI x) : (z_i x).toInt64 = z_l x := Int64.toInt_inj.mp (by rw [Int32.toInt_toInt64, z_iT h, z_lT (z_inI_inL h)])
theorem z_l2i (x : Int) : (z_l x).toInt32 = z_i x := Int64.toInt32_ofInt
theorem z_i2b {x : Int} (h : -128 ≤ x ∧ x ≤ 127) : (z_i x).toInt8.toInt32 = z_i x := by
  rw [z_i, Int32.toInt8_ofInt]
  exact Int8.toInt32_ofInt (by rw [show Int8.minValue.toInt = -128 from by decide]; exact h.1) (by rw [show Int8.maxValue.toInt = 127 from by decide]; exact h.2)
theorem z_tn {x : Int} (h : inI x) : (z_i x).toNatClampNeg = x.toNat := by rw [Int32.toNatClampNeg, z_iT h]
theorem z_vp {x : Int} {n : Nat} (h : inI x) (h0 : 0 ≤ x) (h1 : x < n) : vp_in (z_i x) n := by rw [vp_in_iff, z_iT h]; exact ⟨h0, h1⟩
theorem z_rem {a b : Int} (ha : inI a) (hb : inI b) : z_i a - z_i a / z_i b * z_i b = z_i (a.tmod b) := by
  apply Int32.toInt_inj.mp
  rw [rem_toInt, z_iT ha, z_iT hb]
  symm
  apply z_iT
  have h1 := Int.natAbs_tmod a b
  have h2 : (a.natAbs % b.natAbs) ≤ a.natAbs := Nat.mod_le _ _
  unfold inI at ha ⊢
  by_cases hz : 0 ≤ a
  · have h3 : 0 ≤ a.tmod b := Int.tmod_nonneg b hz
    omega
  · have h3 : a.tmod b ≤ 0 := by
      have h4 := Int.tmod_nonneg b (show 0 ≤ -a by omega)
      rw [Int.neg_tmod] at h4
      omega
    omega
end
section
/-! the shape of the heap: 74 cells; a cell's sort: 0..11 an object of that class (its fields), 20 an int array (its length), 21 bytes, 22 booleans, 23 Organs, 24 Plains -/
def z_org : List (Nat × Nat) := [(4, 13), (20, 25), (20, 8), (20, 8), (20, 8), (20, 8), (20, 3), (20, 24), (20, 24), (5, 3), (20, 136)]
def z_sh : List (Nat × Nat) := [(10, 13), (24, 6), (6, 0), (7, 0), (1, 0), (0, 0), (2, 0), (3, 0)] ++ (z_org ++ (z_org ++ ((23, 2) :: (z_org ++ (z_org ++ [(22, 2), (8, 7), (21, 150), (20, 5), (9, 3), (20, 160), (20, 6), (11, 23), (20, 249), (20, 498), (22, 2), (20, 3), (20, 8), (20, 8), (20, 8), (20, 5), (20, 5), (20, 6), (20, 150), (20, 113), (20, 5)])))))
def z_cl (k : Nat) : Nat := (z_sh.getD k (99, 0)).1
def z_n (k : Nat) : Nat := (z_sh.getD k (99, 0)).2
/-- a class's fields: 0 int, 1 long, 2 a reference -/
def z_fts : List (List Nat) := [[], [], [], [], [0, 0, 0, 0, 2, 2, 2, 2, 2, 2, 2, 2, 2], [0, 0, 2], [], [], [0, 2, 2, 0, 0, 0, 0], [0, 0, 2], [2, 2, 2, 2, 2, 2, 2, 2, 1, 1, 0, 0, 0], [2, 2, 2, 2, 1, 1, 0, 2, 2, 2, 2, 2, 0, 0, 2, 2, 0, 0, 0, 0, 0, 2, 2]]
def z_ft (c j : Nat) : Nat := (z_fts.getD c []).getD j 2
/-- where a reference points: it never changes -/
def z_rf (k j : Nat) : Nat :=
  if z_cl k = 4 then k + (j - 3) else if z_cl k = 5 then k + 1 else if z_cl k = 8 then k + j else if z_cl k = 9 then k + 1
  else if z_cl k = 10 then [1, 8, 19, 30, 53, 54, 57, 59].getD j 0
  else if z_cl k = 11 then [61, 62, 63, 64, 0, 0, 0, 65, 66, 67, 68, 69, 0, 0, 70, 71, 0, 0, 0, 0, 0, 72, 73].getD j 0
  else if z_cl k = 23 then [31, 42].getD j 0 else 2 + j
def z_fv (ad : Nat → Nat) (I : z_M) (k j t : Nat) : Value := if t = 0 then .int (z_i (I k j)) else if t = 1 then .long (z_l (I k j)) else .ref (ad (z_rf k j))
def z_fs (ad : Nat → Nat) (I : z_M) (k : Nat) : List Value := (List.range (z_n k)).map (fun j => z_fv ad I k j (z_ft (z_cl k) j))
def z_ent (ad : Nat → Nat) (cA : Nat → ClassId) (I : z_M) (k : Nat) : va_E :=
  if z_cl k < 12 then .inr (z_cl k, z_fs ad I k) else if z_cl k < 23 then .inl (cA k, (z_n k, .inl (fun j => z_i (I k j)))) else .inl (cA k, (z_n k, .inr (.inr (.inr (.inr (fun j => some (ad (z_rf k j))))))))
def z_ws (ad : Nat → Nat) (cA : Nat → ClassId) (I : z_M) : va_W := (List.range 74).map (fun k => (ad k, z_ent ad cA I k))
theorem z_ws_get {ad : Nat → Nat} {cA : Nat → ClassId} {I : z_M} {k : Nat} (hk : k < 74) : (z_ws ad cA I)[k]? = some (ad k, z_ent ad cA I k) := by simp [z_ws, hk]
theorem z_ws_at {ad : Nat → Nat} {cA : Nat → ClassId} {I : z_M} {k : Nat} {q : Nat × va_E} (h : (z_ws ad cA I)[k]? = some q) : k < 74 ∧ q = (ad k, z_ent ad cA I k) := by
  have hk : k < 74 := by
    have := (List.getElem?_eq_some_iff.mp h).1
    simpa [z_ws] using this
  rw [z_ws_get hk] at h
  exact ⟨hk, (Option.some.inj h).symm⟩
def z_row (I : z_M) (k : Nat) (f : Nat → Int) : z_M := fun a b => if a = k then f b else I a b
theorem z_ent_congr {ad : Nat → Nat} {cA : Nat → ClassId} {I I' : z_M} {k : Nat} (h : ∀ j, I k j = I' k j) : z_ent ad cA I k = z_ent ad cA I' k := by
  unfold z_ent z_fs z_fv
  simp only [h]
theorem z_ws_set {ad : Nat → Nat} {cA : Nat → ClassId} {I I' : z_M} {k : Nat} {e : va_E} (h : ∀ a, a ≠ k → ∀ b, I' a b = I a b) (he : e = z_ent ad cA I' k) : (z_ws ad cA I).set k (ad k, e) = z_ws ad cA I' := by
  apply List.ext_getElem?
  intro i
  rw [List.getElem?_set]
  by_cases hi : k = i
  · subst hi
    rw [if_pos rfl]
    by_cases hk : k < 74
    · rw [z_ws_get hk, if_pos (by simpa [z_ws] using hk), he]
    · rw [if_neg (by simpa [z_ws] using hk)]
      symm
      rw [List.getElem?_eq_none_iff]
      simp [z_ws]
      omega
  · rw [if_neg hi]
    by_cases hk : i < 74
    · rw [z_ws_get hk, z_ws_get hk, z_ent_congr (fun j => (h i (fun q => hi q.symm) j).symm)]
    · rw [List.getElem?_eq_none_iff.mpr (by simp [z_ws]; omega), List.getElem?_eq_none_iff.mpr (by simp [z_ws]; omega)]
def z_ty (k : Nat) : FieldType := if z_cl k = 21 then .byte else if z_cl k = 22 then .boolean else if z_cl k = 23 then .object "GonePipes$Organ" else if z_cl k = 24 then .object "GonePipes$Plain" else .int
def z_tys (cA : Nat → ClassId) : List (ClassId × FieldType) := (List.range 74).map (fun k => (cA k, z_ty k))
theorem z_tys_get {cA : Nat → ClassId} {k : Nat} (hk : k < 74) : (z_tys cA)[k]? = some (cA k, z_ty k) := by simp [z_tys, hk]
def z_lg (k j : Nat) : Bool := decide (z_cl k < 12) && decide (z_ft (z_cl k) j = 1)
/-- what memory holds is in range -/
def z_CI (I : z_M) : Prop := ∀ k j, inL (I k j) ∧ (z_lg k j = false → inI (I k j))
abbrev z_G : Type := va_G × (Nat → Nat) × (Nat → ClassId) × (Nat → Prop) × (Nat × (Nat → Int)) × (Nat → Nat)
abbrev gD (Γ : z_G) : va_G := Γ.1
abbrev gad (Γ : z_G) : Nat → Nat := Γ.2.1
abbrev gcA (Γ : z_G) : Nat → ClassId := Γ.2.2.1
abbrev gA (Γ : z_G) : Nat → Prop := Γ.2.2.2.1
abbrev gL (Γ : z_G) : Nat := Γ.2.2.2.2.1.1
abbrev gxs (Γ : z_G) : Nat → Int := Γ.2.2.2.2.1.2
abbrev gaV (Γ : z_G) : Nat → Nat := Γ.2.2.2.2.2
def z_ok (Γ : z_G) : Prop := (∀ i j, i < 74 → j < 74 → gad Γ i = gad Γ j → i = j) ∧ (∀ k, k < 74 → gA Γ (gad Γ k))
theorem z_ok.D {Γ : z_G} (h : z_ok Γ) (I : z_M) : va_D (gA Γ) (z_ws (gad Γ) (gcA Γ) I) := by
  refine ⟨fun i j p q hi hj hpq => ?_, fun k q hk => ?_⟩
  · obtain ⟨hi1, rfl⟩ := z_ws_at hi
    obtain ⟨hj1, rfl⟩ := z_ws_at hj
    exact h.1 i j hi1 hj1 hpq
  · obtain ⟨hk1, rfl⟩ := z_ws_at hk
    exact h.2 k hk1
def z_tx (i : Nat) : String := ["organ", "place", "pipe", "hymn"].getD i ""
def z_ix (i : Nat) : Nat := [34, 54, 62, 70].getD i 0
def z_by : List (List Int32) := [[111, 114, 103, 97, 110], [112, 108, 97, 99, 101], [112, 105, 112, 101], [104, 121, 109, 110]]
/-- the string constants, and the JDK's statics on their way -/
def z_St (Γ : z_G) (U : State) : Prop := vk_S 4 [5, 5, 4, 4] z_by (fun i => gad Γ (300 + i)) (gaV Γ) (gA Γ) U U.heap ∧ (∀ i, i < 4 → vk_R "GonePipes$Text" (z_ix i) (z_tx i) (gad Γ (300 + i)) U) ∧ va_Z "java/lang/String" "COMPACT_STRINGS" "Z" (.int 1) (gA Γ) U U.heap ∧ va_Zq "jdk/internal/util/Preconditions" "SIOOBE_FORMATTER" "Ljava/util/function/BiFunction;" (gA Γ) U U.heap ∧ va_Nw (.methodLinkNest RX4 122 yX10_hasNote "GonePipes") U
theorem z_St.go {Γ : z_G} {s U : State} (h : z_St Γ s) (hW : s.WarmedH U.vm) (hq : ∀ a : Nat, a < s.heap.size → ¬ gA Γ a → U.heap[a]? = s.heap[a]?) : z_St Γ U :=
  ⟨(h.1.moved hW.alike).kept hq, fun i hi => (h.2.1 i hi).warm hW, (h.2.2.1.moved hW.alike).kept hq, (h.2.2.2.1.moved hW.alike).kept hq, h.2.2.2.2.warmM hW⟩
theorem z_St.calling {Γ : z_G} {U : State} (h : z_St Γ U) (g : JFrame) (mk : MethodId) (a : Array Value) : z_St Γ (U.calling g mk a) :=
  ⟨h.1.moved (Vm.Alike.refl U.vm), fun i hi => (h.2.1 i hi).same rfl, h.2.2.1.moved (Vm.Alike.refl U.vm), h.2.2.2.1.moved (Vm.Alike.refl U.vm), h.2.2.2.2.same rfl rfl⟩
/-- words beside the law's list: super.mayGo of the Bourdon -/
def z_Wx : List Cond := [.methodLink RX0 13 ⟨RX7, "mayGo", "(LGonePipes$Organ;I)Z"⟩, .sameMethod RX7 RX6 "mayGo" "(LGonePipes$Organ;I)Z", .superclass RX0 RX7, .superclass RX7 RX6]
def z_W : List Cond := wsL_law ++ z_Wx
theorem z_WL {w : Cond} (h : w ∈ wsL_law) : w ∈ z_W := List.mem_append_left _ h
theorem z_good : ∀ w ∈ z_W, goodWord w = true := by
  have h : z_W.all goodWord = true := by decide +kernel
  exact fun w hw => List.all_eq_true.mp h w hw
theorem z_GoodIn {ws : List Cond} (h : ∀ w ∈ ws, w ∈ z_W) : GoodIn z_W ws := fun w hw => ⟨h w hw, good_of_word (z_good w (h w hw))⟩
/-- a method: its class, code, locals, answer, room, what is made by it, what else holds -/
abbrev z_Mt : Type := String × ByteArray × Nat × Option FieldType × Room × (Nat × Nat) × (z_G → State → Prop)
def z_Good (μ : z_Mt) (p : Program) (Rm : Room) (s : State) (m : MethodId) (args : Array Value) (meth : Method) (c : Code) (Γ : z_G) : Prop :=
  p.tables.exec = Jvm.exec ∧ c.code = μ.2.1 ∧ meth.sig.returnType = μ.2.2.2.1 ∧ c.maxLocals = μ.2.2.1 ∧ s.vm.findClass μ.1 = some m.cls ∧ (∀ w ∈ z_W, w.before args s = true) ∧ meth.locks = false ∧ Rm = μ.2.2.2.2.1 ∧ va_K (gD Γ) vwCl (z_tys (gcA Γ)) s ∧ z_ok Γ ∧ z_St Γ s ∧ μ.2.2.2.2.2.2 Γ s
/-- the machine's locals hold the listed ones -/
def z_lo (Γ : z_G) (lsA : Array Slot) (n : Nat) (ls : List z_V) : Prop := lsA.size = n ∧ lv_wf lsA ∧ ∀ (i : Nat) (v : z_V), ls[i]? = some v → v ≠ aU → lsA[i]? = some (.val (z_cv (gad Γ) v))
abbrev z_Fin : Type := z_G → List Frame → Array Value → State → State → Prop
def z_R (μ : z_Mt) (fin : z_Fin) (pc : Nat) (ls st : List z_V) (I : z_M) : Prop :=
  z_CI I → (∀ v ∈ ls, z_ca v) → (∀ v ∈ st, z_ca v) → ∀ (p : Program) (l : Launch) (e : Env) (Rm : Room) (s : State) (m : MethodId) (args : Array Value) (below : List Frame) (meth : Method) (c : Code) (Γ : z_G), z_Good μ p Rm s m args meth c Γ → ∀ (H : Heap) (locs : List Loc) (lsA : Array Slot), va_P (gD Γ) vwCl (z_ws (gad Γ) (gcA Γ) I) H → va_S (gA Γ) s.heap H locs → z_lo Γ lsA μ.2.2.1 ls →
    W p l e Rm s m args below meth c H locs μ.2.2.2.2.2.1.1 μ.2.2.2.2.2.1.2 (fin Γ below args s) (F0 m pc lsA (st.map (z_cv (gad Γ))))
/-- a contract's end -/
def z_Q (Γ : z_G) (Q : Option z_V → z_M → Prop) : Array Value → State → Outcome → State → Prop := fun _ st oc t =>
  (∃ (r : Option z_V) (I' : z_M), oc = .returned (r.map (z_cv (gad Γ))) ∧ Q r I' ∧ z_CI I' ∧ (∀ v, r = some v → z_ca v) ∧ va_P (gD Γ) vwCl (z_ws (gad Γ) (gcA Γ) I') t.heap) ∧ va_F (gA Γ) st t
def z_B (Γ : z_G) (I : z_M) (U : State) : Prop := va_P (gD Γ) vwCl (z_ws (gad Γ) (gcA Γ) I) U.heap ∧ va_K (gD Γ) vwCl (z_tys (gcA Γ)) U ∧ z_St Γ U
/-- a method's contract at given arguments and memory -/
def z_C (y : MethodName) (cc : ByteArray) (nL : Nat) (ret : Option FieldType) (rm : Room) (args : List z_V) (I : z_M) (Q : Option z_V → z_M → Prop) : Prop :=
  z_CI I → (∀ v ∈ args, z_ca v) → ∀ (l : Launch) (Γ : z_G), z_ok Γ → Met l y (.code y cc nL ret :: z_W) rm (va_Pc (args.map (z_cv (gad Γ))) (z_B Γ I)) (z_Q Γ Q) 0 0 (gA Γ)
def z_fin (Q : Option z_V → z_M → Prop) : z_Fin := fun Γ below args s => MQ below (z_Q Γ Q) args s 0 0 (gA Γ)
abbrev z_mt (own : String) (cc : ByteArray) (nL : Nat) (ret : Option FieldType) (rm : Room) : z_Mt := (own, cc, nL, ret, rm, (0, 0), fun _ _ => True)
/-- the locals with which a method begins -/
def z_lay : List z_V → List z_V
  | [] => []
  | v :: vs => match v with
    | .inr (.inl x) => aL x :: aU :: z_lay vs
    | w => w :: z_lay vs
theorem z_cat1 {ad : Nat → Nat} {v : z_V} (h : ∀ x, v ≠ aL x) : (z_cv ad v).category = 1 := by
  rcases v with x | x | x | x
  · rfl
  · exact absurd rfl (h x)
  · rfl
  · rfl
theorem z_lay_in {ad : Nat → Nat} : ∀ (vs : List z_V) (k i : Nat) (v : z_V), (z_lay vs)[i]? = some v → v ≠ aU → (k + i, z_cv ad v) ∈ lv_args k (vs.map (z_cv ad))
  | [], _, _, _, h, _ => by simp [z_lay] at h
  | w :: vs, k, i, v, h, hv => by
    have gen : (∀ x, w ≠ aL x) → (k + i, z_cv ad v) ∈ lv_args k ((w :: vs).map (z_cv ad)) := by
      intro hw
      have e : z_lay (w :: vs) = w :: z_lay vs := by
        rcases w with x | x | x | x
        · rfl
        · exact absurd rfl (hw x)
        · rfl
        · rfl
      rw [e] at h
      rw [List.map_cons]
      show _ ∈ (k, z_cv ad w) :: lv_args (if (z_cv ad w).category = 2 then k + 2 else k + 1) _
      rw [z_cat1 hw, if_neg (by decide)]
      cases i with
      | zero => simp at h; subst h; exact List.mem_cons_self
      | succ i =>
        rw [List.getElem?_cons_succ] at h
        have := z_lay_in (ad := ad) vs (k + 1) i v h hv
        rw [show k + (i + 1) = k + 1 + i by omega]
        exact List.mem_cons_of_mem _ this
    rcases w with x | x | x | x
    · exact gen (fun _ h => by cases h)
    · show _ ∈ (k, _) :: lv_args (k + 2) _
      have h : (aL x :: aU :: z_lay vs)[i]? = some v := h
      match i, h with
      | 0, h => simp at h; subst h; exact List.mem_cons_self
      | 1, h => simp at h; exact absurd h.symm hv
      | i + 2, h =>
        rw [List.getElem?_cons_succ, List.getElem?_cons_succ] at h
        have := z_lay_in (ad := ad) vs (k + 2) i v h hv
        rw [show k + (i + 2) = k + 2 + i by omega]
        exact List.mem_cons_of_mem _ this
    · exact gen (fun _ h => by cases h)
    · exact gen (fun _ h => by cases h)
theorem z_sl_len (ad : Nat → Nat) : ∀ args : List z_V, (lg_sl (args.map (z_cv ad))).length = (lg_sl (args.map (z_cv (fun _ => 0)))).length
  | [] => rfl
  | v :: vs => by
    have ih := z_sl_len ad vs
    simp only [lg_sl, List.map_cons, List.flatMap_cons, List.length_append] at ih ⊢
    rw [ih]
    congr 1
    rcases v with x | x | x | x <;> rfl
/-- from the entry: a contract out of a walk -/
theorem z_intro {y : MethodName} {cc : ByteArray} {nL : Nat} {ret : Option FieldType} {rm : Room} {args : List z_V} {I : z_M} {Q : Option z_V → z_M → Prop} (hy : plainName y.cls = true) (n : Nat) (hn : (lg_sl (args.map (z_cv (fun _ => 0)))).length ≤ nL) (h : z_R (z_mt y.cls cc nL ret rm) (z_fin Q) 0 (z_lay args ++ List.replicate n aU) [] I) : z_C y cc nL ret rm args I Q := by
  intro hC hA l Γ hok
  refine Met.ofW (cc := cc) (maxL := nL) (ret := ret) hy rfl ?_
  intro p e s m args' below meth c s₁ B hml hv
  obtain ⟨rfl, hP, hK, hSt⟩ := hv
  have hts := atoms_spec (ws := .code y cc nL ret :: z_W) B.pre
  have hl := lv_entry (args.map (z_cv (gad Γ))) (n := nL) (by rw [z_sl_len]; exact hn)
  rw [lg_entry_eq]
  generalize (lg_sl (args.map (z_cv (gad Γ))) ++ List.replicate (nL - (lg_sl (args.map (z_cv (gad Γ)))).length) Slot.unset).toArray = lsA at hl ⊢
  have hlo : z_lo Γ lsA nL (z_lay args ++ List.replicate n aU) := by
    refine ⟨hl.1, hl.2.1, fun i v hi hv => ?_⟩
    by_cases hlt : i < (z_lay args).length
    · rw [List.getElem?_append_left hlt] at hi
      have h1 := z_lay_in (ad := gad Γ) args 0 i v hi hv
      rw [Nat.zero_add] at h1
      exact hl.2.2 _ h1
    · rw [List.getElem?_append_right (by omega)] at hi
      exact absurd (List.eq_of_mem_replicate (List.mem_of_getElem? hi)) hv
  have hca : ∀ (vs : List z_V), (∀ v ∈ vs, z_ca v) → ∀ v ∈ z_lay vs, z_ca v := by
    intro vs
    induction vs with
    | nil => intro _ v hv; cases hv
    | cons w vs ih =>
      intro hw v hv
      have hvs := ih (fun v h => hw v (List.mem_cons_of_mem _ h))
      have h0 := hw w List.mem_cons_self
      rcases w with x | x | x | x
      · rcases List.mem_cons.mp (show v ∈ aI x :: z_lay vs from hv) with rfl | h
        · exact h0
        · exact hvs v h
      · rcases List.mem_cons.mp (show v ∈ aL x :: aU :: z_lay vs from hv) with rfl | h
        · exact h0
        · rcases List.mem_cons.mp h with rfl | h
          · exact trivial
          · exact hvs v h
      · rcases List.mem_cons.mp (show v ∈ aR x :: z_lay vs from hv) with rfl | h
        · exact h0
        · exact hvs v h
      · rcases List.mem_cons.mp (show v ∈ (Sum.inr (Sum.inr (Sum.inr x))) :: z_lay vs from hv) with rfl | h
        · exact h0
        · exact hvs v h
  refine h hC (fun v hv => ?_) (fun v hv => by cases hv) p l e rm s m _ below meth c Γ ⟨B.exec, B.bytes, B.returns, hml, findClass_of_methodNamed B.named, fun w hw => hts w (List.mem_cons_of_mem _ hw), B.notSynchronized, rfl, hK, hok, hSt, trivial⟩ s.heap [] lsA hP va_S.rf hlo
  rcases List.mem_append.mp hv with h1 | h1
  · exact hca args hA v h1
  · rw [List.eq_of_mem_replicate h1]; exact trivial
end
section
/-! facts on words for the rules -/
theorem z_remin {a b : Int} (ha : inI a) : inI (a.tmod b) := by
  have h1 := Int.natAbs_tmod a b
  have h2 : (a.natAbs % b.natAbs) ≤ a.natAbs := Nat.mod_le _ _
  unfold inI at ha ⊢
  by_cases hz : 0 ≤ a
  · have h3 : 0 ≤ a.tmod b := Int.tmod_nonneg b hz
    omega
  · have h3 : a.tmod b ≤ 0 := by
      have h4 := Int.tmod_nonneg b (show 0 ≤ -a by omega)
      rw [Int.neg_tmod] at h4
      omega
    omega
theorem z_nat {x : Int} (h : 0 ≤ x) : ∃ n : Nat, x = (n : Int) := ⟨x.toNat, by omega⟩
theorem z_iN (n : Nat) : z_i (n : Int) = nI n := by
  unfold z_i nI
  exact Int32.ofInt_eq_ofNat
theorem z_lN (n : Nat) : z_l (n : Int) = lN n := by
  unfold z_l lN
  exact Int64.ofInt_eq_ofNat
theorem z_ldivE {x y : Int} (hx : inL x) (hy : inL y) (h0 : 0 ≤ x) (h1 : 0 < y) : z_l x / z_l y = z_l (x / y) := by
  obtain ⟨a, rfl⟩ := z_nat h0
  obtain ⟨b, rfl⟩ := z_nat (Int.le_of_lt h1)
  rw [z_lN, z_lN, pk_lDiv (by unfold inL at hx; omega) (by omega) (by unfold inL at hy; omega), ← z_lN]
  rfl
theorem z_ldivin {x y : Int} (hx : inL x) (h0 : 0 ≤ x) (h1 : 0 < y) : inL (x / y) := by
  have h2 := Int.ediv_nonneg h0 (Int.le_of_lt h1)
  have h3 := Int.ediv_le_self y h0
  unfold inL at hx ⊢
  omega
theorem z_lremE {x y : Int} (hx : inL x) (hy : inL y) (h0 : 0 ≤ x) (h1 : 0 < y) : z_l x - z_l x / z_l y * z_l y = z_l (x % y) := by
  obtain ⟨a, rfl⟩ := z_nat h0
  obtain ⟨b, rfl⟩ := z_nat (Int.le_of_lt h1)
  rw [z_lN, z_lN, pk_lRem (by unfold inL at hx; omega) (by omega) (by unfold inL at hy; omega), ← z_lN]
  rfl
theorem z_lremin {x y : Int} (hx : inL x) (h0 : 0 ≤ x) (h1 : 0 < y) : inL (x % y) := by
  obtain ⟨a, rfl⟩ := z_nat h0
  obtain ⟨b, rfl⟩ := z_nat (Int.le_of_lt h1)
  have := Nat.mod_le a b
  unfold inL at hx ⊢
  omega
theorem z_lcmpE {x y : Int} (hx : inL x) (hy : inL y) : lg_cmp (z_l x) (z_l y) = z_i (if y < x then 1 else if x = y then 0 else -1) := by
  unfold lg_cmp
  by_cases h1 : y < x
  · rw [if_pos ((z_llt hy hx).mpr h1), if_pos h1]; rfl
  · rw [if_neg (fun q => h1 ((z_llt hy hx).mp q)), if_neg h1]
    by_cases h2 : x = y
    · rw [if_pos ((z_leq hx hy).mpr h2), if_pos h2]; rfl
    · rw [if_neg (fun q => h2 ((z_leq hx hy).mp q)), if_neg h2]; rfl
theorem z_lcmpin (x y : Int) : inI (if y < x then 1 else if x = y then 0 else -1) := by
  split
  · decide
  · split <;> decide
theorem z_natin {n : Nat} (h : n < 2147483648) : inI (n : Int) := by unfold inI; omega
theorem z_natinL {n : Nat} (h : n < 9223372036854775808) : inL (n : Int) := by unfold inL; omega
theorem z_iandE (a b : Nat) : z_i (a : Int) &&& z_i (b : Int) = z_i ((a &&& b : Nat) : Int) := by
  rw [z_iN, z_iN, z_iN]
  apply Int32.toBitVec_inj.mp
  simp [nI, Int32.toBitVec_ofNat', BitVec.ofNat_and]
theorem z_iorE (a b : Nat) : z_i (a : Int) ||| z_i (b : Int) = z_i ((a ||| b : Nat) : Int) := by
  rw [z_iN, z_iN, z_iN]
  apply Int32.toBitVec_inj.mp
  simp [nI, Int32.toBitVec_ofNat', BitVec.ofNat_or]
theorem z_ixorE (a b : Nat) : z_i (a : Int) ^^^ z_i (b : Int) = z_i ((a ^^^ b : Nat) : Int) := by
  rw [z_iN, z_iN, z_iN]
  apply Int32.toBitVec_inj.mp
  simp [nI, Int32.toBitVec_ofNat', BitVec.ofNat_xor]
theorem z_landE (a b : Nat) : z_l (a : Int) &&& z_l (b : Int) = z_l ((a &&& b : Nat) : Int) := by
  rw [z_lN, z_lN, z_lN]
  apply Int64.toBitVec_inj.mp
  simp [lN, Int64.toBitVec_ofNat', BitVec.ofNat_and]
theorem z_lorE (a b : Nat) : z_l (a : Int) ||| z_l (b : Int) = z_l ((a ||| b : Nat) : Int) := by
  rw [z_lN, z_lN, z_lN]
  apply Int64.toBitVec_inj.mp
  simp [lN, Int64.toBitVec_ofNat', BitVec.ofNat_or]
theorem z_iandin {a b : Nat} (ha : inI (a : Int)) (hb : inI (b : Int)) : inI ((a &&& b : Nat) : Int) := by
  have := Nat.and_le_left (n := a) (m := b)
  unfold inI at ha ⊢
  omega
theorem z_iorin {a b : Nat} (ha : inI (a : Int)) (hb : inI (b : Int)) : inI ((a ||| b : Nat) : Int) :=
  z_natin (Nat.or_lt_two_pow (n := 31) (by unfold inI at ha; omega) (by unfold inI at hb; omega))
theorem z_ixorin {a b : Nat} (ha : inI (a : Int)) (hb : inI (b : Int)) : inI ((a ^^^ b : Nat) : Int) :=
  z_natin (Nat.xor_lt_two_pow (n := 31) (by unfold inI at ha; omega) (by unfold inI at hb; omega))
theorem z_landin {a b : Nat} (ha : inL (a : Int)) (hb : inL (b : Int)) : inL ((a &&& b : Nat) : Int) := by
  have := Nat.and_le_left (n := a) (m := b)
  unfold inL at ha ⊢
  omega
theorem z_lorin {a b : Nat} (ha : inL (a : Int)) (hb : inL (b : Int)) : inL ((a ||| b : Nat) : Int) :=
  z_natinL (Nat.or_lt_two_pow (n := 63) (by unfold inL at ha; omega) (by unfold inL at hb; omega))
theorem z_iandmE (x : Int) {n : Nat} (hn : n < 31) : z_i x &&& z_i (2 ^ n - 1) = z_i (x % 2 ^ n) := by
  have hp : (1 : Nat) ≤ 2 ^ n := Nat.one_le_two_pow
  have hlt : (2 : Nat) ^ n < 2 ^ 31 := Nat.pow_lt_pow_right (by decide) hn
  have e : ((2 : Int) ^ n - 1) = ((2 ^ n - 1 : Nat) : Int) := by
    have h3 : ((2 ^ n : Nat) : Int) = (2 : Int) ^ n := by simp
    omega
  rw [e, z_iN, pk_and (z_i x) (m := nI (2 ^ n - 1)) n (pk_tn (by omega)), ← z_iN]
  congr 1
  have h1 : ((z_i x).toBitVec.toNat : Int) = x % 4294967296 := by
    unfold z_i
    rw [Int32.toBitVec_ofInt, BitVec.toNat_ofInt]
    omega
  rw [Int.natCast_emod, h1]
  have h2 : ((2 : Int) ^ n) ∣ 4294967296 := by
    refine ⟨2 ^ (32 - n), ?_⟩
    rw [← Int.pow_add]
    rw [show n + (32 - n) = 32 by omega]
    rfl
  have h3 : ((2 ^ n : Nat) : Int) = (2 : Int) ^ n := by simp
  rw [h3]
  exact Int.emod_emod_of_dvd x h2
theorem z_iandmin (x : Int) {n : Nat} (hn : n < 31) : inI (x % 2 ^ n) := by
  have hlt : (2 : Int) ^ n < 2 ^ 31 := by
    have : (2 : Nat) ^ n < 2 ^ 31 := Nat.pow_lt_pow_right (by decide) hn
    have e : ((2 ^ n : Nat) : Int) = (2 : Int) ^ n := by simp
    omega
  have hpos : (0 : Int) < 2 ^ n := Int.pow_pos (by decide)
  have h1 := Int.emod_nonneg x (Int.ne_of_gt hpos)
  have h2 := Int.emod_lt_of_pos x hpos
  unfold inI
  omega
theorem z_sm32 : ∀ k : Nat, k < 32 → ((nI k &&& 31).toBitVec.smod 32).toNat = k := by decide +kernel
theorem z_sm64 : ∀ k : Nat, k < 64 → (((nI k).toInt64 &&& 63).toBitVec.smod 64).toNat = k := by decide +kernel
theorem z_ishlE {x n : Nat} (hn : n < 31) (hr : x * 2 ^ n < 2147483648) : z_i (x : Int) <<< (z_i (n : Int) &&& 31) = z_i ((x * 2 ^ n : Nat) : Int) := by
  rw [z_iN, z_iN, z_iN]
  exact pk_shlN _ n (z_sm32 n (by omega)) (by omega)
theorem z_ishrE {x n : Nat} (hn : n < 32) (hx : inI (x : Int)) : z_i (x : Int) >>> (z_i (n : Int) &&& 31) = z_i ((x / 2 ^ n : Nat) : Int) := by
  rw [z_iN, z_iN, z_iN]
  exact pk_shrN (by unfold inI at hx; omega) _ n (z_sm32 n hn)
theorem z_usm32 : ∀ k : Nat, k < 32 → (((nI k).toUInt32 &&& Int32.toUInt32 31).toBitVec % 32).toNat = k := by decide +kernel
theorem z_iushrE {x n : Nat} (hn : n < 32) (hx : inI (x : Int)) : ((z_i (x : Int)).toUInt32 >>> ((z_i (n : Int)).toUInt32 &&& Int32.toUInt32 31)).toInt32 = z_i ((x / 2 ^ n : Nat) : Int) := by
  rw [z_iN, z_iN, z_iN]
  exact pk_ushrN (by unfold inI at hx; omega) _ n (z_usm32 n hn)
theorem z_divin {x n : Nat} (hx : inI (x : Int)) : inI ((x / 2 ^ n : Nat) : Int) := z_natin (Nat.lt_of_le_of_lt (Nat.div_le_self x (2 ^ n)) (by unfold inI at hx; omega))
theorem z_divinL {x n : Nat} (hx : inL (x : Int)) : inL ((x / 2 ^ n : Nat) : Int) := z_natinL (Nat.lt_of_le_of_lt (Nat.div_le_self x (2 ^ n)) (by unfold inL at hx; omega))
theorem z_lc : ∀ k : Nat, k < 64 → ((nI k).toInt64 &&& 63) = lN k := by decide +kernel
theorem z_lsm : ∀ k : Nat, k < 64 → (BitVec.ofNat 64 k).smod 64 = BitVec.ofNat 64 k := by decide +kernel
theorem z_lshlE {x n : Nat} (hn : n < 63) (hr : x * 2 ^ n < 9223372036854775808) : z_l (x : Int) <<< ((z_i (n : Int)).toInt64 &&& 63) = z_l ((x * 2 ^ n : Nat) : Int) := by
  rw [z_iN, z_lN, z_lN, z_lc n (by omega)]
  apply Int64.toBitVec_inj.mp
  rw [Int64.toBitVec_shiftLeft, show (lN x).toBitVec = BitVec.ofNat 64 x from rfl, show (lN n).toBitVec = BitVec.ofNat 64 n from rfl, show (lN (x * 2 ^ n)).toBitVec = BitVec.ofNat 64 (x * 2 ^ n) from rfl, z_lsm n (by omega)]
  apply BitVec.eq_of_toNat_eq
  rw [BitVec.shiftLeft_eq', BitVec.toNat_shiftLeft, BitVec.toNat_ofNat, BitVec.toNat_ofNat, BitVec.toNat_ofNat, Nat.mod_eq_of_lt (show n < 2 ^ 64 by omega), Nat.shiftLeft_eq, Nat.mul_mod, Nat.mod_mod, ← Nat.mul_mod]
theorem z_lshrE {x n : Nat} (hn : n < 63) (hx : inL (x : Int)) : z_l (x : Int) >>> ((z_i (n : Int)).toInt64 &&& 63) = z_l ((x / 2 ^ n : Nat) : Int) := by
  have hx2 : x < 9223372036854775808 := by unfold inL at hx; omega
  have hd : x / 2 ^ n ≤ x := Nat.div_le_self _ _
  rw [z_iN, z_lN, z_lN]
  apply Int64.toInt_inj.mp
  have e : (lN x >>> ((nI n).toInt64 &&& 63)).toInt = (lN x).toInt >>> n := by
    rw [z_lc n (by omega)]
    have h2 : ((lN n).toBitVec.smod 64).toNat = n := by
      rw [show (lN n).toBitVec = BitVec.ofNat 64 n from rfl, z_lsm n (by omega), BitVec.toNat_ofNat, Nat.mod_eq_of_lt (by omega)]
    have h3 : (lN x >>> lN n).toInt = (lN x).toInt >>> ((lN n).toBitVec.smod 64).toNat := BitVec.toInt_sshiftRight ..
    rw [h3, h2]
  rw [e, Int.shiftRight_eq_div_pow, pk_lT (by omega), pk_lT (by omega)]
  rfl
/-! THE RULES: one an instruction -/
theorem z_cons {a : z_V} {st : List z_V} (h : z_ca a) (hs : ∀ v ∈ st, z_ca v) : ∀ v ∈ a :: st, z_ca v := fun v hv => (List.mem_cons.mp hv).elim (fun e => e ▸ h) (hs v)
theorem z_hd {a : z_V} {st : List z_V} (h : ∀ v ∈ a :: st, z_ca v) : z_ca a := h a List.mem_cons_self
theorem z_tl {a : z_V} {st : List z_V} (h : ∀ v ∈ a :: st, z_ca v) : ∀ v ∈ st, z_ca v := fun v hv => h v (List.mem_cons_of_mem _ hv)
theorem z_setc {a : z_V} {ls : List z_V} {i : Nat} (h : z_ca a) (hs : ∀ v ∈ ls, z_ca v) : ∀ v ∈ ls.set i a, z_ca v := fun v hv => (List.mem_or_eq_of_mem_set hv).elim (hs v) (fun e => e ▸ h)
theorem z_atc {ls : List z_V} {i : Nat} {a : z_V} (hs : ∀ v ∈ ls, z_ca v) (h : ls[i]? = some a) : z_ca a := hs a (List.mem_of_getElem? h)
section ZR
variable {μ : z_Mt} {fin : z_Fin} {pc : Nat} {ls st : List z_V} {I : z_M}
theorem g_iconst {n : Int} (hd : decode μ.2.1 pc = .ok (.iconst n, 1)) (hn : inI n) (k : z_R μ fin (pc + 1) ls (aI n :: st) I) : z_R μ fin pc ls (st) I := by
  intro hC hL hS p l e Rm s m args below meth c Γ G H locs lsA hP hv hl
  exact lv_iconst G.1 G.2.1 hd rfl (k hC hL (z_cons hn hS) p l e Rm s m args below meth c Γ G H locs lsA hP hv hl)
theorem g_bipush {n : Int} (hd : decode μ.2.1 pc = .ok (.bipush n, 2)) (hw : (Int8.ofInt n).toInt32 = z_i n) (hn : inI n) (k : z_R μ fin (pc + 2) ls (aI n :: st) I) : z_R μ fin pc ls (st) I := by
  intro hC hL hS p l e Rm s m args below meth c Γ G H locs lsA hP hv hl
  exact lv_bipush G.1 G.2.1 hd hw (k hC hL (z_cons hn hS) p l e Rm s m args below meth c Γ G H locs lsA hP hv hl)
theorem g_sipush {n : Int} (hd : decode μ.2.1 pc = .ok (.sipush n, 3)) (hw : (Int16.ofInt n).toInt32 = z_i n) (hn : inI n) (k : z_R μ fin (pc + 3) ls (aI n :: st) I) : z_R μ fin pc ls (st) I := by
  intro hC hL hS p l e Rm s m args below meth c Γ G H locs lsA hP hv hl
  exact lv_sipush G.1 G.2.1 hd hw (k hC hL (z_cons hn hS) p l e Rm s m args below meth c Γ G H locs lsA hP hv hl)
theorem g_lconst {n : Fin 2} {v : Int} (hd : decode μ.2.1 pc = .ok (.lconst n, 1)) (hw : Int64.ofNat (n : Nat) = z_l v) (hn : inL v) (k : z_R μ fin (pc + 1) ls (aL v :: st) I) : z_R μ fin pc ls (st) I := by
  intro hC hL hS p l e Rm s m args below meth c Γ G H locs lsA hP hv hl
  exact lv_lconst G.1 G.2.1 hd hw (k hC hL (z_cons hn hS) p l e Rm s m args below meth c Γ G H locs lsA hP hv hl)
theorem g_ldc {ix : Nat} {v : Int32} {n : Int} (hd : decode μ.2.1 pc = .ok (.ldc ix, 2)) (hw : Cond.constant μ.1 ix v ∈ z_W) (hv9 : v = z_i n) (hn : inI n) (k : z_R μ fin (pc + 2) ls (aI n :: st) I) : z_R μ fin pc ls (st) I := by
  intro hC hL hS p l e Rm s m args below meth c Γ G H locs lsA hP hv hl
  exact lv_ldc (v := z_i n) G.1 G.2.1 G.2.2.2.2.1 (hv9 ▸ G.2.2.2.2.2.1 _ hw) hd (k hC hL (z_cons hn hS) p l e Rm s m args below meth c Γ G H locs lsA hP hv hl)
theorem g_ldc_w {ix : Nat} {v : Int32} {n : Int} (hd : decode μ.2.1 pc = .ok (.ldc_w ix, 3)) (hw : Cond.constant μ.1 ix v ∈ z_W) (hv9 : v = z_i n) (hn : inI n) (k : z_R μ fin (pc + 3) ls (aI n :: st) I) : z_R μ fin pc ls (st) I := by
  intro hC hL hS p l e Rm s m args below meth c Γ G H locs lsA hP hv hl
  exact lv_ldcw (v := z_i n) G.1 G.2.1 G.2.2.2.2.1 (hv9 ▸ G.2.2.2.2.2.1 _ hw) hd (k hC hL (z_cons hn hS) p l e Rm s m args below meth c Γ G H locs lsA hP hv hl)
theorem g_ldc2 {ix : Nat} {v : Int64} {n : Int} (hd : decode μ.2.1 pc = .ok (.ldc2_w ix, 3)) (hw : Cond.constantLong μ.1 ix v ∈ z_W) (hv9 : v = z_l n) (hn : inL n) (k : z_R μ fin (pc + 3) ls (aL n :: st) I) : z_R μ fin pc ls (st) I := by
  intro hC hL hS p l e Rm s m args below meth c Γ G H locs lsA hP hv hl
  exact lv_ldc2 (v := z_l n) G.1 G.2.1 G.2.2.2.2.1 (hv9 ▸ G.2.2.2.2.2.1 _ hw) hd (k hC hL (z_cons hn hS) p l e Rm s m args below meth c Γ G H locs lsA hP hv hl)
theorem g_iload_n {kk : Fin 4} {i : Nat} {x : Int} (hd : decode μ.2.1 pc = .ok (.iload_n kk, 1)) (hi : (kk : Nat) = i) (hx : ls[i]? = some (aI x)) (k : z_R μ fin (pc + 1) ls (aI x :: st) I) : z_R μ fin pc ls (st) I := by
  intro hC hL hS p l e Rm s m args below meth c Γ G H locs lsA hP hv hl
  exact lv_iload_n G.1 G.2.1 hd hi (hl.2.2 i (aI x) hx (by intro q; cases q)) (k hC hL (z_cons (z_atc hL hx) hS) p l e Rm s m args below meth c Γ G H locs lsA hP hv hl)
theorem g_iload {i : Nat} {x : Int} (hd : decode μ.2.1 pc = .ok (.iload i, 2)) (hx : ls[i]? = some (aI x)) (k : z_R μ fin (pc + 2) ls (aI x :: st) I) : z_R μ fin pc ls (st) I := by
  intro hC hL hS p l e Rm s m args below meth c Γ G H locs lsA hP hv hl
  exact lv_iload G.1 G.2.1 hd (hl.2.2 i (aI x) hx (by intro q; cases q)) (k hC hL (z_cons (z_atc hL hx) hS) p l e Rm s m args below meth c Γ G H locs lsA hP hv hl)
theorem g_lload_n {kk : Fin 4} {i : Nat} {x : Int} (hd : decode μ.2.1 pc = .ok (.lload_n kk, 1)) (hi : (kk : Nat) = i) (hx : ls[i]? = some (aL x)) (k : z_R μ fin (pc + 1) ls (aL x :: st) I) : z_R μ fin pc ls (st) I := by
  intro hC hL hS p l e Rm s m args below meth c Γ G H locs lsA hP hv hl
  exact lv_lload_n G.1 G.2.1 hd hi (hl.2.2 i (aL x) hx (by intro q; cases q)) (k hC hL (z_cons (z_atc hL hx) hS) p l e Rm s m args below meth c Γ G H locs lsA hP hv hl)
theorem g_lload {i : Nat} {x : Int} (hd : decode μ.2.1 pc = .ok (.lload i, 2)) (hx : ls[i]? = some (aL x)) (k : z_R μ fin (pc + 2) ls (aL x :: st) I) : z_R μ fin pc ls (st) I := by
  intro hC hL hS p l e Rm s m args below meth c Γ G H locs lsA hP hv hl
  exact lv_lload G.1 G.2.1 hd (hl.2.2 i (aL x) hx (by intro q; cases q)) (k hC hL (z_cons (z_atc hL hx) hS) p l e Rm s m args below meth c Γ G H locs lsA hP hv hl)
theorem g_aload_n {kk : Fin 4} {i : Nat} {x : Nat} (hd : decode μ.2.1 pc = .ok (.aload_n kk, 1)) (hi : (kk : Nat) = i) (hx : ls[i]? = some (aR x)) (k : z_R μ fin (pc + 1) ls (aR x :: st) I) : z_R μ fin pc ls (st) I := by
  intro hC hL hS p l e Rm s m args below meth c Γ G H locs lsA hP hv hl
  exact lv_aload_n G.1 G.2.1 hd hi (hl.2.2 i (aR x) hx (by intro q; cases q)) (k hC hL (z_cons (z_atc hL hx) hS) p l e Rm s m args below meth c Γ G H locs lsA hP hv hl)
theorem g_aload {i : Nat} {x : Nat} (hd : decode μ.2.1 pc = .ok (.aload i, 2)) (hx : ls[i]? = some (aR x)) (k : z_R μ fin (pc + 2) ls (aR x :: st) I) : z_R μ fin pc ls (st) I := by
  intro hC hL hS p l e Rm s m args below meth c Γ G H locs lsA hP hv hl
  exact lv_aload G.1 G.2.1 hd (hl.2.2 i (aR x) hx (by intro q; cases q)) (k hC hL (z_cons (z_atc hL hx) hS) p l e Rm s m args below meth c Γ G H locs lsA hP hv hl)
/-- no long stands just below slot i -/
def z_isL : Option z_V → Bool
  | some (.inr (.inl _)) => true
  | _ => false
def z_nl (ls : List z_V) (i : Nat) : Bool := i == 0 || !(z_isL ls[i - 1]?)
theorem z_nl_not {ls : List z_V} {j : Nat} {y : Int} (h : z_nl ls (j + 1) = true) (hj : ls[j]? = some (aL y)) : False := by
  simp [z_nl, z_isL, hj] at h
def z_asl (Γ : z_G) (ls : List z_V) : List (Nat × Value) := ((List.range ls.length).filter (fun i => match ls[i]? with | some (.inr (.inr (.inr _))) => false | _ => true)).map (fun i => (i, z_cv (gad Γ) (ls.getD i aU)))
theorem z_asl_in {Γ : z_G} {ls : List z_V} {i : Nat} {v : z_V} (h : ls[i]? = some v) (hv : v ≠ aU) : (i, z_cv (gad Γ) v) ∈ z_asl Γ ls := by
  refine List.mem_map.mpr ⟨i, List.mem_filter.mpr ⟨List.mem_range.mpr (List.getElem?_eq_some_iff.mp h).1, ?_⟩, by rw [List.getD_eq_getElem?_getD, h]; rfl⟩
  rw [h]
  rcases v with x | x | x | x
  · rfl
  · rfl
  · rfl
  · exact absurd rfl hv
theorem z_asl_of {Γ : z_G} {ls : List z_V} {q : Nat × Value} (h : q ∈ z_asl Γ ls) : ∃ v, ls[q.1]? = some v ∧ v ≠ aU ∧ q.2 = z_cv (gad Γ) v := by
  obtain ⟨i, hi, rfl⟩ := List.mem_map.mp h
  obtain ⟨h1, h2⟩ := List.mem_filter.mp hi
  have hl := List.mem_range.mp h1
  refine ⟨ls[i], List.getElem?_eq_getElem hl, ?_, by rw [List.getD_eq_getElem?_getD, List.getElem?_eq_getElem hl]; rfl⟩
  intro q
  rw [List.getElem?_eq_getElem hl, q] at h2
  cases h2
theorem z_asl_has {Γ : z_G} {lsA : Array Slot} {n : Nat} {ls : List z_V} (h : z_lo Γ lsA n ls) : lv_has lsA n (z_asl Γ ls) := by
  refine ⟨h.1, h.2.1, fun q hq => ?_⟩
  obtain ⟨v, h1, h2, h3⟩ := z_asl_of hq
  rw [h3]
  exact h.2.2 q.1 v h1 h2
theorem z_cat2 {ad : Nat → Nat} {v : z_V} (h : (z_cv ad v).category = 2) : ∃ x, v = aL x := by
  rcases v with x | x | x | x
  · cases h
  · exact ⟨x, rfl⟩
  · cases h
  · cases h
/-- behind a store of one slot -/
theorem z_lo1 {Γ : z_G} {lsA : Array Slot} {n i : Nat} {ls : List z_V} {w : z_V} (hb : z_nl ls i = true) (h : lv_has lsA n ((i, z_cv (gad Γ) w) :: (z_asl Γ ls).filter (fun q => !(q.1 == i) && !(q.1 + 1 == i && q.2.category == 2)))) : z_lo Γ lsA n (ls.set i w) := by
  refine ⟨h.1, h.2.1, fun j v hj hv => ?_⟩
  rw [List.getElem?_set] at hj
  by_cases hij : i = j
  · subst hij
    rw [if_pos rfl] at hj
    split at hj
    · cases hj
      exact h.2.2 (i, z_cv (gad Γ) w) List.mem_cons_self
    · cases hj
  · rw [if_neg hij] at hj
    refine h.2.2 (j, z_cv (gad Γ) v) (List.mem_cons_of_mem _ (List.mem_filter.mpr ⟨z_asl_in hj hv, ?_⟩))
    have h1 : (j == i) = false := by simp; omega
    show (!(j == i) && !(j + 1 == i && (z_cv (gad Γ) v).category == 2)) = true
    rw [h1]
    by_cases h2 : j + 1 = i
    · subst h2
      have h3 : ((z_cv (gad Γ) v).category == 2) = false := by
        cases hc : ((z_cv (gad Γ) v).category == 2) with
        | false => rfl
        | true =>
          obtain ⟨x, rfl⟩ := z_cat2 (ad := gad Γ) (by simpa using hc)
          exact (z_nl_not hb hj).elim
      rw [h3]; simp
    · simp [h2]
/-- behind a store of a long -/
theorem z_lo2 {Γ : z_G} {lsA : Array Slot} {n i : Nat} {ls : List z_V} {x : Int} (hb : z_nl ls i = true) (h : lv_has lsA n ((i, z_cv (gad Γ) (aL x)) :: (z_asl Γ ls).filter (fun q => !(q.1 == i) && (!(q.1 == i + 1) && !(q.1 + 1 == i && q.2.category == 2))))) : z_lo Γ lsA n ((ls.set i (aL x)).set (i + 1) aU) := by
  refine ⟨h.1, h.2.1, fun j v hj hv => ?_⟩
  rw [List.getElem?_set] at hj
  by_cases hij1 : i + 1 = j
  · rw [if_pos hij1] at hj
    split at hj
    · cases hj; exact absurd rfl hv
    · cases hj
  rw [if_neg hij1, List.getElem?_set] at hj
  by_cases hij : i = j
  · subst hij
    rw [if_pos rfl] at hj
    split at hj
    · cases hj
      exact h.2.2 (i, z_cv (gad Γ) (aL x)) List.mem_cons_self
    · cases hj
  · rw [if_neg hij] at hj
    refine h.2.2 (j, z_cv (gad Γ) v) (List.mem_cons_of_mem _ (List.mem_filter.mpr ⟨z_asl_in hj hv, ?_⟩))
    have h1 : (j == i) = false := by simp; omega
    have h1' : (j == i + 1) = false := by simp; omega
    show (!(j == i) && (!(j == i + 1) && !(j + 1 == i && (z_cv (gad Γ) v).category == 2))) = true
    rw [h1, h1']
    by_cases h2 : j + 1 = i
    · subst h2
      have h3 : ((z_cv (gad Γ) v).category == 2) = false := by
        cases hc : ((z_cv (gad Γ) v).category == 2) with
        | false => rfl
        | true =>
          obtain ⟨x, rfl⟩ := z_cat2 (ad := gad Γ) (by simpa using hc)
          exact (z_nl_not hb hj).elim
      rw [h3]; simp
    · simp [h2]
theorem g_istore_n {kk : Fin 4} {i : Nat} {x : Int} (hd : decode μ.2.1 pc = .ok (.istore_n kk, 1)) (hi : (kk : Nat) = i) (hn : i < μ.2.2.1) (hb : z_nl ls i = true) (k : z_R μ fin (pc + 1) (ls.set i (aI x)) st I) : z_R μ fin pc ls (aI x :: st) I := by
  intro hC hL hS p l e Rm s m args below meth c Γ G H locs lsA hP hv hl
  exact lv_istore_n G.1 G.2.1 hd hi (z_asl_has hl) hn rfl (fun lsB hB => k hC (z_setc (z_hd hS) hL) (z_tl hS) p l e Rm s m args below meth c Γ G H locs lsB hP hv (z_lo1 (w := aI x) hb hB))
theorem g_istore {i : Nat} {x : Int} (hd : decode μ.2.1 pc = .ok (.istore i, 2)) (hn : i < μ.2.2.1) (hb : z_nl ls i = true) (k : z_R μ fin (pc + 2) (ls.set i (aI x)) st I) : z_R μ fin pc ls (aI x :: st) I := by
  intro hC hL hS p l e Rm s m args below meth c Γ G H locs lsA hP hv hl
  exact lv_istore G.1 G.2.1 hd (z_asl_has hl) hn rfl (fun lsB hB => k hC (z_setc (z_hd hS) hL) (z_tl hS) p l e Rm s m args below meth c Γ G H locs lsB hP hv (z_lo1 (w := aI x) hb hB))
theorem g_astore_n {kk : Fin 4} {i : Nat} {x : Nat} (hd : decode μ.2.1 pc = .ok (.astore_n kk, 1)) (hi : (kk : Nat) = i) (hn : i < μ.2.2.1) (hb : z_nl ls i = true) (k : z_R μ fin (pc + 1) (ls.set i (aR x)) st I) : z_R μ fin pc ls (aR x :: st) I := by
  intro hC hL hS p l e Rm s m args below meth c Γ G H locs lsA hP hv hl
  exact lv_astore_n G.1 G.2.1 hd hi (z_asl_has hl) hn rfl (fun lsB hB => k hC (z_setc (z_hd hS) hL) (z_tl hS) p l e Rm s m args below meth c Γ G H locs lsB hP hv (z_lo1 (w := aR x) hb hB))
theorem g_astore {i : Nat} {x : Nat} (hd : decode μ.2.1 pc = .ok (.astore i, 2)) (hn : i < μ.2.2.1) (hb : z_nl ls i = true) (k : z_R μ fin (pc + 2) (ls.set i (aR x)) st I) : z_R μ fin pc ls (aR x :: st) I := by
  intro hC hL hS p l e Rm s m args below meth c Γ G H locs lsA hP hv hl
  exact lv_astore G.1 G.2.1 hd (z_asl_has hl) hn rfl (fun lsB hB => k hC (z_setc (z_hd hS) hL) (z_tl hS) p l e Rm s m args below meth c Γ G H locs lsB hP hv (z_lo1 (w := aR x) hb hB))
theorem g_lstore_n {kk : Fin 4} {i : Nat} {x : Int} (hd : decode μ.2.1 pc = .ok (.lstore_n kk, 1)) (hi : (kk : Nat) = i) (hn : i + 1 < μ.2.2.1) (hb : z_nl ls i = true) (k : z_R μ fin (pc + 1) ((ls.set i (aL x)).set (i + 1) aU) st I) : z_R μ fin pc ls (aL x :: st) I := by
  intro hC hL hS p l e Rm s m args below meth c Γ G H locs lsA hP hv hl
  exact lv_lstore_n G.1 G.2.1 hd hi (z_asl_has hl) hn rfl (fun lsB hB => k hC (z_setc trivial (z_setc (z_hd hS) hL)) (z_tl hS) p l e Rm s m args below meth c Γ G H locs lsB hP hv (z_lo2 hb hB))
theorem g_lstore {i : Nat} {x : Int} (hd : decode μ.2.1 pc = .ok (.lstore i, 2)) (hn : i + 1 < μ.2.2.1) (hb : z_nl ls i = true) (k : z_R μ fin (pc + 2) ((ls.set i (aL x)).set (i + 1) aU) st I) : z_R μ fin pc ls (aL x :: st) I := by
  intro hC hL hS p l e Rm s m args below meth c Γ G H locs lsA hP hv hl
  exact lv_lstore G.1 G.2.1 hd (z_asl_has hl) hn rfl (fun lsB hB => k hC (z_setc trivial (z_setc (z_hd hS) hL)) (z_tl hS) p l e Rm s m args below meth c Γ G H locs lsB hP hv (z_lo2 hb hB))
theorem g_iincw {i : Nat} {n x : Int} (hd : decode μ.2.1 pc = .ok (.iinc i n, 3)) (hx : ls[i]? = some (aI x)) (hn : i < μ.2.2.1) (hb : z_nl ls i = true) (k : z_R μ fin (pc + 3) (ls.set i (aI (i32 (x + n)))) st I) : z_R μ fin pc ls st I := by
  intro hC hL hS p l e Rm s m args below meth c Γ G H locs lsA hP hv hl
  obtain ⟨j, hj⟩ := List.getElem?_of_mem (z_asl_in (Γ := Γ) hx (by intro q; cases q))
  exact lv_iinc (v := z_i (i32 (x + n))) G.1 G.2.1 hd (z_asl_has hl) hj (by rw [z_i32, ← z_iadd]; rfl) hn rfl (fun lsB hB => k hC (z_setc (i32_in _) hL) hS p l e Rm s m args below meth c Γ G H locs lsB hP hv (z_lo1 (w := aI (i32 (x + n))) hb hB))
theorem g_iinc {i : Nat} {n x : Int} (hd : decode μ.2.1 pc = .ok (.iinc i n, 3)) (hx : ls[i]? = some (aI x)) (hn : i < μ.2.2.1) (hb : z_nl ls i = true) (hr : inI (x + n)) (k : z_R μ fin (pc + 3) (ls.set i (aI (x + n))) st I) : z_R μ fin pc ls st I := g_iincw hd hx hn hb (by rw [i32_id hr]; exact k)
theorem g_iaddw {x y : Int} (hd : decode μ.2.1 pc = .ok (.iadd, 1)) (k : z_R μ fin (pc + 1) ls (aI (i32 (x + y)) :: st) I) : z_R μ fin pc ls (aI y :: aI x :: st) I := by
  intro hC hL hS p l e Rm s m args below meth c Γ G H locs lsA hP hv hl
  refine lv_iadd G.1 G.2.1 hd ?_
  rw [z_iadd, ← z_i32]
  exact (k hC hL (z_cons (i32_in _) (z_tl (z_tl hS))) p l e Rm s m args below meth c Γ G H locs lsA hP hv hl)
theorem g_iadd {x y : Int} (hd : decode μ.2.1 pc = .ok (.iadd, 1)) (hr : inI (x + y)) (k : z_R μ fin (pc + 1) ls (aI (x + y) :: st) I) : z_R μ fin pc ls (aI y :: aI x :: st) I := g_iaddw hd (by rw [i32_id hr]; exact k)
theorem g_isubw {x y : Int} (hd : decode μ.2.1 pc = .ok (.isub, 1)) (k : z_R μ fin (pc + 1) ls (aI (i32 (x - y)) :: st) I) : z_R μ fin pc ls (aI y :: aI x :: st) I := by
  intro hC hL hS p l e Rm s m args below meth c Γ G H locs lsA hP hv hl
  refine lv_isub G.1 G.2.1 hd ?_
  rw [z_isub, ← z_i32]
  exact (k hC hL (z_cons (i32_in _) (z_tl (z_tl hS))) p l e Rm s m args below meth c Γ G H locs lsA hP hv hl)
theorem g_isub {x y : Int} (hd : decode μ.2.1 pc = .ok (.isub, 1)) (hr : inI (x - y)) (k : z_R μ fin (pc + 1) ls (aI (x - y) :: st) I) : z_R μ fin pc ls (aI y :: aI x :: st) I := g_isubw hd (by rw [i32_id hr]; exact k)
theorem g_imulw {x y : Int} (hd : decode μ.2.1 pc = .ok (.imul, 1)) (k : z_R μ fin (pc + 1) ls (aI (i32 (x * y)) :: st) I) : z_R μ fin pc ls (aI y :: aI x :: st) I := by
  intro hC hL hS p l e Rm s m args below meth c Γ G H locs lsA hP hv hl
  refine lv_imul G.1 G.2.1 hd ?_
  rw [z_imul, ← z_i32]
  exact (k hC hL (z_cons (i32_in _) (z_tl (z_tl hS))) p l e Rm s m args below meth c Γ G H locs lsA hP hv hl)
theorem g_imul {x y : Int} (hd : decode μ.2.1 pc = .ok (.imul, 1)) (hr : inI (x * y)) (k : z_R μ fin (pc + 1) ls (aI (x * y) :: st) I) : z_R μ fin pc ls (aI y :: aI x :: st) I := g_imulw hd (by rw [i32_id hr]; exact k)
theorem g_ineg {x : Int} (hd : decode μ.2.1 pc = .ok (.ineg, 1)) (hr : inI (-x)) (k : z_R μ fin (pc + 1) ls (aI (-x) :: st) I) : z_R μ fin pc ls (aI x :: st) I := by
  intro hC hL hS p l e Rm s m args below meth c Γ G H locs lsA hP hv hl
  refine lv_ineg G.1 G.2.1 hd ?_
  rw [z_ineg]
  exact (k hC hL (z_cons hr (z_tl hS)) p l e Rm s m args below meth c Γ G H locs lsA hP hv hl)
theorem g_laddw {x y : Int} (hd : decode μ.2.1 pc = .ok (.ladd, 1)) (k : z_R μ fin (pc + 1) ls (aL (i64 (x + y)) :: st) I) : z_R μ fin pc ls (aL y :: aL x :: st) I := by
  intro hC hL hS p l e Rm s m args below meth c Γ G H locs lsA hP hv hl
  refine lv_ladd G.1 G.2.1 hd ?_
  rw [z_ladd, ← z_i64]
  exact (k hC hL (z_cons (i64_in _) (z_tl (z_tl hS))) p l e Rm s m args below meth c Γ G H locs lsA hP hv hl)
theorem g_ladd {x y : Int} (hd : decode μ.2.1 pc = .ok (.ladd, 1)) (hr : inL (x + y)) (k : z_R μ fin (pc + 1) ls (aL (x + y) :: st) I) : z_R μ fin pc ls (aL y :: aL x :: st) I := g_laddw hd (by rw [i64_id hr]; exact k)
theorem g_lsubw {x y : Int} (hd : decode μ.2.1 pc = .ok (.lsub, 1)) (k : z_R μ fin (pc + 1) ls (aL (i64 (x - y)) :: st) I) : z_R μ fin pc ls (aL y :: aL x :: st) I := by
  intro hC hL hS p l e Rm s m args below meth c Γ G H locs lsA hP hv hl
  refine lv_lsub G.1 G.2.1 hd ?_
  rw [z_lsub, ← z_i64]
  exact (k hC hL (z_cons (i64_in _) (z_tl (z_tl hS))) p l e Rm s m args below meth c Γ G H locs lsA hP hv hl)
theorem g_lsub {x y : Int} (hd : decode μ.2.1 pc = .ok (.lsub, 1)) (hr : inL (x - y)) (k : z_R μ fin (pc + 1) ls (aL (x - y) :: st) I) : z_R μ fin pc ls (aL y :: aL x :: st) I := g_lsubw hd (by rw [i64_id hr]; exact k)
theorem g_lmulw {x y : Int} (hd : decode μ.2.1 pc = .ok (.lmul, 1)) (k : z_R μ fin (pc + 1) ls (aL (i64 (x * y)) :: st) I) : z_R μ fin pc ls (aL y :: aL x :: st) I := by
  intro hC hL hS p l e Rm s m args below meth c Γ G H locs lsA hP hv hl
  refine lv_lmul G.1 G.2.1 hd ?_
  rw [z_lmul, ← z_i64]
  exact (k hC hL (z_cons (i64_in _) (z_tl (z_tl hS))) p l e Rm s m args below meth c Γ G H locs lsA hP hv hl)
theorem g_lmul {x y : Int} (hd : decode μ.2.1 pc = .ok (.lmul, 1)) (hr : inL (x * y)) (k : z_R μ fin (pc + 1) ls (aL (x * y) :: st) I) : z_R μ fin pc ls (aL y :: aL x :: st) I := g_lmulw hd (by rw [i64_id hr]; exact k)
theorem g_irem {x y : Int} (hd : decode μ.2.1 pc = .ok (.irem, 1)) (hy : y ≠ 0) (k : z_R μ fin (pc + 1) ls (aI (x.tmod y) :: st) I) : z_R μ fin pc ls (aI y :: aI x :: st) I := by
  intro hC hL hS p l e Rm s m args below meth c Γ G H locs lsA hP hv hl
  have hy1 := z_hd hS
  have hx1 := z_hd (z_tl hS)
  refine lv_irem G.1 G.2.1 hd (fun q => hy ((z_ieq hy1 (by decide)).mp (q.trans z_i0.symm))) ?_
  rw [z_rem hx1 hy1]
  exact (k hC hL (z_cons (z_remin hx1) (z_tl (z_tl hS))) p l e Rm s m args below meth c Γ G H locs lsA hP hv hl)
theorem g_ldiv {x y : Int} (hd : decode μ.2.1 pc = .ok (.ldiv, 1)) (hx0 : 0 ≤ x) (hy : 0 < y) (k : z_R μ fin (pc + 1) ls (aL (x / y) :: st) I) : z_R μ fin pc ls (aL y :: aL x :: st) I := by
  intro hC hL hS p l e Rm s m args below meth c Γ G H locs lsA hP hv hl
  have hy1 := z_hd hS
  have hx1 := z_hd (z_tl hS)
  refine lv_ldiv G.1 G.2.1 hd (fun q => by have := (z_leq hy1 (by decide)).mp (q.trans z_l0.symm); omega) ?_
  rw [z_ldivE hx1 hy1 hx0 hy]
  exact (k hC hL (z_cons (z_ldivin hx1 hx0 hy) (z_tl (z_tl hS))) p l e Rm s m args below meth c Γ G H locs lsA hP hv hl)
theorem g_lrem {x y : Int} (hd : decode μ.2.1 pc = .ok (.lrem, 1)) (hx0 : 0 ≤ x) (hy : 0 < y) (k : z_R μ fin (pc + 1) ls (aL (x % y) :: st) I) : z_R μ fin pc ls (aL y :: aL x :: st) I := by
  intro hC hL hS p l e Rm s m args below meth c Γ G H locs lsA hP hv hl
  have hy1 := z_hd hS
  have hx1 := z_hd (z_tl hS)
  refine lv_lrem G.1 G.2.1 hd (fun q => by have := (z_leq hy1 (by decide)).mp (q.trans z_l0.symm); omega) ?_
  rw [z_lremE hx1 hy1 hx0 hy]
  exact (k hC hL (z_cons (z_lremin hx1 hx0 hy) (z_tl (z_tl hS))) p l e Rm s m args below meth c Γ G H locs lsA hP hv hl)
theorem g_i2l {x : Int} (hd : decode μ.2.1 pc = .ok (.i2l, 1)) (k : z_R μ fin (pc + 1) ls (aL x :: st) I) : z_R μ fin pc ls (aI x :: st) I := by
  intro hC hL hS p l e Rm s m args below meth c Γ G H locs lsA hP hv hl
  exact lv_i2l G.1 G.2.1 hd (z_i2l (z_hd hS)) (k hC hL (z_cons (z_inI_inL (z_hd hS)) (z_tl hS)) p l e Rm s m args below meth c Γ G H locs lsA hP hv hl)
theorem g_l2i {x : Int} (hd : decode μ.2.1 pc = .ok (.l2i, 1)) (hr : inI x) (k : z_R μ fin (pc + 1) ls (aI x :: st) I) : z_R μ fin pc ls (aL x :: st) I := by
  intro hC hL hS p l e Rm s m args below meth c Γ G H locs lsA hP hv hl
  exact lv_l2i G.1 G.2.1 hd (z_l2i x) (k hC hL (z_cons hr (z_tl hS)) p l e Rm s m args below meth c Γ G H locs lsA hP hv hl)
theorem g_i2b {x : Int} (hd : decode μ.2.1 pc = .ok (.i2b, 1)) (hr : -128 ≤ x ∧ x ≤ 127) (k : z_R μ fin (pc + 1) ls (aI x :: st) I) : z_R μ fin pc ls (aI x :: st) I := by
  intro hC hL hS p l e Rm s m args below meth c Γ G H locs lsA hP hv hl
  exact lv_i2b G.1 G.2.1 hd (z_i2b hr) (k hC hL hS p l e Rm s m args below meth c Γ G H locs lsA hP hv hl)
theorem g_lcmp {x y : Int} (hd : decode μ.2.1 pc = .ok (.lcmp, 1)) (k : z_R μ fin (pc + 1) ls (aI (if y < x then 1 else if x = y then 0 else -1) :: st) I) : z_R μ fin pc ls (aL y :: aL x :: st) I := by
  intro hC hL hS p l e Rm s m args below meth c Γ G H locs lsA hP hv hl
  refine W.lcmp G.1 G.2.1 hd ?_
  rw [z_lcmpE (z_hd (z_tl hS)) (z_hd hS)]
  exact (k hC hL (z_cons (z_lcmpin x y) (z_tl (z_tl hS))) p l e Rm s m args below meth c Γ G H locs lsA hP hv hl)
theorem g_iand {x y : Nat} (hd : decode μ.2.1 pc = .ok (.iand, 1)) (k : z_R μ fin (pc + 1) ls (aI ((x &&& y : Nat) : Int) :: st) I) : z_R μ fin pc ls (aI (y : Int) :: aI (x : Int) :: st) I := by
  intro hC hL hS p l e Rm s m args below meth c Γ G H locs lsA hP hv hl
  refine lv_iand G.1 G.2.1 hd ?_
  rw [z_iandE]
  exact (k hC hL (z_cons (z_iandin (z_hd (z_tl hS)) (z_hd hS)) (z_tl (z_tl hS))) p l e Rm s m args below meth c Γ G H locs lsA hP hv hl)
theorem g_ior {x y : Nat} (hd : decode μ.2.1 pc = .ok (.ior, 1)) (k : z_R μ fin (pc + 1) ls (aI ((x ||| y : Nat) : Int) :: st) I) : z_R μ fin pc ls (aI (y : Int) :: aI (x : Int) :: st) I := by
  intro hC hL hS p l e Rm s m args below meth c Γ G H locs lsA hP hv hl
  refine lv_ior G.1 G.2.1 hd ?_
  rw [z_iorE]
  exact (k hC hL (z_cons (z_iorin (z_hd (z_tl hS)) (z_hd hS)) (z_tl (z_tl hS))) p l e Rm s m args below meth c Γ G H locs lsA hP hv hl)
theorem g_ixor {x y : Nat} (hd : decode μ.2.1 pc = .ok (.ixor, 1)) (k : z_R μ fin (pc + 1) ls (aI ((x ^^^ y : Nat) : Int) :: st) I) : z_R μ fin pc ls (aI (y : Int) :: aI (x : Int) :: st) I := by
  intro hC hL hS p l e Rm s m args below meth c Γ G H locs lsA hP hv hl
  refine lv_ixor G.1 G.2.1 hd ?_
  rw [z_ixorE]
  exact (k hC hL (z_cons (z_ixorin (z_hd (z_tl hS)) (z_hd hS)) (z_tl (z_tl hS))) p l e Rm s m args below meth c Γ G H locs lsA hP hv hl)
theorem g_iandm {x m9 : Int} {n9 : Nat} (hd : decode μ.2.1 pc = .ok (.iand, 1)) (hm : m9 = 2 ^ n9 - 1) (hn9 : n9 < 31) (k : z_R μ fin (pc + 1) ls (aI (x % 2 ^ n9) :: st) I) : z_R μ fin pc ls (aI m9 :: aI x :: st) I := by
  intro hC hL hS p l e Rm s m args below meth c Γ G H locs lsA hP hv hl
  refine lv_iand G.1 G.2.1 hd ?_
  subst hm
  rw [z_iandmE x hn9]
  exact (k hC hL (z_cons (z_iandmin x hn9) (z_tl (z_tl hS))) p l e Rm s m args below meth c Γ G H locs lsA hP hv hl)
theorem g_ishl {x n9 : Nat} (hd : decode μ.2.1 pc = .ok (.ishl, 1)) (hn : n9 < 31) (hr : x * 2 ^ n9 < 2147483648) (k : z_R μ fin (pc + 1) ls (aI ((x * 2 ^ n9 : Nat) : Int) :: st) I) : z_R μ fin pc ls (aI (n9 : Int) :: aI (x : Int) :: st) I := by
  intro hC hL hS p l e Rm s m args below meth c Γ G H locs lsA hP hv hl
  refine lv_ishl G.1 G.2.1 hd ?_
  rw [z_ishlE hn hr]
  exact (k hC hL (z_cons (z_natin hr) (z_tl (z_tl hS))) p l e Rm s m args below meth c Γ G H locs lsA hP hv hl)
theorem g_ishr {x n9 : Nat} (hd : decode μ.2.1 pc = .ok (.ishr, 1)) (hn : n9 < 32) (k : z_R μ fin (pc + 1) ls (aI ((x / 2 ^ n9 : Nat) : Int) :: st) I) : z_R μ fin pc ls (aI (n9 : Int) :: aI (x : Int) :: st) I := by
  intro hC hL hS p l e Rm s m args below meth c Γ G H locs lsA hP hv hl
  refine lv_ishr G.1 G.2.1 hd ?_
  rw [z_ishrE hn (z_hd (z_tl hS))]
  exact (k hC hL (z_cons (z_divin (z_hd (z_tl hS))) (z_tl (z_tl hS))) p l e Rm s m args below meth c Γ G H locs lsA hP hv hl)
theorem g_iushr {x n9 : Nat} (hd : decode μ.2.1 pc = .ok (.iushr, 1)) (hn : n9 < 32) (k : z_R μ fin (pc + 1) ls (aI ((x / 2 ^ n9 : Nat) : Int) :: st) I) : z_R μ fin pc ls (aI (n9 : Int) :: aI (x : Int) :: st) I := by
  intro hC hL hS p l e Rm s m args below meth c Γ G H locs lsA hP hv hl
  exact lv_iushr G.1 G.2.1 hd (z_iushrE hn (z_hd (z_tl hS))) (k hC hL (z_cons (z_divin (z_hd (z_tl hS))) (z_tl (z_tl hS))) p l e Rm s m args below meth c Γ G H locs lsA hP hv hl)
theorem g_land {x y : Nat} (hd : decode μ.2.1 pc = .ok (.land, 1)) (k : z_R μ fin (pc + 1) ls (aL ((x &&& y : Nat) : Int) :: st) I) : z_R μ fin pc ls (aL (y : Int) :: aL (x : Int) :: st) I := by
  intro hC hL hS p l e Rm s m args below meth c Γ G H locs lsA hP hv hl
  refine lv_land G.1 G.2.1 hd ?_
  rw [z_landE]
  exact (k hC hL (z_cons (z_landin (z_hd (z_tl hS)) (z_hd hS)) (z_tl (z_tl hS))) p l e Rm s m args below meth c Γ G H locs lsA hP hv hl)
theorem g_lor {x y : Nat} (hd : decode μ.2.1 pc = .ok (.lor, 1)) (k : z_R μ fin (pc + 1) ls (aL ((x ||| y : Nat) : Int) :: st) I) : z_R μ fin pc ls (aL (y : Int) :: aL (x : Int) :: st) I := by
  intro hC hL hS p l e Rm s m args below meth c Γ G H locs lsA hP hv hl
  refine lv_lor G.1 G.2.1 hd ?_
  rw [z_lorE]
  exact (k hC hL (z_cons (z_lorin (z_hd (z_tl hS)) (z_hd hS)) (z_tl (z_tl hS))) p l e Rm s m args below meth c Γ G H locs lsA hP hv hl)
theorem g_lshl {x n9 : Nat} (hd : decode μ.2.1 pc = .ok (.lshl, 1)) (hn : n9 < 63) (hr : x * 2 ^ n9 < 9223372036854775808) (k : z_R μ fin (pc + 1) ls (aL ((x * 2 ^ n9 : Nat) : Int) :: st) I) : z_R μ fin pc ls (aI (n9 : Int) :: aL (x : Int) :: st) I := by
  intro hC hL hS p l e Rm s m args below meth c Γ G H locs lsA hP hv hl
  exact lv_lshl G.1 G.2.1 hd (z_lshlE hn hr) (k hC hL (z_cons (z_natinL hr) (z_tl (z_tl hS))) p l e Rm s m args below meth c Γ G H locs lsA hP hv hl)
theorem g_lshr {x n9 : Nat} (hd : decode μ.2.1 pc = .ok (.lshr, 1)) (hn : n9 < 63) (k : z_R μ fin (pc + 1) ls (aL ((x / 2 ^ n9 : Nat) : Int) :: st) I) : z_R μ fin pc ls (aI (n9 : Int) :: aL (x : Int) :: st) I := by
  intro hC hL hS p l e Rm s m args below meth c Γ G H locs lsA hP hv hl
  exact lv_lshr G.1 G.2.1 hd (z_lshrE hn (z_hd (z_tl hS))) (k hC hL (z_cons (z_divinL (z_hd (z_tl hS))) (z_tl (z_tl hS))) p l e Rm s m args below meth c Γ G H locs lsA hP hv hl)
theorem g_dup {a : z_V} (hd : decode μ.2.1 pc = .ok (.dup, 1)) (ha : ∀ x, a ≠ aL x) (k : z_R μ fin (pc + 1) ls (a :: a :: st) I) : z_R μ fin pc ls (a :: st) I := by
  intro hC hL hS p l e Rm s m args below meth c Γ G H locs lsA hP hv hl
  exact lv_dup G.1 G.2.1 hd (z_cat1 ha) (k hC hL (z_cons (z_hd hS) hS) p l e Rm s m args below meth c Γ G H locs lsA hP hv hl)
theorem g_pop {a : z_V} (hd : decode μ.2.1 pc = .ok (.pop, 1)) (ha : ∀ x, a ≠ aL x) (k : z_R μ fin (pc + 1) ls st I) : z_R μ fin pc ls (a :: st) I := by
  intro hC hL hS p l e Rm s m args below meth c Γ G H locs lsA hP hv hl
  exact lv_pop G.1 G.2.1 hd (z_cat1 ha) (k hC hL (z_tl hS) p l e Rm s m args below meth c Γ G H locs lsA hP hv hl)
theorem g_dup2 {a b : z_V} (hd : decode μ.2.1 pc = .ok (.dup2, 1)) (ha : ∀ x, a ≠ aL x) (hb : ∀ x, b ≠ aL x) (k : z_R μ fin (pc + 1) ls (a :: b :: a :: b :: st) I) : z_R μ fin pc ls (a :: b :: st) I := by
  intro hC hL hS p l e Rm s m args below meth c Γ G H locs lsA hP hv hl
  exact lv_dup2_11 G.1 G.2.1 hd (z_cat1 ha) (z_cat1 hb) (k hC hL (z_cons (z_hd hS) (z_cons (z_hd (z_tl hS)) hS)) p l e Rm s m args below meth c Γ G H locs lsA hP hv hl)
theorem g_goto {off : Int} {tgt : Nat} (hd : decode μ.2.1 pc = .ok (.goto off, 3)) (ht : (pc : Int) + off = (tgt : Int)) (k : z_R μ fin tgt ls st I) : z_R μ fin pc ls st I := by
  intro hC hL hS p l e Rm s m args below meth c Γ G H locs lsA hP hv hl
  exact lv_goto G.1 G.2.1 hd ht (k hC hL hS p l e Rm s m args below meth c Γ G H locs lsA hP hv hl)
theorem g_icmp_eq {x y : Int} {off : Int} {tgt : Nat} (hd : decode μ.2.1 pc = .ok (.if_icmp .eq off, 3)) (ht : (pc : Int) + off = (tgt : Int)) (kt : x = y → z_R μ fin tgt ls st I) (kf : x ≠ y → z_R μ fin (pc + 3) ls st I) : z_R μ fin pc ls (aI y :: aI x :: st) I := by
  intro hC hL hS p l e Rm s m args below meth c Γ G H locs lsA hP hv hl
  have hy := z_hd hS
  have hx := z_hd (z_tl hS)
  exact lv_icmp_eq G.1 G.2.1 hd ht (fun q => kt ((z_ieq hx hy).mp q) hC hL (z_tl (z_tl hS)) p l e Rm s m args below meth c Γ G H locs lsA hP hv hl) (fun q => kf (fun z => q ((z_ieq hx hy).mpr z)) hC hL (z_tl (z_tl hS)) p l e Rm s m args below meth c Γ G H locs lsA hP hv hl)
theorem g_if_eq {x : Int} {off : Int} {tgt : Nat} (hd : decode μ.2.1 pc = .ok (.ifCond .eq off, 3)) (ht : (pc : Int) + off = (tgt : Int)) (kt : x = 0 → z_R μ fin tgt ls st I) (kf : x ≠ 0 → z_R μ fin (pc + 3) ls st I) : z_R μ fin pc ls (aI x :: st) I := by
  intro hC hL hS p l e Rm s m args below meth c Γ G H locs lsA hP hv hl
  have hy : inI 0 := by decide
  have hx := z_hd hS
  have h0 := z_i0
  exact lv_if_eq G.1 G.2.1 hd ht (fun q => by rw [← h0] at q; exact kt ((z_ieq hx hy).mp q) hC hL (z_tl hS) p l e Rm s m args below meth c Γ G H locs lsA hP hv hl) (fun q => by rw [← h0] at q; exact kf (fun z => q ((z_ieq hx hy).mpr z)) hC hL (z_tl hS) p l e Rm s m args below meth c Γ G H locs lsA hP hv hl)
theorem g_icmp_ne {x y : Int} {off : Int} {tgt : Nat} (hd : decode μ.2.1 pc = .ok (.if_icmp .ne off, 3)) (ht : (pc : Int) + off = (tgt : Int)) (kt : x ≠ y → z_R μ fin tgt ls st I) (kf : x = y → z_R μ fin (pc + 3) ls st I) : z_R μ fin pc ls (aI y :: aI x :: st) I := by
  intro hC hL hS p l e Rm s m args below meth c Γ G H locs lsA hP hv hl
  have hy := z_hd hS
  have hx := z_hd (z_tl hS)
  exact lv_icmp_ne G.1 G.2.1 hd ht (fun q => kt (fun z => q ((z_ieq hx hy).mpr z)) hC hL (z_tl (z_tl hS)) p l e Rm s m args below meth c Γ G H locs lsA hP hv hl) (fun q => kf ((z_ieq hx hy).mp q) hC hL (z_tl (z_tl hS)) p l e Rm s m args below meth c Γ G H locs lsA hP hv hl)
theorem g_if_ne {x : Int} {off : Int} {tgt : Nat} (hd : decode μ.2.1 pc = .ok (.ifCond .ne off, 3)) (ht : (pc : Int) + off = (tgt : Int)) (kt : x ≠ 0 → z_R μ fin tgt ls st I) (kf : x = 0 → z_R μ fin (pc + 3) ls st I) : z_R μ fin pc ls (aI x :: st) I := by
  intro hC hL hS p l e Rm s m args below meth c Γ G H locs lsA hP hv hl
  have hy : inI 0 := by decide
  have hx := z_hd hS
  have h0 := z_i0
  exact lv_if_ne G.1 G.2.1 hd ht (fun q => by rw [← h0] at q; exact kt (fun z => q ((z_ieq hx hy).mpr z)) hC hL (z_tl hS) p l e Rm s m args below meth c Γ G H locs lsA hP hv hl) (fun q => by rw [← h0] at q; exact kf ((z_ieq hx hy).mp q) hC hL (z_tl hS) p l e Rm s m args below meth c Γ G H locs lsA hP hv hl)
theorem g_icmp_lt {x y : Int} {off : Int} {tgt : Nat} (hd : decode μ.2.1 pc = .ok (.if_icmp .lt off, 3)) (ht : (pc : Int) + off = (tgt : Int)) (kt : x < y → z_R μ fin tgt ls st I) (kf : y ≤ x → z_R μ fin (pc + 3) ls st I) : z_R μ fin pc ls (aI y :: aI x :: st) I := by
  intro hC hL hS p l e Rm s m args below meth c Γ G H locs lsA hP hv hl
  have hy := z_hd hS
  have hx := z_hd (z_tl hS)
  exact lv_icmp_lt G.1 G.2.1 hd ht (fun q => kt ((z_ilt hx hy).mp q) hC hL (z_tl (z_tl hS)) p l e Rm s m args below meth c Γ G H locs lsA hP hv hl) (fun q => kf (Int.not_lt.mp (fun z => q ((z_ilt hx hy).mpr z))) hC hL (z_tl (z_tl hS)) p l e Rm s m args below meth c Γ G H locs lsA hP hv hl)
theorem g_if_lt {x : Int} {off : Int} {tgt : Nat} (hd : decode μ.2.1 pc = .ok (.ifCond .lt off, 3)) (ht : (pc : Int) + off = (tgt : Int)) (kt : x < 0 → z_R μ fin tgt ls st I) (kf : 0 ≤ x → z_R μ fin (pc + 3) ls st I) : z_R μ fin pc ls (aI x :: st) I := by
  intro hC hL hS p l e Rm s m args below meth c Γ G H locs lsA hP hv hl
  have hy : inI 0 := by decide
  have hx := z_hd hS
  have h0 := z_i0
  exact lv_if_lt G.1 G.2.1 hd ht (fun q => by rw [← h0] at q; exact kt ((z_ilt hx hy).mp q) hC hL (z_tl hS) p l e Rm s m args below meth c Γ G H locs lsA hP hv hl) (fun q => by rw [← h0] at q; exact kf (Int.not_lt.mp (fun z => q ((z_ilt hx hy).mpr z))) hC hL (z_tl hS) p l e Rm s m args below meth c Γ G H locs lsA hP hv hl)
theorem g_icmp_ge {x y : Int} {off : Int} {tgt : Nat} (hd : decode μ.2.1 pc = .ok (.if_icmp .ge off, 3)) (ht : (pc : Int) + off = (tgt : Int)) (kt : y ≤ x → z_R μ fin tgt ls st I) (kf : x < y → z_R μ fin (pc + 3) ls st I) : z_R μ fin pc ls (aI y :: aI x :: st) I := by
  intro hC hL hS p l e Rm s m args below meth c Γ G H locs lsA hP hv hl
  have hy := z_hd hS
  have hx := z_hd (z_tl hS)
  exact lv_icmp_ge G.1 G.2.1 hd ht (fun q => kt ((z_ile hy hx).mp q) hC hL (z_tl (z_tl hS)) p l e Rm s m args below meth c Γ G H locs lsA hP hv hl) (fun q => kf (Int.not_le.mp (fun z => q ((z_ile hy hx).mpr z))) hC hL (z_tl (z_tl hS)) p l e Rm s m args below meth c Γ G H locs lsA hP hv hl)
theorem g_if_ge {x : Int} {off : Int} {tgt : Nat} (hd : decode μ.2.1 pc = .ok (.ifCond .ge off, 3)) (ht : (pc : Int) + off = (tgt : Int)) (kt : 0 ≤ x → z_R μ fin tgt ls st I) (kf : x < 0 → z_R μ fin (pc + 3) ls st I) : z_R μ fin pc ls (aI x :: st) I := by
  intro hC hL hS p l e Rm s m args below meth c Γ G H locs lsA hP hv hl
  have hy : inI 0 := by decide
  have hx := z_hd hS
  have h0 := z_i0
  exact lv_if_ge G.1 G.2.1 hd ht (fun q => by rw [← h0] at q; exact kt ((z_ile hy hx).mp q) hC hL (z_tl hS) p l e Rm s m args below meth c Γ G H locs lsA hP hv hl) (fun q => by rw [← h0] at q; exact kf (Int.not_le.mp (fun z => q ((z_ile hy hx).mpr z))) hC hL (z_tl hS) p l e Rm s m args below meth c Γ G H locs lsA hP hv hl)
theorem g_icmp_gt {x y : Int} {off : Int} {tgt : Nat} (hd : decode μ.2.1 pc = .ok (.if_icmp .gt off, 3)) (ht : (pc : Int) + off = (tgt : Int)) (kt : y < x → z_R μ fin tgt ls st I) (kf : x ≤ y → z_R μ fin (pc + 3) ls st I) : z_R μ fin pc ls (aI y :: aI x :: st) I := by
  intro hC hL hS p l e Rm s m args below meth c Γ G H locs lsA hP hv hl
  have hy := z_hd hS
  have hx := z_hd (z_tl hS)
  exact lv_icmp_gt G.1 G.2.1 hd ht (fun q => kt ((z_ilt hy hx).mp q) hC hL (z_tl (z_tl hS)) p l e Rm s m args below meth c Γ G H locs lsA hP hv hl) (fun q => kf (Int.not_lt.mp (fun z => q ((z_ilt hy hx).mpr z))) hC hL (z_tl (z_tl hS)) p l e Rm s m args below meth c Γ G H locs lsA hP hv hl)
theorem g_if_gt {x : Int} {off : Int} {tgt : Nat} (hd : decode μ.2.1 pc = .ok (.ifCond .gt off, 3)) (ht : (pc : Int) + off = (tgt : Int)) (kt : 0 < x → z_R μ fin tgt ls st I) (kf : x ≤ 0 → z_R μ fin (pc + 3) ls st I) : z_R μ fin pc ls (aI x :: st) I := by
  intro hC hL hS p l e Rm s m args below meth c Γ G H locs lsA hP hv hl
  have hy : inI 0 := by decide
  have hx := z_hd hS
  have h0 := z_i0
  exact lv_if_gt G.1 G.2.1 hd ht (fun q => by rw [← h0] at q; exact kt ((z_ilt hy hx).mp q) hC hL (z_tl hS) p l e Rm s m args below meth c Γ G H locs lsA hP hv hl) (fun q => by rw [← h0] at q; exact kf (Int.not_lt.mp (fun z => q ((z_ilt hy hx).mpr z))) hC hL (z_tl hS) p l e Rm s m args below meth c Γ G H locs lsA hP hv hl)
theorem g_icmp_le {x y : Int} {off : Int} {tgt : Nat} (hd : decode μ.2.1 pc = .ok (.if_icmp .le off, 3)) (ht : (pc : Int) + off = (tgt : Int)) (kt : x ≤ y → z_R μ fin tgt ls st I) (kf : y < x → z_R μ fin (pc + 3) ls st I) : z_R μ fin pc ls (aI y :: aI x :: st) I := by
  intro hC hL hS p l e Rm s m args below meth c Γ G H locs lsA hP hv hl
  have hy := z_hd hS
  have hx := z_hd (z_tl hS)
  exact lv_icmp_le G.1 G.2.1 hd ht (fun q => kt ((z_ile hx hy).mp q) hC hL (z_tl (z_tl hS)) p l e Rm s m args below meth c Γ G H locs lsA hP hv hl) (fun q => kf (Int.not_le.mp (fun z => q ((z_ile hx hy).mpr z))) hC hL (z_tl (z_tl hS)) p l e Rm s m args below meth c Γ G H locs lsA hP hv hl)
theorem g_if_le {x : Int} {off : Int} {tgt : Nat} (hd : decode μ.2.1 pc = .ok (.ifCond .le off, 3)) (ht : (pc : Int) + off = (tgt : Int)) (kt : x ≤ 0 → z_R μ fin tgt ls st I) (kf : 0 < x → z_R μ fin (pc + 3) ls st I) : z_R μ fin pc ls (aI x :: st) I := by
  intro hC hL hS p l e Rm s m args below meth c Γ G H locs lsA hP hv hl
  have hy : inI 0 := by decide
  have hx := z_hd hS
  have h0 := z_i0
  exact lv_if_le G.1 G.2.1 hd ht (fun q => by rw [← h0] at q; exact kt ((z_ile hx hy).mp q) hC hL (z_tl hS) p l e Rm s m args below meth c Γ G H locs lsA hP hv hl) (fun q => by rw [← h0] at q; exact kf (Int.not_le.mp (fun z => q ((z_ile hx hy).mpr z))) hC hL (z_tl hS) p l e Rm s m args below meth c Γ G H locs lsA hP hv hl)
theorem g_tabIn {dflt lo hi : Int} {offs : Array Int} {len : Nat} {x : Int} {off : Int} {tgt : Nat} (hd : decode μ.2.1 pc = .ok (.tableswitch dflt lo hi offs, len)) (h1 : lo ≤ x) (h2 : x ≤ hi) (ho : offs[(x - lo).toNat]? = some off) (ht : (pc : Int) + off = (tgt : Int)) (k : z_R μ fin tgt ls st I) : z_R μ fin pc ls (aI x :: st) I := by
  intro hC hL hS p l e Rm s m args below meth c Γ G H locs lsA hP hv hl
  have hx := z_iT (z_hd hS)
  exact lv_tableIn G.1 G.2.1 hd (by rw [hx]; omega) (by rw [hx]; omega) (by rw [hx]; exact ho) ht (k hC hL (z_tl hS) p l e Rm s m args below meth c Γ G H locs lsA hP hv hl)
theorem g_tabOut {dflt lo hi : Int} {offs : Array Int} {len : Nat} {x : Int} {tgt : Nat} (hd : decode μ.2.1 pc = .ok (.tableswitch dflt lo hi offs, len)) (h : x < lo ∨ hi < x) (ht : (pc : Int) + dflt = (tgt : Int)) (k : z_R μ fin tgt ls st I) : z_R μ fin pc ls (aI x :: st) I := by
  intro hC hL hS p l e Rm s m args below meth c Γ G H locs lsA hP hv hl
  have hx := z_iT (z_hd hS)
  exact lv_tableOut G.1 G.2.1 hd (by rw [hx]; exact h) ht (k hC hL (z_tl hS) p l e Rm s m args below meth c Γ G H locs lsA hP hv hl)
end ZR
end
section
/-! RULES OF THE HEAP, calls, ends -/
theorem z_lt {k c : Nat} (h : z_cl k = c) (hc : c < 99) : k < 74 := by
  apply Nat.lt_of_not_le
  intro q
  have e : z_cl k = 99 := by
    unfold z_cl
    rw [List.getD_eq_getElem?_getD, List.getElem?_eq_none_iff.mpr (by exact q)]
    rfl
  omega
theorem z_rowc {I : z_M} {k : Nat} {f : Nat → Int} (h : z_CI I) (hf : ∀ j, inI (f j)) : z_CI (z_row I k f) := by
  intro a j
  unfold z_row
  by_cases e : a = k
  · rw [if_pos e]
    exact ⟨z_inI_inL (hf j), fun _ => hf j⟩
  · rw [if_neg e]
    exact h a j
theorem z_upc {I : z_M} {k j : Nat} {x : Int} (h : z_CI I) (hx : inI x) : z_CI (z_up I k j x) := by
  intro a b
  unfold z_up
  by_cases e : a = k ∧ b = j
  · rw [if_pos e]
    exact ⟨z_inI_inL hx, fun _ => hx⟩
  · rw [if_neg e]
    exact h a b
theorem z_upcl {I : z_M} {k j : Nat} {x : Int} (h : z_CI I) (hx : inL x) (hl : z_lg k j = true) : z_CI (z_up I k j x) := by
  intro a b
  unfold z_up
  by_cases e : a = k ∧ b = j
  · rw [if_pos e]
    refine ⟨hx, fun q => ?_⟩
    rw [e.1, e.2, hl] at q
    cases q
  · rw [if_neg e]
    exact h a b
theorem z_lg_arr {k j : Nat} (h : 12 ≤ z_cl k) : z_lg k j = false := by
  unfold z_lg
  rw [decide_eq_false (by omega)]
  rfl
theorem z_lg_int {k j : Nat} (h : z_ft (z_cl k) j = 0) : z_lg k j = false := by
  unfold z_lg
  rw [h]
  simp
theorem z_fs_get {ad : Nat → Nat} {I : z_M} {k j : Nat} (h : j < z_n k) : (z_fs ad I k)[j]? = some (z_fv ad I k j (z_ft (z_cl k) j)) := by simp [z_fs, h]
theorem z_fs_set {ad : Nat → Nat} {I : z_M} {k j : Nat} {x : Int} {w : Value} (hw : w = z_fv ad (z_up I k j x) k j (z_ft (z_cl k) j)) : (z_fs ad I k).set j w = z_fs ad (z_up I k j x) k := by
  apply List.ext_getElem?
  intro i
  rw [List.getElem?_set]
  by_cases hi : j = i
  · subst hi
    rw [if_pos rfl]
    by_cases hk : j < z_n k
    · rw [z_fs_get hk, if_pos (by simpa [z_fs] using hk), hw]
    · rw [if_neg (by simpa [z_fs] using hk)]
      symm
      rw [List.getElem?_eq_none_iff]
      simp [z_fs]
      omega
  · rw [if_neg hi]
    by_cases hk : i < z_n k
    · rw [z_fs_get hk, z_fs_get hk]
      have e : z_up I k j x k i = I k i := by
        unfold z_up
        rw [if_neg (by intro q; exact hi q.2.symm)]
      unfold z_fv
      rw [e]
    · rw [List.getElem?_eq_none_iff.mpr (by simp [z_fs]; omega), List.getElem?_eq_none_iff.mpr (by simp [z_fs]; omega)]
theorem z_up_off {I : z_M} {k j : Nat} {x : Int} : ∀ a, a ≠ k → ∀ b, z_up I k j x a b = I a b := by
  intro a ha b
  unfold z_up
  rw [if_neg (by intro q; exact ha q.1)]
theorem z_row_off {I : z_M} {k : Nat} {f : Nat → Int} : ∀ a, a ≠ k → ∀ b, z_row I k f a b = I a b := by
  intro a ha b
  unfold z_row
  rw [if_neg ha]
theorem z_ent_o {ad : Nat → Nat} {cA : Nat → ClassId} {I : z_M} {k : Nat} (h : z_cl k < 12) : z_ent ad cA I k = .inr (z_cl k, z_fs ad I k) := by
  unfold z_ent
  rw [if_pos h]
theorem z_ent_a {ad : Nat → Nat} {cA : Nat → ClassId} {I : z_M} {k : Nat} (h1 : 12 ≤ z_cl k) (h2 : z_cl k < 23) : z_ent ad cA I k = .inl (cA k, (z_n k, .inl (fun j => z_i (I k j)))) := by
  unfold z_ent
  rw [if_neg (by omega), if_pos h2]
theorem z_ent_q {ad : Nat → Nat} {cA : Nat → ClassId} {I : z_M} {k : Nat} (h1 : 23 ≤ z_cl k) : z_ent ad cA I k = .inl (cA k, (z_n k, .inr (.inr (.inr (.inr (fun j => some (ad (z_rf k j)))))))) := by
  unfold z_ent
  rw [if_neg (by omega), if_neg (by omega)]
section ZH
variable {μ : z_Mt} {fin : z_Fin} {pc : Nat} {ls st : List z_V} {I : z_M}
theorem g_getf {ix k j ci N : Nat} {C : String} {T : u_T} (hd : decode μ.2.1 pc = .ok (.getfield ix, 3)) (hk : z_cl k = ci) (hvw : vwCl[ci]? = some (C, T, N)) (hci : ci < 12) (hn : z_n k = N) (hin : ∀ w ∈ u_ws C T N, w ∈ wsL_law) (hj : j < N) (hw : Cond.fieldLink μ.1 ix (T j).1 (T j).2.1 (T j).2.2.1 ∈ z_W) {v : z_V} (hv9 : ∀ ad : Nat → Nat, z_fv ad I k j (z_ft ci j) = z_cv ad v) (hc9 : z_CI I → z_ca v)
    (k9 : z_R μ fin (pc + 3) ls (v :: st) I) : z_R μ fin pc ls (aR k :: st) I := by
  intro hC hL hS p l e Rm s m args below meth c Γ G H locs lsA hP hv hl
  have hk74 := z_lt hk (by omega)
  refine va_get (ci := ci) (fs := z_fs (gad Γ) I k) G.1 G.2.1 G.2.2.2.2.2.1 (fun w h => z_WL (hin w h)) G.2.2.2.2.1 G.2.2.2.2.2.2.2.2.1 hP k (by rw [z_ws_get hk74, z_ent_o (by omega), hk]) hvw j hj (G.2.2.2.2.2.1 _ hw) (fun _ h => h) (v := z_cv (gad Γ) v) (by rw [z_fs_get (by omega), hk, hv9]) hd ?_
  exact k9 hC hL (z_cons (hc9 hC) (z_tl hS)) p l e Rm s m args below meth c Γ G H locs lsA hP hv hl
theorem g_geti {ix k j ci N : Nat} {C : String} {T : u_T} (hd : decode μ.2.1 pc = .ok (.getfield ix, 3)) (hk : z_cl k = ci) (hvw : vwCl[ci]? = some (C, T, N)) (hci : ci < 12) (hn : z_n k = N) (hin : ∀ w ∈ u_ws C T N, w ∈ wsL_law) (hj : j < N) (hw : Cond.fieldLink μ.1 ix (T j).1 (T j).2.1 (T j).2.2.1 ∈ z_W) (hft : z_ft ci j = 0)
    (k9 : z_R μ fin (pc + 3) ls (aI (I k j) :: st) I) : z_R μ fin pc ls (aR k :: st) I :=
  g_getf (v := aI (I k j)) hd hk hvw hci hn hin hj hw (fun ad => by rw [hft]; rfl) (fun hC => (hC k j).2 (z_lg_int (by rw [hk]; exact hft))) k9
theorem g_getl {ix k j ci N : Nat} {C : String} {T : u_T} (hd : decode μ.2.1 pc = .ok (.getfield ix, 3)) (hk : z_cl k = ci) (hvw : vwCl[ci]? = some (C, T, N)) (hci : ci < 12) (hn : z_n k = N) (hin : ∀ w ∈ u_ws C T N, w ∈ wsL_law) (hj : j < N) (hw : Cond.fieldLink μ.1 ix (T j).1 (T j).2.1 (T j).2.2.1 ∈ z_W) (hft : z_ft ci j = 1)
    (k9 : z_R μ fin (pc + 3) ls (aL (I k j) :: st) I) : z_R μ fin pc ls (aR k :: st) I :=
  g_getf (v := aL (I k j)) hd hk hvw hci hn hin hj hw (fun ad => by rw [hft]; rfl) (fun hC => (hC k j).1) k9
theorem g_getr {ix k j ci N q : Nat} {C : String} {T : u_T} (hd : decode μ.2.1 pc = .ok (.getfield ix, 3)) (hk : z_cl k = ci) (hvw : vwCl[ci]? = some (C, T, N)) (hci : ci < 12) (hn : z_n k = N) (hin : ∀ w ∈ u_ws C T N, w ∈ wsL_law) (hj : j < N) (hw : Cond.fieldLink μ.1 ix (T j).1 (T j).2.1 (T j).2.2.1 ∈ z_W) (hft : z_ft ci j = 2) (hq : z_rf k j = q)
    (k9 : z_R μ fin (pc + 3) ls (aR q :: st) I) : z_R μ fin pc ls (aR k :: st) I :=
  g_getf hd hk hvw hci hn hin hj hw (v := aR q) (fun ad => by rw [hft, ← hq]; rfl) (fun _ => trivial) k9
theorem g_putf {ix k j ci N : Nat} {C : String} {T : u_T} {ty0 : Nat → FieldType} {ty : FieldType} {v : z_V} {x : Int} (hd : decode μ.2.1 pc = .ok (.putfield ix, 3)) (hk : z_cl k = ci) (hvw : vwCl[ci]? = some (C, T, N)) (hci : ci < 12) (hn : z_n k = N) (hin : ∀ w ∈ u_ws C T N, w ∈ wsL_law) (hty : ∀ k, k < N → parseFieldDescriptor (T k).2.2.1 = some (ty0 k)) (hnm : ∀ a, a < N → ∀ b, b < N → a ≠ b → (T a).2.1 ≠ (T b).2.1) (hj : j < N) (hw : Cond.fieldLink μ.1 ix (T j).1 (T j).2.1 (T j).2.2.1 ∈ z_W) (hfin : (T j).2.2.2 = false) (hty1 : parseFieldDescriptor (T j).2.2.1 = some ty)
    (hna : ∀ ad : Nat → Nat, narrow ty (z_cv ad v) = z_cv ad v ∧ fits ty (z_cv ad v) = true) (hv9 : ∀ ad : Nat → Nat, z_cv ad v = z_fv ad (z_up I k j x) k j (z_ft ci j)) (hc9 : z_CI I → z_ca v → z_CI (z_up I k j x))
    (k9 : z_R μ fin (pc + 3) ls st (z_up I k j x)) : z_R μ fin pc ls (v :: aR k :: st) I := by
  intro hC hL hS p l e Rm s m args below meth c Γ G H locs lsA hP hv hl
  have hk74 := z_lt hk (by omega)
  have hok := G.2.2.2.2.2.2.2.2.2.1
  refine va_put (ci := ci) (fs := z_fs (gad Γ) I k) G.1 G.2.1 G.2.2.2.2.2.1 (fun w h => z_WL (hin w h)) ty0 hty hnm G.2.2.2.2.1 G.2.2.2.2.2.2.2.2.1 hP (hok.D I) hv k (by rw [z_ws_get hk74, z_ent_o (by omega), hk]) hvw j hj (G.2.2.2.2.2.1 _ hw) (fun _ h => h) hfin hty1 (hna _).1 (hna _).2 (by simp [z_fs]; omega) hd (fun H1 locs1 hP1 hD1 hS1 => ?_)
  rw [z_ws_set (I' := z_up I k j x) z_up_off (by rw [z_ent_o (by omega), hk, z_fs_set (by rw [hk]; exact hv9 _)])] at hP1
  exact k9 (hc9 hC (z_hd hS)) hL (z_tl (z_tl hS)) p l e Rm s m args below meth c Γ G H1 locs1 lsA hP1 hS1 hl
theorem g_puti {ix k j ci N : Nat} {C : String} {T : u_T} {ty0 : Nat → FieldType} {x : Int} (hd : decode μ.2.1 pc = .ok (.putfield ix, 3)) (hk : z_cl k = ci) (hvw : vwCl[ci]? = some (C, T, N)) (hci : ci < 12) (hn : z_n k = N) (hin : ∀ w ∈ u_ws C T N, w ∈ wsL_law) (hty : ∀ k, k < N → parseFieldDescriptor (T k).2.2.1 = some (ty0 k)) (hnm : ∀ a, a < N → ∀ b, b < N → a ≠ b → (T a).2.1 ≠ (T b).2.1) (hj : j < N) (hw : Cond.fieldLink μ.1 ix (T j).1 (T j).2.1 (T j).2.2.1 ∈ z_W) (hfin : (T j).2.2.2 = false) (hty1 : parseFieldDescriptor (T j).2.2.1 = some .int) (hft : z_ft ci j = 0)
    (k9 : z_R μ fin (pc + 3) ls st (z_up I k j x)) : z_R μ fin pc ls (aI x :: aR k :: st) I :=
  g_putf (x := x) hd hk hvw hci hn hin hty hnm hj hw hfin hty1 (fun ad => ⟨rfl, rfl⟩) (fun ad => by rw [hft]; unfold z_fv z_up; simp; rfl) (fun hC hx => z_upc hC hx) k9
theorem g_putl {ix k j ci N : Nat} {C : String} {T : u_T} {ty0 : Nat → FieldType} {x : Int} (hd : decode μ.2.1 pc = .ok (.putfield ix, 3)) (hk : z_cl k = ci) (hvw : vwCl[ci]? = some (C, T, N)) (hci : ci < 12) (hn : z_n k = N) (hin : ∀ w ∈ u_ws C T N, w ∈ wsL_law) (hty : ∀ k, k < N → parseFieldDescriptor (T k).2.2.1 = some (ty0 k)) (hnm : ∀ a, a < N → ∀ b, b < N → a ≠ b → (T a).2.1 ≠ (T b).2.1) (hj : j < N) (hw : Cond.fieldLink μ.1 ix (T j).1 (T j).2.1 (T j).2.2.1 ∈ z_W) (hfin : (T j).2.2.2 = false) (hty1 : parseFieldDescriptor (T j).2.2.1 = some .long) (hft : z_ft ci j = 1)
    (k9 : z_R μ fin (pc + 3) ls st (z_up I k j x)) : z_R μ fin pc ls (aL x :: aR k :: st) I :=
  g_putf (x := x) hd hk hvw hci hn hin hty hnm hj hw hfin hty1 (fun ad => ⟨rfl, rfl⟩) (fun ad => by rw [hft]; unfold z_fv z_up; simp; rfl) (fun hC hx => z_upcl hC hx (by unfold z_lg; rw [hk, hft]; simp [hci])) k9
theorem z_arr {Γ : z_G} {k c : Nat} (h : z_cl k = c) (h1 : 12 ≤ c) (h2 : c < 23) : (z_ws (gad Γ) (gcA Γ) I)[k]? = some (gad Γ k, .inl (gcA Γ k, z_n k, .inl (fun j => z_i (I k j)))) := by
  rw [z_ws_get (z_lt h (by omega)), z_ent_a (by omega) (by omega)]
theorem z_tya {cA : Nat → ClassId} {k c : Nat} {ty : FieldType} (h : z_cl k = c) (hc : c < 99) (ht : z_ty k = ty) : (z_tys cA)[k]? = some (cA k, ty) := by
  rw [z_tys_get (z_lt h hc), ht]
theorem g_iald {k : Nat} {i : Int} (hd : decode μ.2.1 pc = .ok (.iaload, 1)) (hk : z_cl k = 20) (h0 : 0 ≤ i) (h1 : i < z_n k) (k9 : z_R μ fin (pc + 1) ls (aI (I k i.toNat) :: st) I) : z_R μ fin pc ls (aI i :: aR k :: st) I := by
  intro hC hL hS p l e Rm s m args below meth c Γ G H locs lsA hP hv hl
  have hi := z_hd hS
  refine va_iald G.1 G.2.1 G.2.2.2.2.2.2.2.2.1 hP k k (z_arr hk (by omega) (by omega)) (z_tya hk (by omega) (by unfold z_ty; rw [hk]; rfl)) (z_vp hi h0 h1) hd ?_
  rw [z_tn hi]
  exact k9 hC hL (z_cons ((hC _ _).2 (z_lg_arr (by omega))) (z_tl (z_tl hS))) p l e Rm s m args below meth c Γ G H locs lsA hP hv hl
theorem g_bald {k : Nat} {i : Int} (hd : decode μ.2.1 pc = .ok (.baload, 1)) (hk : z_cl k = 21) (h0 : 0 ≤ i) (h1 : i < z_n k) (k9 : z_R μ fin (pc + 1) ls (aI (I k i.toNat) :: st) I) : z_R μ fin pc ls (aI i :: aR k :: st) I := by
  intro hC hL hS p l e Rm s m args below meth c Γ G H locs lsA hP hv hl
  have hi := z_hd hS
  refine va_bald G.1 G.2.1 G.2.2.2.2.2.2.2.2.1 hP k k (z_arr hk (by omega) (by omega)) (z_tya hk (by omega) (by unfold z_ty; rw [hk]; rfl)) (z_vp hi h0 h1) hd ?_
  rw [z_tn hi]
  exact k9 hC hL (z_cons ((hC _ _).2 (z_lg_arr (by omega))) (z_tl (z_tl hS))) p l e Rm s m args below meth c Γ G H locs lsA hP hv hl
theorem g_zald {k : Nat} {i : Int} (hd : decode μ.2.1 pc = .ok (.baload, 1)) (hk : z_cl k = 22) (h0 : 0 ≤ i) (h1 : i < z_n k) (k9 : z_R μ fin (pc + 1) ls (aI (I k i.toNat) :: st) I) : z_R μ fin pc ls (aI i :: aR k :: st) I := by
  intro hC hL hS p l e Rm s m args below meth c Γ G H locs lsA hP hv hl
  have hi := z_hd hS
  refine va_zald G.1 G.2.1 G.2.2.2.2.2.2.2.2.1 hP k k (z_arr hk (by omega) (by omega)) (z_tya hk (by omega) (by unfold z_ty; rw [hk]; rfl)) (z_vp hi h0 h1) hd ?_
  rw [z_tn hi]
  exact k9 hC hL (z_cons ((hC _ _).2 (z_lg_arr (by omega))) (z_tl (z_tl hS))) p l e Rm s m args below meth c Γ G H locs lsA hP hv hl
theorem g_aald {k c q : Nat} {E : String} {i : Int} (hd : decode μ.2.1 pc = .ok (.aaload, 1)) (hk : z_cl k = c) (hc : 23 ≤ c) (hc2 : c < 99) (hE : z_ty k = .object E) (h0 : 0 ≤ i) (h1 : i < z_n k) (hq : z_rf k i.toNat = q) (k9 : z_R μ fin (pc + 1) ls (aR q :: st) I) : z_R μ fin pc ls (aI i :: aR k :: st) I := by
  intro hC hL hS p l e Rm s m args below meth c Γ G H locs lsA hP hv hl
  have hi := z_hd hS
  refine va_aldq G.1 G.2.1 G.2.2.2.2.2.2.2.2.1 hP k k (by rw [z_ws_get (z_lt hk (by omega)), z_ent_q (by omega)]) (z_tya hk (by omega) hE) (z_vp hi h0 h1) hd ?_
  rw [z_tn hi, hq]
  exact k9 hC hL (z_cons trivial (z_tl (z_tl hS))) p l e Rm s m args below meth c Γ G H locs lsA hP hv hl
theorem g_alenq {k c : Nat} {E : String} (hd : decode μ.2.1 pc = .ok (.arraylength, 1)) (hk : z_cl k = c) (hc : 23 ≤ c) (hc2 : c < 99) (hE : z_ty k = .object E) (hr : inI (z_n k)) (k9 : z_R μ fin (pc + 1) ls (aI (z_n k) :: st) I) : z_R μ fin pc ls (aR k :: st) I := by
  intro hC hL hS p l e Rm s m args below meth c Γ G H locs lsA hP hv hl
  refine va_alen (x := (z_n k, .inr (.inr (.inr (.inr (fun j => some (gad Γ (z_rf k j)))))))) G.1 G.2.1 G.2.2.2.2.2.2.2.2.1 hP k k (by rw [z_ws_get (z_lt hk (by omega)), z_ent_q (by omega)]) (z_tya hk (by omega) hE) (v := z_i (z_n k)) (z_iN (z_n k)).symm hd ?_
  exact k9 hC hL (z_cons hr (z_tl hS)) p l e Rm s m args below meth c Γ G H locs lsA hP hv hl
theorem z_up_fun {I : z_M} {k j : Nat} {x : Int} : (fun b => z_i (z_up I k j x k b)) = upd (fun b => z_i (I k b)) j (z_i x) := by
  funext b
  unfold z_up upd
  by_cases h : b = j
  · simp [h]
  · simp [h]
theorem z_aset {Γ : z_G} {k c j : Nat} {x : Int} (h : z_cl k = c) (h1 : 12 ≤ c) (h2 : c < 23) : (z_ws (gad Γ) (gcA Γ) I).set k (gad Γ k, .inl (gcA Γ k, z_n k, .inl (upd (fun b => z_i (I k b)) j (z_i x)))) = z_ws (gad Γ) (gcA Γ) (z_up I k j x) :=
  z_ws_set z_up_off (by rw [z_ent_a (by omega) (by omega), z_up_fun])
theorem g_iast {k : Nat} {i x : Int} (hd : decode μ.2.1 pc = .ok (.iastore, 1)) (hk : z_cl k = 20) (h0 : 0 ≤ i) (h1 : i < z_n k) (k9 : z_R μ fin (pc + 1) ls st (z_up I k i.toNat x)) : z_R μ fin pc ls (aI x :: aI i :: aR k :: st) I := by
  intro hC hL hS p l e Rm s m args below meth c Γ G H locs lsA hP hv hl
  have hi := z_hd (z_tl hS)
  refine va_iast G.1 G.2.1 G.2.2.2.2.2.2.2.2.1 hP (G.2.2.2.2.2.2.2.2.2.1.D I) hv k k (z_arr hk (by omega) (by omega)) (z_tya hk (by omega) (by unfold z_ty; rw [hk]; rfl)) (z_vp hi h0 h1) hd (fun H1 locs1 hP1 hD1 hS1 => ?_)
  rw [z_tn hi, z_aset hk (by omega) (by omega)] at hP1
  exact k9 (z_upc hC (z_hd hS)) hL (z_tl (z_tl (z_tl hS))) p l e Rm s m args below meth c Γ G H1 locs1 lsA hP1 hS1 hl
theorem g_bast {k : Nat} {i x : Int} (hd : decode μ.2.1 pc = .ok (.bastore, 1)) (hk : z_cl k = 21) (h0 : 0 ≤ i) (h1 : i < z_n k) (hx : -128 ≤ x ∧ x ≤ 127) (k9 : z_R μ fin (pc + 1) ls st (z_up I k i.toNat x)) : z_R μ fin pc ls (aI x :: aI i :: aR k :: st) I := by
  intro hC hL hS p l e Rm s m args below meth c Γ G H locs lsA hP hv hl
  have hi := z_hd (z_tl hS)
  refine va_bast G.1 G.2.1 G.2.2.2.2.2.2.2.2.1 hP (G.2.2.2.2.2.2.2.2.2.1.D I) hv k k (z_arr hk (by omega) (by omega)) (z_tya hk (by omega) (by unfold z_ty; rw [hk]; rfl)) (z_vp hi h0 h1) hd (fun H1 locs1 hP1 hD1 hS1 => ?_)
  rw [z_tn hi, vp_nar_byte, z_i2b hx, z_aset hk (by omega) (by omega)] at hP1
  exact k9 (z_upc hC (z_hd hS)) hL (z_tl (z_tl (z_tl hS))) p l e Rm s m args below meth c Γ G H1 locs1 lsA hP1 hS1 hl
theorem z_narz {x : Int} (hx : x = 0 ∨ x = 1) : vp_nar .boolean (z_i x) = z_i x := by rcases hx with rfl | rfl <;> decide +kernel
theorem g_zast {k : Nat} {i x : Int} (hd : decode μ.2.1 pc = .ok (.bastore, 1)) (hk : z_cl k = 22) (h0 : 0 ≤ i) (h1 : i < z_n k) (hx : x = 0 ∨ x = 1) (k9 : z_R μ fin (pc + 1) ls st (z_up I k i.toNat x)) : z_R μ fin pc ls (aI x :: aI i :: aR k :: st) I := by
  intro hC hL hS p l e Rm s m args below meth c Γ G H locs lsA hP hv hl
  have hi := z_hd (z_tl hS)
  refine va_zast G.1 G.2.1 G.2.2.2.2.2.2.2.2.1 hP (G.2.2.2.2.2.2.2.2.2.1.D I) hv k k (z_arr hk (by omega) (by omega)) (z_tya hk (by omega) (by unfold z_ty; rw [hk]; rfl)) (z_vp hi h0 h1) hd (fun H1 locs1 hP1 hD1 hS1 => ?_)
  rw [z_tn hi, z_narz hx, z_aset hk (by omega) (by omega)] at hP1
  exact k9 (z_upc hC (z_hd hS)) hL (z_tl (z_tl (z_tl hS))) p l e Rm s m args below meth c Γ G H1 locs1 lsA hP1 hS1 hl
def z_cp (I : z_M) (k0 k1 sp dp n : Nat) : z_M := z_row I k1 (va_cpy (I k0) (I k1) sp dp n)
theorem g_copy {ix k0 k1 : Nat} {sp dp n : Nat} (hd : decode μ.2.1 pc = .ok (.invokestatic ix, 3)) (hw : Cond.methodLink μ.1 ix arraycopyName ∈ z_W) (hw2 : Cond.native arraycopyName ∈ z_W) (hw3 : Cond.static arraycopyName ∈ z_W) (hw4 : Cond.initialized "java/lang/System" ∈ z_W) (hk0 : z_cl k0 = 20) (hk1 : z_cl k1 = 20) (h4 : sp + n ≤ z_n k0) (h5 : dp + n ≤ z_n k1) (hfr : 1 ≤ μ.2.2.2.2.1.frames) (hlo : (st.map (fun v => (z_cv (fun _ => 0) v).category)).sum + (nativeFrameWords "java/lang/System" "arraycopy" 5 + 11) ≤ μ.2.2.2.2.1.locals)
    (k9 : z_R μ fin (pc + 3) ls st (z_cp I k0 k1 sp dp n)) : z_R μ fin pc ls (aI (n : Int) :: aI (dp : Int) :: aR k1 :: aI (sp : Int) :: aR k0 :: st) I := by
  intro hC hL hS p l e Rm s m args below meth c Γ G H locs lsA hP hv hl
  have hn := z_hd hS
  have hdp := z_hd (z_tl hS)
  have hsp := z_hd (z_tl (z_tl (z_tl hS)))
  have en : (z_i (n : Int)).toNatClampNeg = n := by rw [z_tn hn]; rfl
  have edp : (z_i (dp : Int)).toNatClampNeg = dp := by rw [z_tn hdp]; rfl
  have esp : (z_i (sp : Int)).toNatClampNeg = sp := by rw [z_tn hsp]; rfl
  have pos : ∀ {x : Nat}, inI (x : Int) → ¬ z_i (x : Int) < 0 := by
    intro x hx q
    rw [← z_i0, z_ilt hx (by decide)] at q
    omega
  have hcat : (List.map (fun v => Value.category v) (st.map (z_cv (gad Γ)))).sum = (st.map (fun v => (z_cv (fun _ => 0) v).category)).sum := by
    rw [List.map_map]
    congr 1
    apply List.map_congr_left
    intro v _
    rcases v with x | x | x | x <;> rfl
  refine va_copyi (ty := .int) G.1 G.2.1 (by rw [G.2.2.2.1, hl.1]) G.2.2.2.2.1 (G.2.2.2.2.2.1 _ hw) (G.2.2.2.2.2.1 _ hw2) (G.2.2.2.2.2.1 _ hw3) (G.2.2.2.2.2.1 _ hw4) G.2.2.2.2.2.2.2.2.1 hP (G.2.2.2.2.2.2.2.2.2.1.D I) hv k0 k1 k0 k1 (z_arr hk0 (by omega) (by omega)) (z_arr hk1 (by omega) (by omega)) (z_tya hk0 (by omega) (by unfold z_ty; rw [hk0]; rfl)) (z_tya hk1 (by omega) (by unfold z_ty; rw [hk1]; rfl)) rfl (pos hsp) (pos hdp) (pos hn) (by rw [esp, en]; exact h4) (by rw [edp, en]; exact h5) (fun _ _ => rfl) (by rw [G.2.2.2.2.2.2.2.1]; exact hfr) (by rw [G.2.2.2.2.2.2.2.1, hcat]; exact hlo) hd (fun H1 locs1 hP1 hD1 hS1 => ?_)
  rw [esp, edp, en, z_ws_set (I' := z_cp I k0 k1 sp dp n) z_row_off (by
    rw [z_ent_a (by omega) (by omega)]
    congr 4
    funext b
    unfold z_cp z_row va_cpy
    rw [if_pos rfl]
    split <;> rfl)] at hP1
  refine k9 (z_rowc hC (fun j => ?_)) hL (z_tl (z_tl (z_tl (z_tl (z_tl hS))))) p l e Rm s m args below meth c Γ G H1 locs1 lsA hP1 hS1 hl
  unfold va_cpy
  split
  · exact (hC _ _).2 (z_lg_arr (by omega))
  · exact (hC _ _).2 (z_lg_arr (by omega))
end ZH
end
section
/-! CALLS AND ENDS -/
theorem z_blind {Γ : z_G} {av : List Value} {I : z_M} : FrameBlind (va_Pc av (z_B Γ I)) := fun a U g mk h =>
  ⟨h.1, h.2.1, va_K.moved (u := U) (U := U.calling g mk a) (Vm.Alike.refl U.vm) h.2.2.1, h.2.2.2.calling g mk a⟩
def z_sw (st : List z_V) : Nat := (st.map (fun v => (z_cv (fun _ => 0) v).category)).sum
theorem z_swE (ad : Nat → Nat) (st : List z_V) : (List.map (fun v => Value.category v) (st.map (z_cv ad))).sum = z_sw st := by
  unfold z_sw
  rw [List.map_map]
  congr 1
  apply List.map_congr_left
  intro v _
  rcases v with x | x | x | x <;> rfl
theorem z_go {Γ : z_G} {p : Program} {l : Launch} {e : Env} {Rm : Room} {s : State} {m : MethodId} {args : Array Value} {below : List Frame} {meth : Method} {c : Code} {H : Heap} {locs : List Loc} {cells slots : Nat} {QQ : State → Prop} {pc : Nat} {lsA : Array Slot} {rest st0 : List Value} {a : Array Value} {Q : Option z_V → z_M → Prop}
    (hr : va_Run p l e Rm s m args below meth c H locs cells slots 0 0 (F0 m pc lsA st0) rest (z_Q Γ Q a) (gA Γ)) (hS : va_S (gA Γ) s.heap H locs)
    (kk : ∀ (r : Option z_V) (I' : z_M), Q r I' → z_CI I' → (∀ v, r = some v → z_ca v) → ∀ (H1 : Heap) (locs1 : List Loc), va_P (gD Γ) vwCl (z_ws (gad Γ) (gcA Γ) I') H1 → va_S (gA Γ) s.heap H1 locs1 → W p l e Rm s m args below meth c H1 locs1 cells slots QQ (F0 m (pc + 3) lsA ((r.map (z_cv (gad Γ))).toList ++ rest))) : W p l e Rm s m args below meth c H locs cells slots QQ (F0 m pc lsA st0) := by
  intro T hT X
  obtain ⟨v, st₀, t, T', L, h0, X', hL, e1, e2, ⟨⟨r, I', hv, hQ, hC, hca, hP⟩, hz, hk⟩, st⟩ := hr T hT X
  cases hv
  rw [h0] at hz hk
  obtain ⟨t2, a1, b1⟩ := kk r I' hQ hC hca T'.heap (locs ++ L) (by rw [e1]; exact hP)
    ⟨Nat.le_trans hS.1 (by rw [e1]; exact hz), fun q h1 h2 => by rw [e1, hk q (Nat.lt_of_lt_of_le h1 hS.1) h2]; exact hS.2.1 q h1 h2, fun q hq => by
      rcases List.mem_append.mp hq with h | h
      · exact hS.2.2 q h
      · exact hL q h⟩ T' rfl X'
  exact ⟨t2, st t2 a1, b1⟩
/-- a callee's class, code and room, as a call wants them -/
abbrev z_callee (μ : z_Mt) (y : MethodName) (cc : ByteArray) (nL : Nat) (ret : Option FieldType) (rm : Room) (n : Nat) : Prop :=
  Cond.code y cc nL ret ∈ z_W ∧ (y.cls ≠ "java/lang/invoke/MethodHandle" ∧ y.cls ≠ "java/lang/invoke/VarHandle" ∧ (parseMethodDescriptor y.desc).map (fun d => d.parameters.length) = some n) ∧ (rm.frames + 1 ≤ μ.2.2.2.2.1.frames ∧ 8 + (nL + 11) + rm.locals ≤ μ.2.2.2.2.1.locals) ∧ rm.cells = 0 ∧ rm.slots = 0 ∧ μ.2.2.2.2.2.1.1 ≤ μ.2.2.2.2.1.cells ∧ μ.2.2.2.2.2.1.2 ≤ μ.2.2.2.2.1.slots
theorem z_wsin {y : MethodName} {cc : ByteArray} {nL : Nat} {ret : Option FieldType} (h : Cond.code y cc nL ret ∈ z_W) : ∀ w ∈ (Cond.code y cc nL ret :: z_W), w ∈ z_W := fun w hw => (List.mem_cons.mp hw).elim (fun e => e ▸ h) id
section ZC
variable {μ : z_Mt} {fin : z_Fin} {pc : Nat} {ls st : List z_V} {I : z_M}
variable {y : MethodName} {cc : ByteArray} {nL : Nat} {ret : Option FieldType} {rm : Room} {As : List z_V} {Q : Option z_V → z_M → Prop} {n ix b : Nat}
theorem z_argsc {b : Nat} (h : ∀ v ∈ As.reverse ++ aR b :: st, z_ca v) : (∀ v ∈ aR b :: As, z_ca v) ∧ ∀ v ∈ st, z_ca v :=
  ⟨fun v hv => (List.mem_cons.mp hv).elim (fun e => e ▸ trivial) (fun q => h v (List.mem_append_left _ (List.mem_reverse.mpr q))), fun v hv => h v (List.mem_append_right _ (List.mem_cons_of_mem _ hv))⟩
theorem z_ret {r : Option z_V} (h : ∀ v, r = some v → z_ca v) (hs : ∀ v ∈ st, z_ca v) : ∀ v ∈ r.toList ++ st, z_ca v := by
  cases r with
  | none => exact hs
  | some w => exact z_cons (h w rfl) hs
theorem z_rmap {ad : Nat → Nat} {r : Option z_V} : (r.map (z_cv ad)).toList ++ st.map (z_cv ad) = (r.toList ++ st).map (z_cv ad) := by cases r <;> rfl
theorem g_callV {C : String} {ci N : Nat} {T : u_T} (hd : decode μ.2.1 pc = .ok (.invokevirtual ix, 3)) (hy : z_callee μ y cc nL ret rm n) (hw1 : Cond.methodLink μ.1 ix y ∈ z_W) (hw2 : Cond.instanceMethod y ∈ z_W) (hw3 : Cond.selects C y y ∈ z_W) (hw4 : Cond.initialized C ∈ z_W) (hyC : y.cls = C) (hb : z_cl b = ci) (hci : ci < 12) (hvw : vwCl[ci]? = some (C, T, N)) (hn : As.length = n) (hst : z_sw st ≤ 8)
    (hM : z_C y cc nL ret rm (aR b :: As) I Q) (k9 : ∀ r I', Q r I' → z_R μ fin (pc + 3) ls (r.toList ++ st) I') : z_R μ fin pc ls (As.reverse ++ aR b :: st) I := by
  intro hC hL hS p l e Rm s m args below meth c Γ G H locs lsA hP hv hl
  obtain ⟨hA1, hS1⟩ := z_argsc hS
  have hRm := G.2.2.2.2.2.2.2.1
  refine z_go (Q := Q) (va_runV (C := C) (b := gad Γ b) (As := As.map (z_cv (gad Γ))) (rest := st.map (z_cv (gad Γ))) (nL := μ.2.2.1) ⟨G.1, G.2.1, G.2.2.2.1, G.2.2.2.2.1, G.2.2.2.2.2.1⟩ (hM hC hA1 l Γ G.2.2.2.2.2.2.2.2.2.1) (cwV n G.2.2.2.2.2.1 (z_GoodIn (fun w hw => ?_)) rfl hy.2.2.2.1 hy.2.2.2.2.1 ⟨hyC, hy.2.1⟩ (by rw [hRm]; exact hy.2.2.1)) ⟨z_blind, va_recv (ci := ci) (q0 := b) G.2.2.2.2.2.2.2.2.1 hP hvw (by rw [z_ws_get (z_lt hb (by omega)), z_ent_o (by omega), hb]), fun U hU hW => ⟨rfl, by rw [hU]; exact hP, va_K.moved hW.alike G.2.2.2.2.2.2.2.2.1, G.2.2.2.2.2.2.2.2.2.2.1.go hW (fun a h1 h2 => by rw [hU]; exact hv.2.1 a h1 h2)⟩⟩ rfl (by simpa using hn) hl.1 (by simp [z_cv]) (by rw [z_swE]; simpa [JFrame.monitorRoom] using hst) hd ⟨by rw [hRm]; exact hy.2.2.2.2.2.1, by rw [hRm]; exact hy.2.2.2.2.2.2⟩) hv (fun r I' hQ hC' hr H1 locs1 hP1 hS2 => ?_)
  · unfold wsV at hw
    rcases List.mem_append.mp hw with h | h
    · simp only [List.mem_cons, List.not_mem_nil, or_false] at h
      rcases h with rfl | rfl | rfl | rfl
      · exact hw1
      · exact hw2
      · exact hw3
      · exact hw4
    · exact z_wsin hy.1 w h
  · rw [z_rmap]
    exact k9 r I' hQ hC' hL (z_ret hr hS1) p l e Rm s m args below meth c Γ G H1 locs1 lsA hP1 hS2 hl
theorem g_callS (hd : decode μ.2.1 pc = .ok (.invokestatic ix, 3)) (hy : z_callee μ y cc nL ret rm n) (hw1 : Cond.methodLink μ.1 ix y ∈ z_W) (hw2 : Cond.static y ∈ z_W) (hw4 : Cond.initialized y.cls ∈ z_W) (hn : As.length = n) (hst : z_sw st ≤ 8)
    (hM : z_C y cc nL ret rm As I Q) (k9 : ∀ r I', Q r I' → z_R μ fin (pc + 3) ls (r.toList ++ st) I') : z_R μ fin pc ls (As.reverse ++ st) I := by
  intro hC hL hS p l e Rm s m args below meth c Γ G H locs lsA hP hv hl
  have hA1 : ∀ v ∈ As, z_ca v := fun v hv => hS v (List.mem_append_left _ (List.mem_reverse.mpr hv))
  have hS1 : ∀ v ∈ st, z_ca v := fun v hv => hS v (List.mem_append_right _ hv)
  have hRm := G.2.2.2.2.2.2.2.1
  refine z_go (Q := Q) (va_runS (As := As.map (z_cv (gad Γ))) (rest := st.map (z_cv (gad Γ))) (nL := μ.2.2.1) ⟨G.1, G.2.1, G.2.2.2.1, G.2.2.2.2.1, G.2.2.2.2.2.1⟩ (hM hC hA1 l Γ G.2.2.2.2.2.2.2.2.2.1) (va_cwS n G.2.2.2.2.2.1 (z_GoodIn (fun w hw => ?_)) rfl hy.2.2.2.1 hy.2.2.2.2.1 hy.2.1 (by rw [hRm]; exact hy.2.2.1)) ⟨z_blind, fun U hU hW => ⟨rfl, by rw [hU]; exact hP, va_K.moved hW.alike G.2.2.2.2.2.2.2.2.1, G.2.2.2.2.2.2.2.2.2.2.1.go hW (fun a h1 h2 => by rw [hU]; exact hv.2.1 a h1 h2)⟩⟩ rfl (by simpa using hn) hl.1 (by simp) (by rw [z_swE]; simpa [JFrame.monitorRoom] using hst) hd ⟨by rw [hRm]; exact hy.2.2.2.2.2.1, by rw [hRm]; exact hy.2.2.2.2.2.2⟩) hv (fun r I' hQ hC' hr H1 locs1 hP1 hS2 => ?_)
  · unfold va_wsS at hw
    rcases List.mem_append.mp hw with h | h
    · simp only [List.mem_cons, List.not_mem_nil, or_false] at h
      rcases h with rfl | rfl | rfl
      · exact hw1
      · exact hw2
      · exact hw4
    · exact z_wsin hy.1 w h
  · rw [z_rmap]
    exact k9 r I' hQ hC' hL (z_ret hr hS1) p l e Rm s m args below meth c Γ G H1 locs1 lsA hP1 hS2 hl
/-- a private static of the nest's host: hasNote, out of Organ -/
theorem g_callSN (hown : μ.1 = RX4) (hix : ix = 122) (hyy : y = yX10_hasNote) (hd : decode μ.2.1 pc = .ok (.invokestatic ix, 3)) (hy : z_callee μ y cc nL ret rm n) (hw2 : Cond.static y ∈ z_W) (hw4 : Cond.initialized y.cls ∈ z_W) (hn : As.length = n) (hst : z_sw st ≤ 8)
    (hM : z_C y cc nL ret rm As I Q) (k9 : ∀ r I', Q r I' → z_R μ fin (pc + 3) ls (r.toList ++ st) I') : z_R μ fin pc ls (As.reverse ++ st) I := by
  intro hC hL hS p l e Rm s m args below meth c Γ G H locs lsA hP hv hl
  have hA1 : ∀ v ∈ As, z_ca v := fun v hv => hS v (List.mem_append_left _ (List.mem_reverse.mpr hv))
  have hS1 : ∀ v ∈ st, z_ca v := fun v hv => hS v (List.mem_append_right _ hv)
  have hRm := G.2.2.2.2.2.2.2.1
  subst hix; subst hyy
  refine z_go (Q := Q) (va_runSN (host := "GonePipes") (As := As.map (z_cv (gad Γ))) (rest := st.map (z_cv (gad Γ))) (nL := μ.2.2.1) ⟨G.1, G.2.1, G.2.2.2.1, G.2.2.2.2.1, G.2.2.2.2.2.1⟩ (hM hC hA1 l Γ G.2.2.2.2.2.2.2.2.2.1) ⟨va_cnB n G.2.2.2.2.2.1 (z_GoodIn (z_wsin hy.1)) rfl hy.2.2.2.1 hy.2.2.2.2.1 (by rw [hown]; exact G.2.2.2.2.2.2.2.2.2.2.1.2.2.2.2) (G.2.2.2.2.2.1 _ hw4) hy.2.1 (by rw [hRm]; exact hy.2.2.1), G.2.2.2.2.2.1 _ hw2, trivial⟩ ⟨z_blind, fun U hU hW => ⟨rfl, by rw [hU]; exact hP, va_K.moved hW.alike G.2.2.2.2.2.2.2.2.1, G.2.2.2.2.2.2.2.2.2.2.1.go hW (fun a h1 h2 => by rw [hU]; exact hv.2.1 a h1 h2)⟩⟩ rfl (by simpa using hn) hl.1 (by simp) (by rw [z_swE]; simpa [JFrame.monitorRoom] using hst) hd ⟨by rw [hRm]; exact hy.2.2.2.2.2.1, by rw [hRm]; exact hy.2.2.2.2.2.2⟩) hv (fun r I' hQ hC' hr H1 locs1 hP1 hS2 => ?_)
  rw [z_rmap]
  exact k9 r I' hQ hC' hL (z_ret hr hS1) p l e Rm s m args below meth c Γ G H1 locs1 lsA hP1 hS2 hl
/-- dispatch: the reference names x, declared by owner; the receiver's class runs y -/
theorem g_callU {C owner : String} {x : MethodName} {ci N m0 : Nat} {T : u_T} {b0 : ByteArray} {r0 : Option FieldType} (hd : decode μ.2.1 pc = .ok (.invokevirtual ix, 3)) (hy : z_callee μ y cc nL ret rm n) (hw1 : Cond.methodLink μ.1 ix x ∈ z_W) (hw2 : Cond.sameMethod x.cls owner x.name x.desc ∈ z_W) (hw3 : Cond.instanceMethod ⟨owner, x.name, x.desc⟩ ∈ z_W) (hw4 : Cond.selects C x y ∈ z_W) (hw5 : Cond.instanceMethod y ∈ z_W) (hw6 : Cond.initialized y.cls ∈ z_W) (hw7 : Cond.code ⟨owner, x.name, x.desc⟩ b0 m0 r0 ∈ z_W) (hxd : owner ≠ "java/lang/invoke/MethodHandle" ∧ owner ≠ "java/lang/invoke/VarHandle" ∧ (parseMethodDescriptor x.desc).map (fun d => d.parameters.length) = some n) (hb : z_cl b = ci) (hci : ci < 12) (hvw : vwCl[ci]? = some (C, T, N)) (hn : As.length = n) (hst : z_sw st ≤ 8)
    (hM : z_C y cc nL ret rm (aR b :: As) I Q) (k9 : ∀ r I', Q r I' → z_R μ fin (pc + 3) ls (r.toList ++ st) I') : z_R μ fin pc ls (As.reverse ++ aR b :: st) I := by
  intro hC hL hS p l e Rm s m args below meth c Γ G H locs lsA hP hv hl
  obtain ⟨hA1, hS1⟩ := z_argsc hS
  have hRm := G.2.2.2.2.2.2.2.1
  refine z_go (Q := Q) (va_runU (C := C) (owner := owner) (x := x) (b := gad Γ b) (As := As.map (z_cv (gad Γ))) (rest := st.map (z_cv (gad Γ))) (nL := μ.2.2.1) ⟨G.1, G.2.1, G.2.2.2.1, G.2.2.2.2.1, G.2.2.2.2.2.1⟩ (hM hC hA1 l Γ G.2.2.2.2.2.2.2.2.2.1) (va_cwO n G.2.2.2.2.2.1 (z_GoodIn (fun w hw => ?_)) rfl hy.2.2.2.1 hy.2.2.2.2.1 hw7 hxd (by rw [hRm]; exact hy.2.2.1)) ⟨z_blind, va_recv (ci := ci) (q0 := b) G.2.2.2.2.2.2.2.2.1 hP hvw (by rw [z_ws_get (z_lt hb (by omega)), z_ent_o (by omega), hb]), fun U hU hW => ⟨rfl, by rw [hU]; exact hP, va_K.moved hW.alike G.2.2.2.2.2.2.2.2.1, G.2.2.2.2.2.2.2.2.2.2.1.go hW (fun a h1 h2 => by rw [hU]; exact hv.2.1 a h1 h2)⟩⟩ rfl (by simpa using hn) hl.1 (by simp [z_cv]) (by rw [z_swE]; simpa [JFrame.monitorRoom] using hst) hd ⟨by rw [hRm]; exact hy.2.2.2.2.2.1, by rw [hRm]; exact hy.2.2.2.2.2.2⟩) hv (fun r I' hQ hC' hr H1 locs1 hP1 hS2 => ?_)
  · unfold va_wsO at hw
    rcases List.mem_append.mp hw with h | h
    · simp only [List.mem_cons, List.not_mem_nil, or_false] at h
      rcases h with rfl | rfl | rfl | rfl | rfl | rfl
      · exact hw1
      · exact hw2
      · exact hw3
      · exact hw4
      · exact hw5
      · exact hw6
    · exact z_wsin hy.1 w h
  · rw [z_rmap]
    exact k9 r I' hQ hC' hL (z_ret hr hS1) p l e Rm s m args below meth c Γ G H1 locs1 lsA hP1 hS2 hl
/-- super.m(..): the superclass's own method -/
theorem g_callSU {C : String} {ci N : Nat} {T : u_T} (hd : decode μ.2.1 pc = .ok (.invokespecial ix, 3)) (hy : z_callee μ y cc nL ret rm n) (hw1 : Cond.methodLink μ.1 ix y ∈ z_W) (hw2 : Cond.sameMethod y.cls y.cls y.name y.desc ∈ z_W) (hw3 : Cond.superclass μ.1 y.cls ∈ z_W) (hw4 : Cond.instanceMethod y ∈ z_W) (hw5 : Cond.initialized y.cls ∈ z_W) (hno : y.name ≠ "<init>") (hb : z_cl b = ci) (hci : ci < 12) (hvw : vwCl[ci]? = some (C, T, N)) (hn : As.length = n) (hst : z_sw st ≤ 8)
    (hM : z_C y cc nL ret rm (aR b :: As) I Q) (k9 : ∀ r I', Q r I' → z_R μ fin (pc + 3) ls (r.toList ++ st) I') : z_R μ fin pc ls (As.reverse ++ aR b :: st) I := by
  intro hC hL hS p l e Rm s m args below meth c Γ G H locs lsA hP hv hl
  obtain ⟨hA1, hS1⟩ := z_argsc hS
  have hRm := G.2.2.2.2.2.2.2.1
  refine z_go (Q := Q) (va_runSU (C := C) (cC := (gD Γ).1 ci) (b := gad Γ b) (As := As.map (z_cv (gad Γ))) (rest := st.map (z_cv (gad Γ))) (nL := μ.2.2.1) (G.2.2.2.2.2.2.2.2.1.1 ci _ hvw).2 ⟨G.1, G.2.1, G.2.2.2.1, G.2.2.2.2.1, G.2.2.2.2.2.1⟩ (hM hC hA1 l Γ G.2.2.2.2.2.2.2.2.2.1) (va_cwSU n G.2.2.2.2.2.1 (z_GoodIn (fun w hw => ?_)) rfl hy.2.2.2.1 hy.2.2.2.2.1 ⟨hno, hy.2.1.2.2⟩ (by rw [hRm]; exact hy.2.2.1)) ⟨z_blind, va_recv (ci := ci) (q0 := b) G.2.2.2.2.2.2.2.2.1 hP hvw (by rw [z_ws_get (z_lt hb (by omega)), z_ent_o (by omega), hb]), fun U hU hW => ⟨rfl, by rw [hU]; exact hP, va_K.moved hW.alike G.2.2.2.2.2.2.2.2.1, G.2.2.2.2.2.2.2.2.2.2.1.go hW (fun a h1 h2 => by rw [hU]; exact hv.2.1 a h1 h2)⟩⟩ rfl (by simpa using hn) hl.1 (by simp [z_cv]) (by rw [z_swE]; simpa [JFrame.monitorRoom] using hst) hd ⟨by rw [hRm]; exact hy.2.2.2.2.2.1, by rw [hRm]; exact hy.2.2.2.2.2.2⟩) hv (fun r I' hQ hC' hr H1 locs1 hP1 hS2 => ?_)
  · unfold va_wsSU at hw
    rcases List.mem_append.mp hw with h | h
    · simp only [List.mem_cons, List.not_mem_nil, or_false] at h
      rcases h with rfl | rfl | rfl | rfl | rfl
      · exact hw1
      · exact hw2
      · exact hw3
      · exact hw4
      · exact hw5
    · exact z_wsin hy.1 w h
  · rw [z_rmap]
    exact k9 r I' hQ hC' hL (z_ret hr hS1) p l e Rm s m args below meth c Γ G H1 locs1 lsA hP1 hS2 hl
theorem z_callSI {p : Program} {l : Launch} {e : Env} {R : Room} {s : State} {m : MethodId} {args : Array Value} {below : List Frame} {meth : Method} {c : Code} {T : State} {locs : List Loc} {cells slots : Nat} (X : Stand p l e R s m args below meth c T locs cells slots) (hexec : p.tables.exec = Jvm.exec) {own : String} {index : Nat} {x y : MethodName} {bytes : ByteArray} {maxL : Nat} {ret : Option FieldType}
    (hown : s.vm.findClass own = some m.cls) (hlink : (Cond.methodLink own index x).before args s = true) (hsame : (Cond.sameMethod x.cls y.cls x.name x.desc).before args s = true) (hxy : y.name = x.name ∧ y.desc = x.desc) (hsup : (Cond.superclass own x.cls).before args s = true) (hsup2 : (Cond.superclass x.cls y.cls).before args s = true)
    (hinst : (Cond.instanceMethod y).before args s = true) (hcode : (Cond.code y bytes maxL ret).before args s = true) (hno : y.name ≠ "<init>")
    {W : Nat} {Pre : Pt → Array Value → Prop} {Post : Pt → Array Value → Option Value → Pt → Prop} (hK : Back l R p e below s args y 3 W Pre Post)
    {b : Addr} {cellB : Cell} {kB : Class} (hcell : T.heap[b]? = some cellB) (hobj : cellB.vm.isStatics = false) (hkB : s.vm.classes[cellB.cls]? = some kB)
    {g : JFrame} (hg : g.method = m) (hsize : g.locals.size = c.maxLocals) {argsL rest : List Value} (hlen : ∀ sig, parseMethodDescriptor y.desc = some sig → argsL.length = sig.parameters.length)
    (hstack : g.stack = argsL.reverse ++ .ref b :: rest) (hW : 2 * g.monitorRoom + (rest.map fun v => v.category).sum ≤ W) (hdg : decode c.code g.pc = .ok (.invokespecial index, 3))
    (hpre : ∀ vm₁, s.WarmedH vm₁ → Pre ⟨T.setVm vm₁, locs, cells, slots⟩ (Value.ref b :: argsL).toArray) :
    ∃ (v : Option Value) (vm₁ : Vm) (B : Pt), s.WarmedH vm₁ ∧ Stand p l e R s m args below meth c B.U B.locs B.cells B.slots ∧ Post ⟨T.setVm vm₁, locs, cells, slots⟩ (Value.ref b :: argsL).toArray v B ∧
      ∀ target, Steps p.tables e below (B.U.setTop { g with pc := g.pc + 3, stack := v.toList ++ rest }) target → Steps p.tables e below (T.setTop g) target := by
  obtain ⟨mk, methM, hnamed, hmethM, hstM, habM⟩ := Cond.instanceMethod_spec hinst
  obtain ⟨methM', cM, hmethM', -, -, -, -, -, -, hsigM⟩ := Cond.code_spec hnamed hcode
  cases hmethM.symm.trans hmethM'
  obtain ⟨ps, dk, kp, hps, hdk, hkp, hsuper, -, -, hnid⟩ := Cond.superclass_spec hown hsup
  obtain ⟨ps2, dk2, kp2, hps2, hdk2, hkp2, hsuper2, -, -, hnid2⟩ := Cond.superclass_spec hps hsup2
  have hn : s.methodNamed? ⟨y.cls, x.name, x.desc⟩ = some mk := by rw [← hxy.1, ← hxy.2]; exact hnamed
  have hpm : ps2 = mk.cls := Option.some.inj (hps2.symm.trans (findClass_of_methodNamed hnamed))
  have hsz : 0 < s.vm.classes.size := Nat.lt_of_le_of_lt (Nat.zero_le _) (Array.getElem?_eq_some_iff.mp hdk2).1
  obtain ⟨q, hq⟩ : ∃ q, s.vm.classes.size = q + 1 := ⟨s.vm.classes.size - 1, by omega⟩
  have hsub : s.vm.isSubclass ps mk.cls = true := by
    rw [← hpm]
    unfold Vm.isSubclass
    rw [hq]
    simp [Vm.isSubclassAux, hdk2, hsuper2]
  obtain ⟨vm₁, X₁, hstep₁⟩ := X.invokespecialUp hexec hown hlink hsame hn hmethM hstM habM (by rw [← hxy.1]; exact hno) hdk hnid hps hsuper hsub (a := b) (cell := cellB) hcell
    (fun z h => by rw [h] at hobj; cases hobj) hkB (g := g) hg (argsL := argsL) (rest := rest) (hlen _ hsigM) hstack hdg
  obtain ⟨v, B, X', hpost, hsteps⟩ := hK m meth c ⟨T.setVm vm₁, locs, cells, slots⟩ { g with stack := rest } (.invokespecial index) mk (Value.ref b :: argsL).toArray X₁ hg hsize hdg hW (X₁.named hnamed) (hpre vm₁ X₁.warmed)
  exact ⟨v, vm₁, B, X₁.warmed, X', hpost, fun target h => hstep₁ _ (by rw [doInvoke_state]; exact hsteps.trans h)⟩
/-- super.m(..) of the Bourdon: the reference names the Reed's, which the Plain declares -/
theorem g_callSI {C : String} {x : MethodName} {ci N : Nat} {T : u_T} (hd : decode μ.2.1 pc = .ok (.invokespecial ix, 3)) (hy : z_callee μ y cc nL ret rm n) (hw1 : Cond.methodLink μ.1 ix x ∈ z_W) (hw2 : Cond.sameMethod x.cls y.cls x.name x.desc ∈ z_W) (hxy : y.name = x.name ∧ y.desc = x.desc) (hw3 : Cond.superclass μ.1 x.cls ∈ z_W) (hw3' : Cond.superclass x.cls y.cls ∈ z_W) (hw4 : Cond.instanceMethod y ∈ z_W) (hw5 : Cond.initialized y.cls ∈ z_W) (hno : y.name ≠ "<init>") (hb : z_cl b = ci) (hci : ci < 12) (hvw : vwCl[ci]? = some (C, T, N)) (hn : As.length = n) (hst : z_sw st ≤ 8)
    (hM : z_C y cc nL ret rm (aR b :: As) I Q) (k9 : ∀ r I', Q r I' → z_R μ fin (pc + 3) ls (r.toList ++ st) I') : z_R μ fin pc ls (As.reverse ++ aR b :: st) I := by
  intro hC hL hS p l e Rm s m args below meth c Γ G H locs lsA hP hv hl
  obtain ⟨hA1, hS1⟩ := z_argsc hS
  have hRm := G.2.2.2.2.2.2.2.1
  have hts := G.2.2.2.2.2.1
  obtain ⟨hfc, kB0, hkB0, -⟩ := (G.2.2.2.2.2.2.2.2.1.1 ci _ hvw).2
  refine z_go (Q := Q) (a := (Value.ref (gad Γ b) :: As.map (z_cv (gad Γ))).toArray) (rest := st.map (z_cv (gad Γ))) ?_ hv (fun r I' hQ hC' hr H1 locs1 hP1 hS2 => ?_)
  · have hM1 := hM hC hA1 l Γ G.2.2.2.2.2.2.2.2.2.1
    have hK : Back l Rm p e below s args y 3 8 (PreOf Rm 0 0 (va_Pc ((aR b :: As).map (z_cv (gad Γ))) (z_B Γ I))) (PostOf (z_Q Γ Q) 0 0 (gA Γ)) := back_of (bytes := cc) (maxL := nL) (ret := ret) hM1 z_blind hy.2.2.2.1 hy.2.2.2.2.1 (by rw [hRm]; exact hy.2.2.1.1) (by rw [hRm]; exact hy.2.2.1.2) (pay_in hts (z_GoodIn (z_wsin hy.1))) List.mem_cons_self (fun a' U hW => word_at hW (Or.inl (by first | rfl | simp [Cond.onTables, Cond.keeps, Cond.steady])) (hts _ hw5))
    obtain ⟨cellB, hcB, hoB, hclB⟩ := va_recv (ci := ci) (q0 := b) G.2.2.2.2.2.2.2.2.1 hP hvw (by rw [z_ws_get (z_lt hb (by omega)), z_ent_o (by omega), hb])
    have hkB0 : s.vm.classes[cellB.cls]? = some kB0 := by rw [← Option.some.inj (hfc.symm.trans hclB)]; exact hkB0
    intro T0 hT X0
    obtain ⟨v, vm₁, ⟨U', l2, c2, s2⟩, hW₁, X', ⟨g', mk, t, L, e1, e2, hq, h1, hL2, h2, h3⟩, st9⟩ := z_callSI X0 G.1 (bytes := cc) (maxL := nL) (ret := ret) G.2.2.2.2.1 (hts _ hw1) (hts _ hw2) hxy (hts _ hw3) (hts _ hw3') (hts _ hw4) (hts _ hy.1) hno hK (by rw [hT]; exact hcB) hoB hkB0 (g := F0 m pc lsA ((As.reverse ++ aR b :: st).map (z_cv (gad Γ)))) rfl (hl.1.trans G.2.2.2.1.symm) (argsL := As.map (z_cv (gad Γ))) (rest := st.map (z_cv (gad Γ))) (fun sig h => by
        have h2 := hy.2.1.2.2
        rw [h] at h2
        rw [List.length_map, hn]
        exact (Option.some.inj h2).symm) (by simp [z_cv]) (by rw [z_swE]; simpa [JFrame.monitorRoom] using hst) (by rw [G.2.1]; exact hd)
      (fun vm₁ hW₁ => ⟨by rw [hRm]; exact hy.2.2.2.2.2.1, by rw [hRm]; exact hy.2.2.2.2.2.2, rfl, by
        show va_P _ _ _ (T0.setVm vm₁).heap
        rw [show (T0.setVm vm₁).heap = H from hT]; exact hP, va_K.moved hW₁.alike G.2.2.2.2.2.2.2.2.1, G.2.2.2.2.2.2.2.2.2.2.1.go hW₁ (fun a h1 h2 => by rw [show (T0.setVm vm₁).heap = H from hT]; exact hv.2.1 a h1 h2)⟩)
    dsimp only [Pt.U, Pt.locs, Pt.cells, Pt.slots] at X' e1 e2 h1 h2 h3 st9
    subst h1; subst h2; subst h3
    exact ⟨v, (T0.setVm vm₁).calling g' mk (Value.ref (gad Γ b) :: As.map (z_cv (gad Γ))).toArray, t, U', L, hT, X', hL2, e1, e2, hq, st9⟩
  · rw [z_rmap]
    exact k9 r I' hQ hC' hL (z_ret hr hS1) p l e Rm s m args below meth c Γ G H1 locs1 lsA hP1 hS2 hl
theorem g_ireturn {own : String} {x : Int} (hd : decode cc pc = .ok (.ireturn, 1)) (hq : Q (some (aI x)) I) : z_R (z_mt own cc nL (some .int) rm) (z_fin Q) pc ls [aI x] I := by
  intro hC hL hS p l e Rm s m args below meth c Γ G H locs lsA hP hv hl
  exact W.iret (v := z_i x) G.1 G.2.1 G.2.2.1 (fun t ht hW => ⟨⟨some (aI x), I, rfl, hq, hC, fun v h => by cases h; exact z_hd hS, by rw [ht]; exact hP⟩, hv.F ht⟩) hv.2.2 hd G.2.2.2.2.2.2.1
theorem z_narz2 {x : Int} (hx : x = 0 ∨ x = 1) : narrow .boolean (.int (z_i x)) = .int (z_i x) := by rcases hx with rfl | rfl <;> decide +kernel
theorem g_zreturn {own : String} {x : Int} (hd : decode cc pc = .ok (.ireturn, 1)) (hx : x = 0 ∨ x = 1) (hq : Q (some (aI x)) I) : z_R (z_mt own cc nL (some .boolean) rm) (z_fin Q) pc ls [aI x] I := by
  intro hC hL hS p l e Rm s m args below meth c Γ G H locs lsA hP hv hl
  exact W.zret (v := z_i x) G.1 G.2.1 G.2.2.1 (z_narz2 hx) (fun t ht hW => ⟨⟨some (aI x), I, rfl, hq, hC, fun v h => by cases h; exact z_hd hS, by rw [ht]; exact hP⟩, hv.F ht⟩) hv.2.2 hd G.2.2.2.2.2.2.1
theorem g_lreturn {own : String} {x : Int} (hd : decode cc pc = .ok (.lreturn, 1)) (hq : Q (some (aL x)) I) : z_R (z_mt own cc nL (some .long) rm) (z_fin Q) pc ls [aL x] I := by
  intro hC hL hS p l e Rm s m args below meth c Γ G H locs lsA hP hv hl
  exact W.lret (v := z_l x) G.1 G.2.1 G.2.2.1 (fun t ht hW => ⟨⟨some (aL x), I, rfl, hq, hC, fun v h => by cases h; exact z_hd hS, by rw [ht]; exact hP⟩, hv.F ht⟩) hv.2.2 hd G.2.2.2.2.2.2.1
theorem g_areturn {own E : String} {x : Nat} (hd : decode cc pc = .ok (.areturn, 1)) (hq : Q (some (aR x)) I) : z_R (z_mt own cc nL (some (.object E)) rm) (z_fin Q) pc ls [aR x] I := by
  intro hC hL hS p l e Rm s m args below meth c Γ G H locs lsA hP hv hl
  exact W.aret (v := .ref (gad Γ x)) G.1 G.2.1 G.2.2.1 (Or.inl ⟨E, rfl⟩) (Or.inr ⟨_, rfl⟩) (fun t ht hW => ⟨⟨some (aR x), I, rfl, hq, hC, fun v h => by cases h; exact trivial, by rw [ht]; exact hP⟩, hv.F ht⟩) hv.2.2 hd G.2.2.2.2.2.2.1
theorem g_return {own : String} (hd : decode cc pc = .ok (.return_, 1)) (hq : Q none I) : z_R (z_mt own cc nL none rm) (z_fin Q) pc ls [] I := by
  intro hC hL hS p l e Rm s m args below meth c Γ G H locs lsA hP hv hl
  exact W.vret G.1 G.2.1 G.2.2.1 (fun t ht hW => ⟨⟨none, I, rfl, hq, hC, fun v h => (by cases h), by rw [ht]; exact hP⟩, hv.F ht⟩) hv.2.2 hd G.2.2.2.2.2.2.1
theorem g_mabs {x : Int} (hd : decode μ.2.1 pc = .ok (.invokestatic ix, 3)) (hw1 : Cond.methodLink μ.1 ix Lib.Math.abs.name ∈ z_W) (hw2 : Cond.static Lib.Math.abs.name ∈ z_W) (hw3 : Cond.initialized "java/lang/Math" ∈ z_W) (hw4 : Cond.code Lib.Math.abs.name Lib.Math.abs.code 1 (some .int) ∈ z_W) (hfr : 1 ≤ μ.2.2.2.2.1.frames) (hlo : z_sw st + 13 ≤ μ.2.2.2.2.1.locals) (hcs : μ.2.2.2.2.2.1.1 ≤ μ.2.2.2.2.1.cells ∧ μ.2.2.2.2.2.1.2 ≤ μ.2.2.2.2.1.slots) (hr : inI (if 0 ≤ x then x else -x)) (k : z_R μ fin (pc + 3) ls (aI (if 0 ≤ x then x else -x) :: st) I) : z_R μ fin pc ls (aI x :: st) I := by
  intro hC hL hS p l e Rm s m args below meth c Γ G H locs lsA hP hv hl
  have hRm := G.2.2.2.2.2.2.2.1
  have hx := z_hd hS
  refine va_mabs G.1 G.2.1 (by rw [G.2.2.2.1, hl.1]) G.2.2.2.2.1 (G.2.2.2.2.2.1 _ hw1) (G.2.2.2.2.2.1 _ hw2) (G.2.2.2.2.2.1 _ hw3) (G.2.2.2.2.2.1 _ hw4) (by rw [hRm]; exact hfr) (by rw [hRm, z_swE]; exact hlo) (by rw [hRm]; exact hcs.1) (by rw [hRm]; exact hcs.2) hd ?_
  have e1 : (if 0 ≤ z_i x then z_i x else 0 - z_i x) = z_i (if 0 ≤ x then x else -x) := by
    rw [← z_i0]
    by_cases h : 0 ≤ x
    · rw [if_pos ((z_ile (by decide) hx).mpr h), if_pos h]
    · rw [if_neg (fun q => h ((z_ile (by decide) hx).mp q)), if_neg h, z_isub]
      congr 1
      omega
  rw [e1]
  exact k hC hL (z_cons hr (z_tl hS)) p l e Rm s m args below meth c Γ G H locs lsA hP hv hl
theorem g_mmax {x w : Int} (hd : decode μ.2.1 pc = .ok (.invokestatic ix, 3)) (hw1 : Cond.methodLink μ.1 ix Lib.Math.max.name ∈ z_W) (hw2 : Cond.static Lib.Math.max.name ∈ z_W) (hw3 : Cond.initialized "java/lang/Math" ∈ z_W) (hw4 : Cond.code Lib.Math.max.name Lib.Math.max.code 2 (some .int) ∈ z_W) (hfr : 1 ≤ μ.2.2.2.2.1.frames) (hlo : z_sw st + 13 ≤ μ.2.2.2.2.1.locals) (hcs : μ.2.2.2.2.2.1.1 ≤ μ.2.2.2.2.1.cells ∧ μ.2.2.2.2.2.1.2 ≤ μ.2.2.2.2.1.slots) (k : z_R μ fin (pc + 3) ls (aI (if x < w then w else x) :: st) I) : z_R μ fin pc ls (aI w :: aI x :: st) I := by
  intro hC hL hS p l e Rm s m args below meth c Γ G H locs lsA hP hv hl
  have hRm := G.2.2.2.2.2.2.2.1
  have hw := z_hd hS
  have hx := z_hd (z_tl hS)
  refine va_mmax G.1 G.2.1 (by rw [G.2.2.2.1, hl.1]) G.2.2.2.2.1 (G.2.2.2.2.2.1 _ hw1) (G.2.2.2.2.2.1 _ hw2) (G.2.2.2.2.2.1 _ hw3) (G.2.2.2.2.2.1 _ hw4) (by rw [hRm]; exact hfr) (by rw [hRm, z_swE]; exact hlo) (by rw [hRm]; exact hcs.1) (by rw [hRm]; exact hcs.2) hd ?_
  have e1 : (if z_i x < z_i w then z_i w else z_i x) = z_i (if x < w then w else x) := by
    by_cases h : x < w
    · rw [if_pos ((z_ilt hx hw).mpr h), if_pos h]
    · rw [if_neg (fun q => h ((z_ilt hx hw).mp q)), if_neg h]
  rw [e1]
  refine k hC hL (z_cons ?_ (z_tl (z_tl hS))) p l e Rm s m args below meth c Γ G H locs lsA hP hv hl
  show inI _
  split
  · exact hw
  · exact hx
theorem g_mmin {x w : Int} (hd : decode μ.2.1 pc = .ok (.invokestatic ix, 3)) (hw1 : Cond.methodLink μ.1 ix Lib.Math.min.name ∈ z_W) (hw2 : Cond.static Lib.Math.min.name ∈ z_W) (hw3 : Cond.initialized "java/lang/Math" ∈ z_W) (hw4 : Cond.code Lib.Math.min.name Lib.Math.min.code 2 (some .int) ∈ z_W) (hfr : 1 ≤ μ.2.2.2.2.1.frames) (hlo : z_sw st + 13 ≤ μ.2.2.2.2.1.locals) (hcs : μ.2.2.2.2.2.1.1 ≤ μ.2.2.2.2.1.cells ∧ μ.2.2.2.2.2.1.2 ≤ μ.2.2.2.2.1.slots) (k : z_R μ fin (pc + 3) ls (aI (if w < x then w else x) :: st) I) : z_R μ fin pc ls (aI w :: aI x :: st) I := by
  intro hC hL hS p l e Rm s m args below meth c Γ G H locs lsA hP hv hl
  have hRm := G.2.2.2.2.2.2.2.1
  have hw := z_hd hS
  have hx := z_hd (z_tl hS)
  refine va_mmin G.1 G.2.1 (by rw [G.2.2.2.1, hl.1]) G.2.2.2.2.1 (G.2.2.2.2.2.1 _ hw1) (G.2.2.2.2.2.1 _ hw2) (G.2.2.2.2.2.1 _ hw3) (G.2.2.2.2.2.1 _ hw4) (by rw [hRm]; exact hfr) (by rw [hRm, z_swE]; exact hlo) (by rw [hRm]; exact hcs.1) (by rw [hRm]; exact hcs.2) hd ?_
  have e1 : (if z_i w < z_i x then z_i w else z_i x) = z_i (if w < x then w else x) := by
    by_cases h : w < x
    · rw [if_pos ((z_ilt hw hx).mpr h), if_pos h]
    · rw [if_neg (fun q => h ((z_ilt hw hx).mp q)), if_neg h]
  rw [e1]
  refine k hC hL (z_cons ?_ (z_tl (z_tl hS))) p l e Rm s m args below meth c Γ G H locs lsA hP hv hl
  show inI _
  split
  · exact hw
  · exact hx
/-- forgetting locals -/
theorem g_weak {ls' : List z_V} (h : ∀ (i : Nat) (v : z_V), ls'[i]? = some v → v ≠ aU → ls[i]? = some v) (k : z_R μ fin pc ls' st I) : z_R μ fin pc ls st I := by
  intro hC hL hS p l e Rm s m args below meth c Γ G H locs lsA hP hv hl
  refine k hC (fun v hv => ?_) hS p l e Rm s m args below meth c Γ G H locs lsA hP hv ⟨hl.1, hl.2.1, fun i v hi hv => hl.2.2 i v (h i v hi hv) hv⟩
  obtain ⟨i, hi⟩ := List.getElem?_of_mem hv
  by_cases hU : v = aU
  · subst hU; exact trivial
  · exact hL v (List.mem_of_getElem? (h i v hi hU))
/-- what is on top, or listed, is in range -/
theorem g_range {x : Int} (k : inI x → z_R μ fin pc ls (aI x :: st) I) : z_R μ fin pc ls (aI x :: st) I := fun hC hL hS => k (z_hd hS) hC hL hS
theorem g_mem (k : z_CI I → z_R μ fin pc ls st I) : z_R μ fin pc ls st I := fun hC hL hS => k hC hC hL hS
theorem g_loc {i : Nat} {x : Int} (h : ls[i]? = some (aI x)) (k : inI x → z_R μ fin pc ls st I) : z_R μ fin pc ls st I := fun hC hL hS => k (z_atc hL h) hC hL hS
end ZC
/-- contracts: more may be said -/
theorem z_C.args {y : MethodName} {cc : ByteArray} {nL : Nat} {ret : Option FieldType} {rm : Room} {As : List z_V} {I : z_M} {Q : Option z_V → z_M → Prop} (k : z_CI I → (∀ v ∈ As, z_ca v) → z_C y cc nL ret rm As I Q) : z_C y cc nL ret rm As I Q := fun hC hA => k hC hA hC hA
end
section
/-! the law's words, by their places -/
theorem inr_1 {w : Cond} (h : w ∈ wsL_law_r1) : w ∈ z_W := z_WL (by unfold wsL_law; simp only [List.mem_append, h, true_or, or_true])
theorem m_1_0 : (Cond.classLink RL 7 RX10) ∈ z_W := inr_1 (List.mem_of_getElem? (l := wsL_law_r1) (i := 0) rfl)
theorem m_1_1 : (Cond.instantiable RX10 13) ∈ z_W := inr_1 (List.mem_of_getElem? (l := wsL_law_r1) (i := 1) rfl)
theorem m_1_2 : (Cond.initialized RX10) ∈ z_W := inr_1 (List.mem_of_getElem? (l := wsL_law_r1) (i := 2) rfl)
theorem m_1_3 : (Cond.classLink RL 10 RX11) ∈ z_W := inr_1 (List.mem_of_getElem? (l := wsL_law_r1) (i := 3) rfl)
theorem m_1_4 : (Cond.instantiable RX11 23) ∈ z_W := inr_1 (List.mem_of_getElem? (l := wsL_law_r1) (i := 4) rfl)
theorem m_1_5 : (Cond.initialized RX11) ∈ z_W := inr_1 (List.mem_of_getElem? (l := wsL_law_r1) (i := 5) rfl)
theorem m_1_6 : (Cond.methodLink RL 9 yX10_init) ∈ z_W := inr_1 (List.mem_of_getElem? (l := wsL_law_r1) (i := 6) rfl)
theorem m_1_7 : (Cond.instanceMethod yX10_init) ∈ z_W := inr_1 (List.mem_of_getElem? (l := wsL_law_r1) (i := 7) rfl)
theorem m_1_8 : (Cond.code yX10_init cX10_init 1 none) ∈ z_W := inr_1 (List.mem_of_getElem? (l := wsL_law_r1) (i := 8) rfl)
theorem m_1_9 : (Cond.methodLink RX10 3 objectInit) ∈ z_W := inr_1 (List.mem_of_getElem? (l := wsL_law_r1) (i := 9) rfl)
theorem m_1_10 : (Cond.instanceMethod objectInit) ∈ z_W := inr_1 (List.mem_of_getElem? (l := wsL_law_r1) (i := 10) rfl)
theorem m_1_11 : (Cond.code objectInit ⟨#[0xb1]⟩ 1 none) ∈ z_W := inr_1 (List.mem_of_getElem? (l := wsL_law_r1) (i := 11) rfl)
theorem m_1_12 : (Cond.classLink RX10 9 RX6) ∈ z_W := inr_1 (List.mem_of_getElem? (l := wsL_law_r1) (i := 12) rfl)
theorem m_1_13 : (Cond.instantiable RX6 0) ∈ z_W := inr_1 (List.mem_of_getElem? (l := wsL_law_r1) (i := 13) rfl)
theorem m_1_14 : (Cond.initialized RX6) ∈ z_W := inr_1 (List.mem_of_getElem? (l := wsL_law_r1) (i := 14) rfl)
theorem m_1_15 : (Cond.classLink RX10 12 RX7) ∈ z_W := inr_1 (List.mem_of_getElem? (l := wsL_law_r1) (i := 15) rfl)
theorem m_1_16 : (Cond.instantiable RX7 0) ∈ z_W := inr_1 (List.mem_of_getElem? (l := wsL_law_r1) (i := 16) rfl)
theorem m_1_17 : (Cond.initialized RX7) ∈ z_W := inr_1 (List.mem_of_getElem? (l := wsL_law_r1) (i := 17) rfl)
theorem m_1_18 : (Cond.classLink RX10 15 RX1) ∈ z_W := inr_1 (List.mem_of_getElem? (l := wsL_law_r1) (i := 18) rfl)
theorem m_1_19 : (Cond.instantiable RX1 0) ∈ z_W := inr_1 (List.mem_of_getElem? (l := wsL_law_r1) (i := 19) rfl)
theorem m_1_20 : (Cond.initialized RX1) ∈ z_W := inr_1 (List.mem_of_getElem? (l := wsL_law_r1) (i := 20) rfl)
theorem m_1_21 : (Cond.classLink RX10 18 RX0) ∈ z_W := inr_1 (List.mem_of_getElem? (l := wsL_law_r1) (i := 21) rfl)
theorem m_1_22 : (Cond.instantiable RX0 0) ∈ z_W := inr_1 (List.mem_of_getElem? (l := wsL_law_r1) (i := 22) rfl)
theorem m_1_23 : (Cond.initialized RX0) ∈ z_W := inr_1 (List.mem_of_getElem? (l := wsL_law_r1) (i := 23) rfl)
theorem inr_2 {w : Cond} (h : w ∈ wsL_law_r2) : w ∈ z_W := z_WL (by unfold wsL_law; simp only [List.mem_append, h, true_or, or_true])
theorem m_2_0 : (Cond.classLink RX10 21 RX2) ∈ z_W := inr_2 (List.mem_of_getElem? (l := wsL_law_r2) (i := 0) rfl)
theorem m_2_1 : (Cond.instantiable RX2 0) ∈ z_W := inr_2 (List.mem_of_getElem? (l := wsL_law_r2) (i := 1) rfl)
theorem m_2_2 : (Cond.initialized RX2) ∈ z_W := inr_2 (List.mem_of_getElem? (l := wsL_law_r2) (i := 2) rfl)
theorem m_2_3 : (Cond.classLink RX10 24 RX3) ∈ z_W := inr_2 (List.mem_of_getElem? (l := wsL_law_r2) (i := 3) rfl)
theorem m_2_4 : (Cond.instantiable RX3 0) ∈ z_W := inr_2 (List.mem_of_getElem? (l := wsL_law_r2) (i := 4) rfl)
theorem m_2_5 : (Cond.initialized RX3) ∈ z_W := inr_2 (List.mem_of_getElem? (l := wsL_law_r2) (i := 5) rfl)
theorem m_2_6 : (Cond.fieldLink RX10 27 "GonePipes" "kinds" "[LGonePipes$Plain;") ∈ z_W := inr_2 (List.mem_of_getElem? (l := wsL_law_r2) (i := 6) rfl)
theorem m_2_7 : (Cond.classLink RX10 31 RX4) ∈ z_W := inr_2 (List.mem_of_getElem? (l := wsL_law_r2) (i := 7) rfl)
theorem m_2_8 : (Cond.instantiable RX4 13) ∈ z_W := inr_2 (List.mem_of_getElem? (l := wsL_law_r2) (i := 8) rfl)
theorem m_2_9 : (Cond.initialized RX4) ∈ z_W := inr_2 (List.mem_of_getElem? (l := wsL_law_r2) (i := 9) rfl)
theorem m_2_10 : (Cond.fieldLink RX10 34 "GonePipes" "now" "LGonePipes$Organ;") ∈ z_W := inr_2 (List.mem_of_getElem? (l := wsL_law_r2) (i := 10) rfl)
theorem m_2_11 : (Cond.fieldLink RX10 38 "GonePipes" "trial" "LGonePipes$Organ;") ∈ z_W := inr_2 (List.mem_of_getElem? (l := wsL_law_r2) (i := 11) rfl)
theorem m_2_12 : (Cond.fieldLink RX10 41 "GonePipes" "images" "[LGonePipes$Organ;") ∈ z_W := inr_2 (List.mem_of_getElem? (l := wsL_law_r2) (i := 12) rfl)
theorem m_2_13 : (Cond.arrayClass .boolean) ∈ z_W := inr_2 (List.mem_of_getElem? (l := wsL_law_r2) (i := 13) rfl)
theorem m_2_14 : (Cond.fieldLink RX10 45 "GonePipes" "kept" "[Z") ∈ z_W := inr_2 (List.mem_of_getElem? (l := wsL_law_r2) (i := 14) rfl)
theorem m_2_15 : (Cond.classLink RX10 49 RX8) ∈ z_W := inr_2 (List.mem_of_getElem? (l := wsL_law_r2) (i := 15) rfl)
theorem m_2_16 : (Cond.instantiable RX8 7) ∈ z_W := inr_2 (List.mem_of_getElem? (l := wsL_law_r2) (i := 16) rfl)
theorem m_2_17 : (Cond.initialized RX8) ∈ z_W := inr_2 (List.mem_of_getElem? (l := wsL_law_r2) (i := 17) rfl)
theorem m_2_18 : (Cond.fieldLink RX10 52 "GonePipes" "text" "LGonePipes$Text;") ∈ z_W := inr_2 (List.mem_of_getElem? (l := wsL_law_r2) (i := 18) rfl)
theorem m_2_19 : (Cond.classLink RX10 56 RX9) ∈ z_W := inr_2 (List.mem_of_getElem? (l := wsL_law_r2) (i := 19) rfl)
theorem m_2_20 : (Cond.instantiable RX9 3) ∈ z_W := inr_2 (List.mem_of_getElem? (l := wsL_law_r2) (i := 20) rfl)
theorem m_2_21 : (Cond.initialized RX9) ∈ z_W := inr_2 (List.mem_of_getElem? (l := wsL_law_r2) (i := 21) rfl)
theorem m_2_22 : (Cond.fieldLink RX10 59 "GonePipes" "way" "LGonePipes$Walk;") ∈ z_W := inr_2 (List.mem_of_getElem? (l := wsL_law_r2) (i := 22) rfl)
theorem m_2_23 : (Cond.arrayClass .int) ∈ z_W := inr_2 (List.mem_of_getElem? (l := wsL_law_r2) (i := 23) rfl)
theorem inr_3 {w : Cond} (h : w ∈ wsL_law_r3) : w ∈ z_W := z_WL (by unfold wsL_law; simp only [List.mem_append, h, true_or, or_true])
theorem m_3_0 : (Cond.fieldLink RX10 63 "GonePipes" "whereByKind" "[I") ∈ z_W := inr_3 (List.mem_of_getElem? (l := wsL_law_r3) (i := 0) rfl)
theorem m_3_1 : (Cond.fieldLink RX10 67 "GonePipes" "above" "J") ∈ z_W := inr_3 (List.mem_of_getElem? (l := wsL_law_r3) (i := 1) rfl)
theorem m_3_2 : (Cond.fieldLink RX10 71 "GonePipes" "below" "J") ∈ z_W := inr_3 (List.mem_of_getElem? (l := wsL_law_r3) (i := 2) rfl)
theorem m_3_3 : (Cond.instanceMethod yX6_init) ∈ z_W := inr_3 (List.mem_of_getElem? (l := wsL_law_r3) (i := 3) rfl)
theorem m_3_4 : (Cond.code yX6_init cX6_init 1 none) ∈ z_W := inr_3 (List.mem_of_getElem? (l := wsL_law_r3) (i := 4) rfl)
theorem m_3_5 : (Cond.methodLink RX6 1 objectInit) ∈ z_W := inr_3 (List.mem_of_getElem? (l := wsL_law_r3) (i := 5) rfl)
theorem m_3_6 : (Cond.instanceMethod yX7_init) ∈ z_W := inr_3 (List.mem_of_getElem? (l := wsL_law_r3) (i := 6) rfl)
theorem m_3_7 : (Cond.code yX7_init cX7_init 1 none) ∈ z_W := inr_3 (List.mem_of_getElem? (l := wsL_law_r3) (i := 7) rfl)
theorem m_3_8 : (Cond.instanceMethod yX1_init) ∈ z_W := inr_3 (List.mem_of_getElem? (l := wsL_law_r3) (i := 8) rfl)
theorem m_3_9 : (Cond.code yX1_init cX1_init 1 none) ∈ z_W := inr_3 (List.mem_of_getElem? (l := wsL_law_r3) (i := 9) rfl)
theorem m_3_10 : (Cond.instanceMethod yX0_init) ∈ z_W := inr_3 (List.mem_of_getElem? (l := wsL_law_r3) (i := 10) rfl)
theorem m_3_11 : (Cond.code yX0_init cX0_init 1 none) ∈ z_W := inr_3 (List.mem_of_getElem? (l := wsL_law_r3) (i := 11) rfl)
theorem m_3_12 : (Cond.instanceMethod yX2_init) ∈ z_W := inr_3 (List.mem_of_getElem? (l := wsL_law_r3) (i := 12) rfl)
theorem m_3_13 : (Cond.code yX2_init cX2_init 1 none) ∈ z_W := inr_3 (List.mem_of_getElem? (l := wsL_law_r3) (i := 13) rfl)
theorem m_3_14 : (Cond.instanceMethod yX3_init) ∈ z_W := inr_3 (List.mem_of_getElem? (l := wsL_law_r3) (i := 14) rfl)
theorem m_3_15 : (Cond.code yX3_init cX3_init 1 none) ∈ z_W := inr_3 (List.mem_of_getElem? (l := wsL_law_r3) (i := 15) rfl)
theorem m_3_16 : (Cond.instanceMethod yX4_init) ∈ z_W := inr_3 (List.mem_of_getElem? (l := wsL_law_r3) (i := 16) rfl)
theorem m_3_17 : (Cond.code yX4_init cX4_init 1 none) ∈ z_W := inr_3 (List.mem_of_getElem? (l := wsL_law_r3) (i := 17) rfl)
theorem m_3_18 : (Cond.methodLink RX4 3 objectInit) ∈ z_W := inr_3 (List.mem_of_getElem? (l := wsL_law_r3) (i := 18) rfl)
theorem m_3_19 : (Cond.fieldLink RX4 9 "GonePipes$Organ" "placeRows" "[I") ∈ z_W := inr_3 (List.mem_of_getElem? (l := wsL_law_r3) (i := 19) rfl)
theorem m_3_20 : (Cond.fieldLink RX4 15 "GonePipes$Organ" "kind" "[I") ∈ z_W := inr_3 (List.mem_of_getElem? (l := wsL_law_r3) (i := 20) rfl)
theorem m_3_21 : (Cond.fieldLink RX4 18 "GonePipes$Organ" "note" "[I") ∈ z_W := inr_3 (List.mem_of_getElem? (l := wsL_law_r3) (i := 21) rfl)
theorem m_3_22 : (Cond.fieldLink RX4 21 "GonePipes$Organ" "where" "[I") ∈ z_W := inr_3 (List.mem_of_getElem? (l := wsL_law_r3) (i := 22) rfl)
theorem m_3_23 : (Cond.fieldLink RX4 24 "GonePipes$Organ" "away" "[I") ∈ z_W := inr_3 (List.mem_of_getElem? (l := wsL_law_r3) (i := 23) rfl)
theorem inr_4 {w : Cond} (h : w ∈ wsL_law_r4) : w ∈ z_W := z_WL (by unfold wsL_law; simp only [List.mem_append, h, true_or, or_true])
theorem m_4_0 : (Cond.fieldLink RX4 27 "GonePipes$Organ" "hymnCounts" "[I") ∈ z_W := inr_4 (List.mem_of_getElem? (l := wsL_law_r4) (i := 0) rfl)
theorem m_4_1 : (Cond.fieldLink RX4 30 "GonePipes$Organ" "hymnRows" "[I") ∈ z_W := inr_4 (List.mem_of_getElem? (l := wsL_law_r4) (i := 1) rfl)
theorem m_4_2 : (Cond.fieldLink RX4 33 "GonePipes$Organ" "readingRows" "[I") ∈ z_W := inr_4 (List.mem_of_getElem? (l := wsL_law_r4) (i := 2) rfl)
theorem m_4_3 : (Cond.classLink RX4 36 RX5) ∈ z_W := inr_4 (List.mem_of_getElem? (l := wsL_law_r4) (i := 3) rfl)
theorem m_4_4 : (Cond.instantiable RX5 3) ∈ z_W := inr_4 (List.mem_of_getElem? (l := wsL_law_r4) (i := 4) rfl)
theorem m_4_5 : (Cond.initialized RX5) ∈ z_W := inr_4 (List.mem_of_getElem? (l := wsL_law_r4) (i := 5) rfl)
theorem m_4_6 : (Cond.fieldLink RX4 39 "GonePipes$Organ" "past" "LGonePipes$Past;") ∈ z_W := inr_4 (List.mem_of_getElem? (l := wsL_law_r4) (i := 6) rfl)
theorem m_4_7 : (Cond.instanceMethod yX5_init) ∈ z_W := inr_4 (List.mem_of_getElem? (l := wsL_law_r4) (i := 7) rfl)
theorem m_4_8 : (Cond.code yX5_init cX5_init 1 none) ∈ z_W := inr_4 (List.mem_of_getElem? (l := wsL_law_r4) (i := 8) rfl)
theorem m_4_9 : (Cond.methodLink RX5 3 objectInit) ∈ z_W := inr_4 (List.mem_of_getElem? (l := wsL_law_r4) (i := 9) rfl)
theorem m_4_10 : (Cond.fieldLink RX5 9 "GonePipes$Past" "rows" "[I") ∈ z_W := inr_4 (List.mem_of_getElem? (l := wsL_law_r4) (i := 10) rfl)
theorem m_4_11 : (Cond.instanceMethod yX8_init) ∈ z_W := inr_4 (List.mem_of_getElem? (l := wsL_law_r4) (i := 11) rfl)
theorem m_4_12 : (Cond.code yX8_init cX8_init 1 none) ∈ z_W := inr_4 (List.mem_of_getElem? (l := wsL_law_r4) (i := 12) rfl)
theorem m_4_13 : (Cond.methodLink RX8 3 objectInit) ∈ z_W := inr_4 (List.mem_of_getElem? (l := wsL_law_r4) (i := 13) rfl)
theorem m_4_14 : (Cond.arrayClass .byte) ∈ z_W := inr_4 (List.mem_of_getElem? (l := wsL_law_r4) (i := 14) rfl)
theorem m_4_15 : (Cond.fieldLink RX8 9 "GonePipes$Text" "bytes" "[B") ∈ z_W := inr_4 (List.mem_of_getElem? (l := wsL_law_r4) (i := 15) rfl)
theorem m_4_16 : (Cond.fieldLink RX8 15 "GonePipes$Text" "row" "[I") ∈ z_W := inr_4 (List.mem_of_getElem? (l := wsL_law_r4) (i := 16) rfl)
theorem m_4_17 : (Cond.instanceMethod yX9_init) ∈ z_W := inr_4 (List.mem_of_getElem? (l := wsL_law_r4) (i := 17) rfl)
theorem m_4_18 : (Cond.code yX9_init cX9_init 1 none) ∈ z_W := inr_4 (List.mem_of_getElem? (l := wsL_law_r4) (i := 18) rfl)
theorem m_4_19 : (Cond.methodLink RX9 3 objectInit) ∈ z_W := inr_4 (List.mem_of_getElem? (l := wsL_law_r4) (i := 19) rfl)
theorem m_4_20 : (Cond.fieldLink RX9 11 "GonePipes$Walk" "rest" "[I") ∈ z_W := inr_4 (List.mem_of_getElem? (l := wsL_law_r4) (i := 20) rfl)
theorem m_4_21 : (Cond.methodLink RL 12 yX11_init) ∈ z_W := inr_4 (List.mem_of_getElem? (l := wsL_law_r4) (i := 21) rfl)
theorem m_4_22 : (Cond.instanceMethod yX11_init) ∈ z_W := inr_4 (List.mem_of_getElem? (l := wsL_law_r4) (i := 22) rfl)
theorem m_4_23 : (Cond.code yX11_init cX11_init 1 none) ∈ z_W := inr_4 (List.mem_of_getElem? (l := wsL_law_r4) (i := 23) rfl)
theorem inr_5 {w : Cond} (h : w ∈ wsL_law_r5) : w ∈ z_W := z_WL (by unfold wsL_law; simp only [List.mem_append, h, true_or, or_true])
theorem m_5_0 : (Cond.methodLink RX11 1 objectInit) ∈ z_W := inr_5 (List.mem_of_getElem? (l := wsL_law_r5) (i := 0) rfl)
theorem m_5_1 : (Cond.fieldLink RX11 7 "GonePipesModel" "now" "[I") ∈ z_W := inr_5 (List.mem_of_getElem? (l := wsL_law_r5) (i := 1) rfl)
theorem m_5_2 : (Cond.fieldLink RX11 13 "GonePipesModel" "kept" "[I") ∈ z_W := inr_5 (List.mem_of_getElem? (l := wsL_law_r5) (i := 2) rfl)
theorem m_5_3 : (Cond.fieldLink RX11 16 "GonePipesModel" "isKept" "[Z") ∈ z_W := inr_5 (List.mem_of_getElem? (l := wsL_law_r5) (i := 3) rfl)
theorem m_5_4 : (Cond.fieldLink RX11 20 "GonePipesModel" "refused" "[I") ∈ z_W := inr_5 (List.mem_of_getElem? (l := wsL_law_r5) (i := 4) rfl)
theorem m_5_5 : (Cond.fieldLink RX11 23 "GonePipesModel" "below" "J") ∈ z_W := inr_5 (List.mem_of_getElem? (l := wsL_law_r5) (i := 5) rfl)
theorem m_5_6 : (Cond.fieldLink RX11 27 "GonePipesModel" "kinds" "[I") ∈ z_W := inr_5 (List.mem_of_getElem? (l := wsL_law_r5) (i := 6) rfl)
theorem m_5_7 : (Cond.fieldLink RX11 30 "GonePipesModel" "wheres" "[I") ∈ z_W := inr_5 (List.mem_of_getElem? (l := wsL_law_r5) (i := 7) rfl)
theorem m_5_8 : (Cond.fieldLink RX11 33 "GonePipesModel" "aways" "[I") ∈ z_W := inr_5 (List.mem_of_getElem? (l := wsL_law_r5) (i := 8) rfl)
theorem m_5_9 : (Cond.fieldLink RX11 36 "GonePipesModel" "tones" "[I") ∈ z_W := inr_5 (List.mem_of_getElem? (l := wsL_law_r5) (i := 9) rfl)
theorem m_5_10 : (Cond.fieldLink RX11 39 "GonePipesModel" "order" "[I") ∈ z_W := inr_5 (List.mem_of_getElem? (l := wsL_law_r5) (i := 10) rfl)
theorem m_5_11 : (Cond.fieldLink RX11 42 "GonePipesModel" "whereBy" "[I") ∈ z_W := inr_5 (List.mem_of_getElem? (l := wsL_law_r5) (i := 11) rfl)
theorem m_5_12 : (Cond.fieldLink RX11 45 "GonePipesModel" "bytes" "[I") ∈ z_W := inr_5 (List.mem_of_getElem? (l := wsL_law_r5) (i := 12) rfl)
theorem m_5_13 : (Cond.fieldLink RX11 48 "GonePipesModel" "anew" "[I") ∈ z_W := inr_5 (List.mem_of_getElem? (l := wsL_law_r5) (i := 13) rfl)
theorem m_5_14 : (Cond.fieldLink RX11 51 "GonePipesModel" "values" "[I") ∈ z_W := inr_5 (List.mem_of_getElem? (l := wsL_law_r5) (i := 14) rfl)
theorem m_5_15 : (Cond.methodLink RL 13 yX10_organ) ∈ z_W := inr_5 (List.mem_of_getElem? (l := wsL_law_r5) (i := 15) rfl)
theorem m_5_16 : (Cond.instanceMethod yX10_organ) ∈ z_W := inr_5 (List.mem_of_getElem? (l := wsL_law_r5) (i := 16) rfl)
theorem m_5_17 : (Cond.selects RX10 yX10_organ yX10_organ) ∈ z_W := inr_5 (List.mem_of_getElem? (l := wsL_law_r5) (i := 17) rfl)
theorem m_5_18 : (Cond.code yX10_organ cX10_organ 2 (some .int)) ∈ z_W := inr_5 (List.mem_of_getElem? (l := wsL_law_r5) (i := 18) rfl)
theorem m_5_19 : (Cond.fieldLink RX10 74 "GonePipes$Organ" "pipes" "I") ∈ z_W := inr_5 (List.mem_of_getElem? (l := wsL_law_r5) (i := 19) rfl)
theorem m_5_20 : (Cond.methodLink RX10 78 yX4_reset) ∈ z_W := inr_5 (List.mem_of_getElem? (l := wsL_law_r5) (i := 20) rfl)
theorem m_5_21 : (Cond.instanceMethod yX4_reset) ∈ z_W := inr_5 (List.mem_of_getElem? (l := wsL_law_r5) (i := 21) rfl)
theorem m_5_22 : (Cond.selects RX4 yX4_reset yX4_reset) ∈ z_W := inr_5 (List.mem_of_getElem? (l := wsL_law_r5) (i := 22) rfl)
theorem m_5_23 : (Cond.code yX4_reset cX4_reset 2 none) ∈ z_W := inr_5 (List.mem_of_getElem? (l := wsL_law_r5) (i := 23) rfl)
theorem inr_6 {w : Cond} (h : w ∈ wsL_law_r6) : w ∈ z_W := z_WL (by unfold wsL_law; simp only [List.mem_append, h, true_or, or_true])
theorem m_6_0 : (Cond.fieldLink RX4 43 "GonePipes$Organ" "hour" "I") ∈ z_W := inr_6 (List.mem_of_getElem? (l := wsL_law_r6) (i := 0) rfl)
theorem m_6_1 : (Cond.fieldLink RX4 47 "GonePipes$Organ" "places" "I") ∈ z_W := inr_6 (List.mem_of_getElem? (l := wsL_law_r6) (i := 1) rfl)
theorem m_6_2 : (Cond.fieldLink RX4 50 "GonePipes$Organ" "pipes" "I") ∈ z_W := inr_6 (List.mem_of_getElem? (l := wsL_law_r6) (i := 2) rfl)
theorem m_6_3 : (Cond.fieldLink RX4 53 "GonePipes$Organ" "readings" "I") ∈ z_W := inr_6 (List.mem_of_getElem? (l := wsL_law_r6) (i := 3) rfl)
theorem m_6_4 : (Cond.methodLink RX4 56 yX4_emptyHymn) ∈ z_W := inr_6 (List.mem_of_getElem? (l := wsL_law_r6) (i := 4) rfl)
theorem m_6_5 : (Cond.instanceMethod yX4_emptyHymn) ∈ z_W := inr_6 (List.mem_of_getElem? (l := wsL_law_r6) (i := 5) rfl)
theorem m_6_6 : (Cond.selects RX4 yX4_emptyHymn yX4_emptyHymn) ∈ z_W := inr_6 (List.mem_of_getElem? (l := wsL_law_r6) (i := 6) rfl)
theorem m_6_7 : (Cond.code yX4_emptyHymn cX4_emptyHymn 2 none) ∈ z_W := inr_6 (List.mem_of_getElem? (l := wsL_law_r6) (i := 7) rfl)
theorem m_6_8 : (Cond.methodLink RX4 60 yX5_reset) ∈ z_W := inr_6 (List.mem_of_getElem? (l := wsL_law_r6) (i := 8) rfl)
theorem m_6_9 : (Cond.instanceMethod yX5_reset) ∈ z_W := inr_6 (List.mem_of_getElem? (l := wsL_law_r6) (i := 9) rfl)
theorem m_6_10 : (Cond.selects RX5 yX5_reset yX5_reset) ∈ z_W := inr_6 (List.mem_of_getElem? (l := wsL_law_r6) (i := 10) rfl)
theorem m_6_11 : (Cond.code yX5_reset cX5_reset 1 none) ∈ z_W := inr_6 (List.mem_of_getElem? (l := wsL_law_r6) (i := 11) rfl)
theorem m_6_12 : (Cond.fieldLink RX5 15 "GonePipes$Past" "count" "I") ∈ z_W := inr_6 (List.mem_of_getElem? (l := wsL_law_r6) (i := 12) rfl)
theorem m_6_13 : (Cond.fieldLink RX5 19 "GonePipes$Past" "oldest" "I") ∈ z_W := inr_6 (List.mem_of_getElem? (l := wsL_law_r6) (i := 13) rfl)
theorem m_6_14 : (Cond.methodLink RL 17 yX11_organ) ∈ z_W := inr_6 (List.mem_of_getElem? (l := wsL_law_r6) (i := 14) rfl)
theorem m_6_15 : (Cond.instanceMethod yX11_organ) ∈ z_W := inr_6 (List.mem_of_getElem? (l := wsL_law_r6) (i := 15) rfl)
theorem m_6_16 : (Cond.selects RX11 yX11_organ yX11_organ) ∈ z_W := inr_6 (List.mem_of_getElem? (l := wsL_law_r6) (i := 16) rfl)
theorem m_6_17 : (Cond.code yX11_organ cX11_organ 2 (some .int)) ∈ z_W := inr_6 (List.mem_of_getElem? (l := wsL_law_r6) (i := 17) rfl)
theorem m_6_18 : (Cond.methodLink RX11 54 yX11_pipes) ∈ z_W := inr_6 (List.mem_of_getElem? (l := wsL_law_r6) (i := 18) rfl)
theorem m_6_19 : (Cond.instanceMethod yX11_pipes) ∈ z_W := inr_6 (List.mem_of_getElem? (l := wsL_law_r6) (i := 19) rfl)
theorem m_6_20 : (Cond.selects RX11 yX11_pipes yX11_pipes) ∈ z_W := inr_6 (List.mem_of_getElem? (l := wsL_law_r6) (i := 20) rfl)
theorem m_6_21 : (Cond.code yX11_pipes cX11_pipes 1 (some .int)) ∈ z_W := inr_6 (List.mem_of_getElem? (l := wsL_law_r6) (i := 21) rfl)
theorem m_6_22 : (Cond.methodLink RX11 73 yX11_begin) ∈ z_W := inr_6 (List.mem_of_getElem? (l := wsL_law_r6) (i := 22) rfl)
theorem m_6_23 : (Cond.static yX11_begin) ∈ z_W := inr_6 (List.mem_of_getElem? (l := wsL_law_r6) (i := 23) rfl)
theorem inr_7 {w : Cond} (h : w ∈ wsL_law_r7) : w ∈ z_W := z_WL (by unfold wsL_law; simp only [List.mem_append, h, true_or, or_true])
theorem m_7_0 : (Cond.code yX11_begin cX11_begin 2 none) ∈ z_W := inr_7 (List.mem_of_getElem? (l := wsL_law_r7) (i := 0) rfl)
theorem m_7_1 : (Cond.methodLink RL 18 yX10_place) ∈ z_W := inr_7 (List.mem_of_getElem? (l := wsL_law_r7) (i := 1) rfl)
theorem m_7_2 : (Cond.instanceMethod yX10_place) ∈ z_W := inr_7 (List.mem_of_getElem? (l := wsL_law_r7) (i := 2) rfl)
theorem m_7_3 : (Cond.selects RX10 yX10_place yX10_place) ∈ z_W := inr_7 (List.mem_of_getElem? (l := wsL_law_r7) (i := 3) rfl)
theorem m_7_4 : (Cond.code yX10_place cX10_place 6 (some .int)) ∈ z_W := inr_7 (List.mem_of_getElem? (l := wsL_law_r7) (i := 4) rfl)
theorem m_7_5 : (Cond.fieldLink RX10 96 "GonePipes$Organ" "past" "LGonePipes$Past;") ∈ z_W := inr_7 (List.mem_of_getElem? (l := wsL_law_r7) (i := 5) rfl)
theorem m_7_6 : (Cond.fieldLink RX10 103 "GonePipes$Organ" "places" "I") ∈ z_W := inr_7 (List.mem_of_getElem? (l := wsL_law_r7) (i := 6) rfl)
theorem m_7_7 : (Cond.methodLink RX10 81 yX10_isUpTo) ∈ z_W := inr_7 (List.mem_of_getElem? (l := wsL_law_r7) (i := 7) rfl)
theorem m_7_8 : (Cond.static yX10_isUpTo) ∈ z_W := inr_7 (List.mem_of_getElem? (l := wsL_law_r7) (i := 8) rfl)
theorem m_7_9 : (Cond.code yX10_isUpTo cX10_isUpTo 2 (some .boolean)) ∈ z_W := inr_7 (List.mem_of_getElem? (l := wsL_law_r7) (i := 9) rfl)
theorem m_7_10 : (Cond.methodLink RX10 85 yX10_refuseBad) ∈ z_W := inr_7 (List.mem_of_getElem? (l := wsL_law_r7) (i := 10) rfl)
theorem m_7_11 : (Cond.instanceMethod yX10_refuseBad) ∈ z_W := inr_7 (List.mem_of_getElem? (l := wsL_law_r7) (i := 11) rfl)
theorem m_7_12 : (Cond.selects RX10 yX10_refuseBad yX10_refuseBad) ∈ z_W := inr_7 (List.mem_of_getElem? (l := wsL_law_r7) (i := 12) rfl)
theorem m_7_13 : (Cond.code yX10_refuseBad cX10_refuseBad 1 (some .int)) ∈ z_W := inr_7 (List.mem_of_getElem? (l := wsL_law_r7) (i := 13) rfl)
theorem m_7_14 : (Cond.fieldLink RX10 291 "GonePipes" "refusedBad" "I") ∈ z_W := inr_7 (List.mem_of_getElem? (l := wsL_law_r7) (i := 14) rfl)
theorem m_7_15 : (Cond.methodLink RX10 89 yX4_addPlace) ∈ z_W := inr_7 (List.mem_of_getElem? (l := wsL_law_r7) (i := 15) rfl)
theorem m_7_16 : (Cond.instanceMethod yX4_addPlace) ∈ z_W := inr_7 (List.mem_of_getElem? (l := wsL_law_r7) (i := 16) rfl)
theorem m_7_17 : (Cond.selects RX4 yX4_addPlace yX4_addPlace) ∈ z_W := inr_7 (List.mem_of_getElem? (l := wsL_law_r7) (i := 17) rfl)
theorem m_7_18 : (Cond.code yX4_addPlace cX4_addPlace 7 (some .boolean)) ∈ z_W := inr_7 (List.mem_of_getElem? (l := wsL_law_r7) (i := 18) rfl)
theorem m_7_19 : (Cond.methodLink RX10 93 yX10_refuseFull) ∈ z_W := inr_7 (List.mem_of_getElem? (l := wsL_law_r7) (i := 19) rfl)
theorem m_7_20 : (Cond.instanceMethod yX10_refuseFull) ∈ z_W := inr_7 (List.mem_of_getElem? (l := wsL_law_r7) (i := 20) rfl)
theorem m_7_21 : (Cond.selects RX10 yX10_refuseFull yX10_refuseFull) ∈ z_W := inr_7 (List.mem_of_getElem? (l := wsL_law_r7) (i := 21) rfl)
theorem m_7_22 : (Cond.code yX10_refuseFull cX10_refuseFull 1 (some .int)) ∈ z_W := inr_7 (List.mem_of_getElem? (l := wsL_law_r7) (i := 22) rfl)
theorem m_7_23 : (Cond.fieldLink RX10 297 "GonePipes" "refusedFull" "I") ∈ z_W := inr_7 (List.mem_of_getElem? (l := wsL_law_r7) (i := 23) rfl)
theorem inr_8 {w : Cond} (h : w ∈ wsL_law_r8) : w ∈ z_W := z_WL (by unfold wsL_law; simp only [List.mem_append, h, true_or, or_true])
theorem m_8_0 : (Cond.methodLink RX10 100 yX5_reset) ∈ z_W := inr_8 (List.mem_of_getElem? (l := wsL_law_r8) (i := 0) rfl)
theorem m_8_1 : (Cond.methodLink RL 22 yX11_place) ∈ z_W := inr_8 (List.mem_of_getElem? (l := wsL_law_r8) (i := 1) rfl)
theorem m_8_2 : (Cond.instanceMethod yX11_place) ∈ z_W := inr_8 (List.mem_of_getElem? (l := wsL_law_r8) (i := 2) rfl)
theorem m_8_3 : (Cond.selects RX11 yX11_place yX11_place) ∈ z_W := inr_8 (List.mem_of_getElem? (l := wsL_law_r8) (i := 3) rfl)
theorem m_8_4 : (Cond.code yX11_place cX11_place 6 (some .int)) ∈ z_W := inr_8 (List.mem_of_getElem? (l := wsL_law_r8) (i := 4) rfl)
theorem m_8_5 : (Cond.constantLong RX11 77 (11)) ∈ z_W := inr_8 (List.mem_of_getElem? (l := wsL_law_r8) (i := 5) rfl)
theorem m_8_6 : (Cond.constantLong RX11 79 (23)) ∈ z_W := inr_8 (List.mem_of_getElem? (l := wsL_law_r8) (i := 6) rfl)
theorem m_8_7 : (Cond.constantLong RX11 81 (24)) ∈ z_W := inr_8 (List.mem_of_getElem? (l := wsL_law_r8) (i := 7) rfl)
theorem m_8_8 : (Cond.constantLong RX11 83 (30)) ∈ z_W := inr_8 (List.mem_of_getElem? (l := wsL_law_r8) (i := 8) rfl)
theorem m_8_9 : (Cond.methodLink RX11 58 yX11_in) ∈ z_W := inr_8 (List.mem_of_getElem? (l := wsL_law_r8) (i := 9) rfl)
theorem m_8_10 : (Cond.static yX11_in) ∈ z_W := inr_8 (List.mem_of_getElem? (l := wsL_law_r8) (i := 10) rfl)
theorem m_8_11 : (Cond.code yX11_in cX11_in 6 (some .boolean)) ∈ z_W := inr_8 (List.mem_of_getElem? (l := wsL_law_r8) (i := 11) rfl)
theorem m_8_12 : (Cond.methodLink RX11 85 yX11_bad) ∈ z_W := inr_8 (List.mem_of_getElem? (l := wsL_law_r8) (i := 12) rfl)
theorem m_8_13 : (Cond.instanceMethod yX11_bad) ∈ z_W := inr_8 (List.mem_of_getElem? (l := wsL_law_r8) (i := 13) rfl)
theorem m_8_14 : (Cond.selects RX11 yX11_bad yX11_bad) ∈ z_W := inr_8 (List.mem_of_getElem? (l := wsL_law_r8) (i := 14) rfl)
theorem m_8_15 : (Cond.code yX11_bad cX11_bad 2 (some .int)) ∈ z_W := inr_8 (List.mem_of_getElem? (l := wsL_law_r8) (i := 15) rfl)
theorem m_8_16 : (Cond.methodLink RX11 62 yX11_places) ∈ z_W := inr_8 (List.mem_of_getElem? (l := wsL_law_r8) (i := 16) rfl)
theorem m_8_17 : (Cond.instanceMethod yX11_places) ∈ z_W := inr_8 (List.mem_of_getElem? (l := wsL_law_r8) (i := 17) rfl)
theorem m_8_18 : (Cond.selects RX11 yX11_places yX11_places) ∈ z_W := inr_8 (List.mem_of_getElem? (l := wsL_law_r8) (i := 18) rfl)
theorem m_8_19 : (Cond.code yX11_places cX11_places 1 (some .int)) ∈ z_W := inr_8 (List.mem_of_getElem? (l := wsL_law_r8) (i := 19) rfl)
theorem m_8_20 : (Cond.methodLink RX11 89 yX11_full) ∈ z_W := inr_8 (List.mem_of_getElem? (l := wsL_law_r8) (i := 20) rfl)
theorem m_8_21 : (Cond.instanceMethod yX11_full) ∈ z_W := inr_8 (List.mem_of_getElem? (l := wsL_law_r8) (i := 21) rfl)
theorem m_8_22 : (Cond.selects RX11 yX11_full yX11_full) ∈ z_W := inr_8 (List.mem_of_getElem? (l := wsL_law_r8) (i := 22) rfl)
theorem m_8_23 : (Cond.code yX11_full cX11_full 1 (some .int)) ∈ z_W := inr_8 (List.mem_of_getElem? (l := wsL_law_r8) (i := 23) rfl)
theorem inr_9 {w : Cond} (h : w ∈ wsL_law_r9) : w ∈ z_W := z_WL (by unfold wsL_law; simp only [List.mem_append, h, true_or, or_true])
theorem m_9_0 : (Cond.methodLink RX11 92 yX11_layPlace) ∈ z_W := inr_9 (List.mem_of_getElem? (l := wsL_law_r9) (i := 0) rfl)
theorem m_9_1 : (Cond.static yX11_layPlace) ∈ z_W := inr_9 (List.mem_of_getElem? (l := wsL_law_r9) (i := 1) rfl)
theorem m_9_2 : (Cond.code yX11_layPlace cX11_layPlace 7 none) ∈ z_W := inr_9 (List.mem_of_getElem? (l := wsL_law_r9) (i := 2) rfl)
theorem m_9_3 : (Cond.methodLink RL 23 yX10_pipe) ∈ z_W := inr_9 (List.mem_of_getElem? (l := wsL_law_r9) (i := 3) rfl)
theorem m_9_4 : (Cond.instanceMethod yX10_pipe) ∈ z_W := inr_9 (List.mem_of_getElem? (l := wsL_law_r9) (i := 4) rfl)
theorem m_9_5 : (Cond.selects RX10 yX10_pipe yX10_pipe) ∈ z_W := inr_9 (List.mem_of_getElem? (l := wsL_law_r9) (i := 5) rfl)
theorem m_9_6 : (Cond.code yX10_pipe cX10_pipe 3 (some .int)) ∈ z_W := inr_9 (List.mem_of_getElem? (l := wsL_law_r9) (i := 6) rfl)
theorem m_9_7 : (Cond.methodLink RX10 106 yX4_addPipe) ∈ z_W := inr_9 (List.mem_of_getElem? (l := wsL_law_r9) (i := 7) rfl)
theorem m_9_8 : (Cond.instanceMethod yX4_addPipe) ∈ z_W := inr_9 (List.mem_of_getElem? (l := wsL_law_r9) (i := 8) rfl)
theorem m_9_9 : (Cond.selects RX4 yX4_addPipe yX4_addPipe) ∈ z_W := inr_9 (List.mem_of_getElem? (l := wsL_law_r9) (i := 9) rfl)
theorem m_9_10 : (Cond.code yX4_addPipe cX4_addPipe 3 (some .boolean)) ∈ z_W := inr_9 (List.mem_of_getElem? (l := wsL_law_r9) (i := 10) rfl)
theorem m_9_11 : (Cond.methodLink RX4 77 yX4_bringHome) ∈ z_W := inr_9 (List.mem_of_getElem? (l := wsL_law_r9) (i := 11) rfl)
theorem m_9_12 : (Cond.instanceMethod yX4_bringHome) ∈ z_W := inr_9 (List.mem_of_getElem? (l := wsL_law_r9) (i := 12) rfl)
theorem m_9_13 : (Cond.selects RX4 yX4_bringHome yX4_bringHome) ∈ z_W := inr_9 (List.mem_of_getElem? (l := wsL_law_r9) (i := 13) rfl)
theorem m_9_14 : (Cond.code yX4_bringHome cX4_bringHome 2 none) ∈ z_W := inr_9 (List.mem_of_getElem? (l := wsL_law_r9) (i := 14) rfl)
theorem m_9_15 : (Cond.methodLink RL 27 yX11_pipe) ∈ z_W := inr_9 (List.mem_of_getElem? (l := wsL_law_r9) (i := 15) rfl)
theorem m_9_16 : (Cond.instanceMethod yX11_pipe) ∈ z_W := inr_9 (List.mem_of_getElem? (l := wsL_law_r9) (i := 16) rfl)
theorem m_9_17 : (Cond.selects RX11 yX11_pipe yX11_pipe) ∈ z_W := inr_9 (List.mem_of_getElem? (l := wsL_law_r9) (i := 17) rfl)
theorem m_9_18 : (Cond.code yX11_pipe cX11_pipe 3 (some .int)) ∈ z_W := inr_9 (List.mem_of_getElem? (l := wsL_law_r9) (i := 18) rfl)
theorem m_9_19 : (Cond.constantLong RX11 96 (5)) ∈ z_W := inr_9 (List.mem_of_getElem? (l := wsL_law_r9) (i := 19) rfl)
theorem m_9_20 : (Cond.constantLong RX11 98 (35)) ∈ z_W := inr_9 (List.mem_of_getElem? (l := wsL_law_r9) (i := 20) rfl)
theorem m_9_21 : (Cond.methodLink RX11 100 yX11_layPipe) ∈ z_W := inr_9 (List.mem_of_getElem? (l := wsL_law_r9) (i := 21) rfl)
theorem m_9_22 : (Cond.static yX11_layPipe) ∈ z_W := inr_9 (List.mem_of_getElem? (l := wsL_law_r9) (i := 22) rfl)
theorem m_9_23 : (Cond.code yX11_layPipe cX11_layPipe 4 none) ∈ z_W := inr_9 (List.mem_of_getElem? (l := wsL_law_r9) (i := 23) rfl)
theorem inr_10 {w : Cond} (h : w ∈ wsL_law_r10) : w ∈ z_W := z_WL (by unfold wsL_law; simp only [List.mem_append, h, true_or, or_true])
theorem m_10_0 : (Cond.methodLink RL 28 yX10_note) ∈ z_W := inr_10 (List.mem_of_getElem? (l := wsL_law_r10) (i := 0) rfl)
theorem m_10_1 : (Cond.instanceMethod yX10_note) ∈ z_W := inr_10 (List.mem_of_getElem? (l := wsL_law_r10) (i := 1) rfl)
theorem m_10_2 : (Cond.selects RX10 yX10_note yX10_note) ∈ z_W := inr_10 (List.mem_of_getElem? (l := wsL_law_r10) (i := 2) rfl)
theorem m_10_3 : (Cond.code yX10_note cX10_note 3 (some .int)) ∈ z_W := inr_10 (List.mem_of_getElem? (l := wsL_law_r10) (i := 3) rfl)
theorem m_10_4 : (Cond.fieldLink RX10 116 "GonePipes$Organ" "hymnCounts" "[I") ∈ z_W := inr_10 (List.mem_of_getElem? (l := wsL_law_r10) (i := 4) rfl)
theorem m_10_5 : (Cond.methodLink RX10 109 yX10_isHymn) ∈ z_W := inr_10 (List.mem_of_getElem? (l := wsL_law_r10) (i := 5) rfl)
theorem m_10_6 : (Cond.static yX10_isHymn) ∈ z_W := inr_10 (List.mem_of_getElem? (l := wsL_law_r10) (i := 6) rfl)
theorem m_10_7 : (Cond.code yX10_isHymn cX10_isHymn 1 (some .boolean)) ∈ z_W := inr_10 (List.mem_of_getElem? (l := wsL_law_r10) (i := 7) rfl)
theorem m_10_8 : (Cond.methodLink RX10 113 yX4_addNote) ∈ z_W := inr_10 (List.mem_of_getElem? (l := wsL_law_r10) (i := 8) rfl)
theorem m_10_9 : (Cond.instanceMethod yX4_addNote) ∈ z_W := inr_10 (List.mem_of_getElem? (l := wsL_law_r10) (i := 9) rfl)
theorem m_10_10 : (Cond.selects RX4 yX4_addNote yX4_addNote) ∈ z_W := inr_10 (List.mem_of_getElem? (l := wsL_law_r10) (i := 10) rfl)
theorem m_10_11 : (Cond.code yX4_addNote cX4_addNote 4 (some .boolean)) ∈ z_W := inr_10 (List.mem_of_getElem? (l := wsL_law_r10) (i := 11) rfl)
theorem m_10_12 : (Cond.methodLink RL 31 yX11_note) ∈ z_W := inr_10 (List.mem_of_getElem? (l := wsL_law_r10) (i := 12) rfl)
theorem m_10_13 : (Cond.instanceMethod yX11_note) ∈ z_W := inr_10 (List.mem_of_getElem? (l := wsL_law_r10) (i := 13) rfl)
theorem m_10_14 : (Cond.selects RX11 yX11_note yX11_note) ∈ z_W := inr_10 (List.mem_of_getElem? (l := wsL_law_r10) (i := 14) rfl)
theorem m_10_15 : (Cond.code yX11_note cX11_note 3 (some .int)) ∈ z_W := inr_10 (List.mem_of_getElem? (l := wsL_law_r10) (i := 15) rfl)
theorem m_10_16 : (Cond.methodLink RX11 104 yX11_isHymn) ∈ z_W := inr_10 (List.mem_of_getElem? (l := wsL_law_r10) (i := 16) rfl)
theorem m_10_17 : (Cond.static yX11_isHymn) ∈ z_W := inr_10 (List.mem_of_getElem? (l := wsL_law_r10) (i := 17) rfl)
theorem m_10_18 : (Cond.code yX11_isHymn cX11_isHymn 1 (some .boolean)) ∈ z_W := inr_10 (List.mem_of_getElem? (l := wsL_law_r10) (i := 18) rfl)
theorem m_10_19 : (Cond.constantLong RX11 65 (2)) ∈ z_W := inr_10 (List.mem_of_getElem? (l := wsL_law_r10) (i := 19) rfl)
theorem m_10_20 : (Cond.methodLink RX11 108 yX11_notes) ∈ z_W := inr_10 (List.mem_of_getElem? (l := wsL_law_r10) (i := 20) rfl)
theorem m_10_21 : (Cond.instanceMethod yX11_notes) ∈ z_W := inr_10 (List.mem_of_getElem? (l := wsL_law_r10) (i := 21) rfl)
theorem m_10_22 : (Cond.selects RX11 yX11_notes yX11_notes) ∈ z_W := inr_10 (List.mem_of_getElem? (l := wsL_law_r10) (i := 22) rfl)
theorem m_10_23 : (Cond.code yX11_notes cX11_notes 2 (some .int)) ∈ z_W := inr_10 (List.mem_of_getElem? (l := wsL_law_r10) (i := 23) rfl)
theorem inr_11 {w : Cond} (h : w ∈ wsL_law_r11) : w ∈ z_W := z_WL (by unfold wsL_law; simp only [List.mem_append, h, true_or, or_true])
theorem m_11_0 : (Cond.methodLink RL 32 yX10_hush) ∈ z_W := inr_11 (List.mem_of_getElem? (l := wsL_law_r11) (i := 0) rfl)
theorem m_11_1 : (Cond.instanceMethod yX10_hush) ∈ z_W := inr_11 (List.mem_of_getElem? (l := wsL_law_r11) (i := 1) rfl)
theorem m_11_2 : (Cond.selects RX10 yX10_hush yX10_hush) ∈ z_W := inr_11 (List.mem_of_getElem? (l := wsL_law_r11) (i := 2) rfl)
theorem m_11_3 : (Cond.code yX10_hush cX10_hush 3 (some .int)) ∈ z_W := inr_11 (List.mem_of_getElem? (l := wsL_law_r11) (i := 3) rfl)
theorem m_11_4 : (Cond.methodLink RX10 119 yX4_emptyHymn) ∈ z_W := inr_11 (List.mem_of_getElem? (l := wsL_law_r11) (i := 4) rfl)
theorem m_11_5 : (Cond.methodLink RL 36 yX11_hush) ∈ z_W := inr_11 (List.mem_of_getElem? (l := wsL_law_r11) (i := 5) rfl)
theorem m_11_6 : (Cond.instanceMethod yX11_hush) ∈ z_W := inr_11 (List.mem_of_getElem? (l := wsL_law_r11) (i := 6) rfl)
theorem m_11_7 : (Cond.selects RX11 yX11_hush yX11_hush) ∈ z_W := inr_11 (List.mem_of_getElem? (l := wsL_law_r11) (i := 7) rfl)
theorem m_11_8 : (Cond.code yX11_hush cX11_hush 3 (some .int)) ∈ z_W := inr_11 (List.mem_of_getElem? (l := wsL_law_r11) (i := 8) rfl)
theorem m_11_9 : (Cond.methodLink RL 37 yX10_type) ∈ z_W := inr_11 (List.mem_of_getElem? (l := wsL_law_r11) (i := 9) rfl)
theorem m_11_10 : (Cond.instanceMethod yX10_type) ∈ z_W := inr_11 (List.mem_of_getElem? (l := wsL_law_r11) (i := 10) rfl)
theorem m_11_11 : (Cond.selects RX10 yX10_type yX10_type) ∈ z_W := inr_11 (List.mem_of_getElem? (l := wsL_law_r11) (i := 11) rfl)
theorem m_11_12 : (Cond.code yX10_type cX10_type 2 (some .int)) ∈ z_W := inr_11 (List.mem_of_getElem? (l := wsL_law_r11) (i := 12) rfl)
theorem m_11_13 : (Cond.fieldLink RX10 126 "GonePipes$Text" "count" "I") ∈ z_W := inr_11 (List.mem_of_getElem? (l := wsL_law_r11) (i := 13) rfl)
theorem m_11_14 : (Cond.methodLink RX10 123 yX8_add) ∈ z_W := inr_11 (List.mem_of_getElem? (l := wsL_law_r11) (i := 14) rfl)
theorem m_11_15 : (Cond.instanceMethod yX8_add) ∈ z_W := inr_11 (List.mem_of_getElem? (l := wsL_law_r11) (i := 15) rfl)
theorem m_11_16 : (Cond.selects RX8 yX8_add yX8_add) ∈ z_W := inr_11 (List.mem_of_getElem? (l := wsL_law_r11) (i := 16) rfl)
theorem m_11_17 : (Cond.code yX8_add cX8_add 2 (some .boolean)) ∈ z_W := inr_11 (List.mem_of_getElem? (l := wsL_law_r11) (i := 17) rfl)
theorem m_11_18 : (Cond.fieldLink RX8 19 "GonePipes$Text" "count" "I") ∈ z_W := inr_11 (List.mem_of_getElem? (l := wsL_law_r11) (i := 18) rfl)
theorem m_11_19 : (Cond.methodLink RL 40 yX11_type) ∈ z_W := inr_11 (List.mem_of_getElem? (l := wsL_law_r11) (i := 19) rfl)
theorem m_11_20 : (Cond.instanceMethod yX11_type) ∈ z_W := inr_11 (List.mem_of_getElem? (l := wsL_law_r11) (i := 20) rfl)
theorem m_11_21 : (Cond.selects RX11 yX11_type yX11_type) ∈ z_W := inr_11 (List.mem_of_getElem? (l := wsL_law_r11) (i := 21) rfl)
theorem m_11_22 : (Cond.code yX11_type cX11_type 2 (some .int)) ∈ z_W := inr_11 (List.mem_of_getElem? (l := wsL_law_r11) (i := 22) rfl)
theorem m_11_23 : (Cond.constantLong RX11 259 (127)) ∈ z_W := inr_11 (List.mem_of_getElem? (l := wsL_law_r11) (i := 23) rfl)
theorem inr_12 {w : Cond} (h : w ∈ wsL_law_r12) : w ∈ z_W := z_WL (by unfold wsL_law; simp only [List.mem_append, h, true_or, or_true])
theorem m_12_0 : (Cond.fieldLink RX11 261 "GonePipesModel" "bytesLong" "I") ∈ z_W := inr_12 (List.mem_of_getElem? (l := wsL_law_r12) (i := 0) rfl)
theorem m_12_1 : (Cond.methodLink RL 41 yX10_clear) ∈ z_W := inr_12 (List.mem_of_getElem? (l := wsL_law_r12) (i := 1) rfl)
theorem m_12_2 : (Cond.instanceMethod yX10_clear) ∈ z_W := inr_12 (List.mem_of_getElem? (l := wsL_law_r12) (i := 2) rfl)
theorem m_12_3 : (Cond.selects RX10 yX10_clear yX10_clear) ∈ z_W := inr_12 (List.mem_of_getElem? (l := wsL_law_r12) (i := 3) rfl)
theorem m_12_4 : (Cond.code yX10_clear cX10_clear 2 (some .int)) ∈ z_W := inr_12 (List.mem_of_getElem? (l := wsL_law_r12) (i := 4) rfl)
theorem m_12_5 : (Cond.methodLink RL 44 yX11_clear) ∈ z_W := inr_12 (List.mem_of_getElem? (l := wsL_law_r12) (i := 5) rfl)
theorem m_12_6 : (Cond.instanceMethod yX11_clear) ∈ z_W := inr_12 (List.mem_of_getElem? (l := wsL_law_r12) (i := 6) rfl)
theorem m_12_7 : (Cond.selects RX11 yX11_clear yX11_clear) ∈ z_W := inr_12 (List.mem_of_getElem? (l := wsL_law_r12) (i := 7) rfl)
theorem m_12_8 : (Cond.code yX11_clear cX11_clear 2 (some .int)) ∈ z_W := inr_12 (List.mem_of_getElem? (l := wsL_law_r12) (i := 8) rfl)
theorem m_12_9 : (Cond.methodLink RL 45 yX10_read) ∈ z_W := inr_12 (List.mem_of_getElem? (l := wsL_law_r12) (i := 9) rfl)
theorem m_12_10 : (Cond.instanceMethod yX10_read) ∈ z_W := inr_12 (List.mem_of_getElem? (l := wsL_law_r12) (i := 10) rfl)
theorem m_12_11 : (Cond.selects RX10 yX10_read yX10_read) ∈ z_W := inr_12 (List.mem_of_getElem? (l := wsL_law_r12) (i := 11) rfl)
theorem m_12_12 : (Cond.code yX10_read cX10_read 2 (some .int)) ∈ z_W := inr_12 (List.mem_of_getElem? (l := wsL_law_r12) (i := 12) rfl)
theorem m_12_13 : (Cond.methodLink RX10 129 yX8_readInto) ∈ z_W := inr_12 (List.mem_of_getElem? (l := wsL_law_r12) (i := 13) rfl)
theorem m_12_14 : (Cond.instanceMethod yX8_readInto) ∈ z_W := inr_12 (List.mem_of_getElem? (l := wsL_law_r12) (i := 14) rfl)
theorem m_12_15 : (Cond.selects RX8 yX8_readInto yX8_readInto) ∈ z_W := inr_12 (List.mem_of_getElem? (l := wsL_law_r12) (i := 15) rfl)
theorem m_12_16 : (Cond.code yX8_readInto cX8_readInto 3 (some .int)) ∈ z_W := inr_12 (List.mem_of_getElem? (l := wsL_law_r12) (i := 16) rfl)
theorem m_12_17 : (Cond.fieldLink RX8 28 "GonePipes$Text" "next" "I") ∈ z_W := inr_12 (List.mem_of_getElem? (l := wsL_law_r12) (i := 17) rfl)
theorem m_12_18 : (Cond.fieldLink RX8 44 "GonePipes$Text" "start" "I") ∈ z_W := inr_12 (List.mem_of_getElem? (l := wsL_law_r12) (i := 18) rfl)
theorem m_12_19 : (Cond.fieldLink RX8 47 "GonePipes$Text" "sort" "I") ∈ z_W := inr_12 (List.mem_of_getElem? (l := wsL_law_r12) (i := 19) rfl)
theorem m_12_20 : (Cond.methodLink RX8 23 yX4_reset) ∈ z_W := inr_12 (List.mem_of_getElem? (l := wsL_law_r12) (i := 20) rfl)
theorem m_12_21 : (Cond.methodLink RX8 31 yX8_step) ∈ z_W := inr_12 (List.mem_of_getElem? (l := wsL_law_r12) (i := 21) rfl)
theorem m_12_22 : (Cond.instanceMethod yX8_step) ∈ z_W := inr_12 (List.mem_of_getElem? (l := wsL_law_r12) (i := 22) rfl)
theorem m_12_23 : (Cond.selects RX8 yX8_step yX8_step) ∈ z_W := inr_12 (List.mem_of_getElem? (l := wsL_law_r12) (i := 23) rfl)
theorem inr_13 {w : Cond} (h : w ∈ wsL_law_r13) : w ∈ z_W := z_WL (by unfold wsL_law; simp only [List.mem_append, h, true_or, or_true])
theorem m_13_0 : (Cond.code yX8_step cX8_step 1 none) ∈ z_W := inr_13 (List.mem_of_getElem? (l := wsL_law_r13) (i := 0) rfl)
theorem m_13_1 : (Cond.fieldLink RX8 90 "GonePipes$Text" "value" "I") ∈ z_W := inr_13 (List.mem_of_getElem? (l := wsL_law_r13) (i := 1) rfl)
theorem m_13_2 : (Cond.methodLink RX8 96 yX8_isLetter) ∈ z_W := inr_13 (List.mem_of_getElem? (l := wsL_law_r13) (i := 2) rfl)
theorem m_13_3 : (Cond.static yX8_isLetter) ∈ z_W := inr_13 (List.mem_of_getElem? (l := wsL_law_r13) (i := 3) rfl)
theorem m_13_4 : (Cond.code yX8_isLetter cX8_isLetter 1 (some .boolean)) ∈ z_W := inr_13 (List.mem_of_getElem? (l := wsL_law_r13) (i := 4) rfl)
theorem m_13_5 : (Cond.methodLink RX8 99 yX8_isFigure) ∈ z_W := inr_13 (List.mem_of_getElem? (l := wsL_law_r13) (i := 5) rfl)
theorem m_13_6 : (Cond.static yX8_isFigure) ∈ z_W := inr_13 (List.mem_of_getElem? (l := wsL_law_r13) (i := 6) rfl)
theorem m_13_7 : (Cond.code yX8_isFigure cX8_isFigure 1 (some .boolean)) ∈ z_W := inr_13 (List.mem_of_getElem? (l := wsL_law_r13) (i := 7) rfl)
theorem m_13_8 : (Cond.methodLink RX8 36 yX8_isWord) ∈ z_W := inr_13 (List.mem_of_getElem? (l := wsL_law_r13) (i := 8) rfl)
theorem m_13_9 : (Cond.instanceMethod yX8_isWord) ∈ z_W := inr_13 (List.mem_of_getElem? (l := wsL_law_r13) (i := 9) rfl)
theorem m_13_10 : (Cond.selects RX8 yX8_isWord yX8_isWord) ∈ z_W := inr_13 (List.mem_of_getElem? (l := wsL_law_r13) (i := 10) rfl)
theorem m_13_11 : (Cond.code yX8_isWord cX8_isWord 3 (some .boolean)) ∈ z_W := inr_13 (List.mem_of_getElem? (l := wsL_law_r13) (i := 11) rfl)
theorem m_13_12 : (Cond.methodLink RX8 102 yJ0_length_8abf5) ∈ z_W := inr_13 (List.mem_of_getElem? (l := wsL_law_r13) (i := 12) rfl)
theorem m_13_13 : (Cond.instanceMethod yJ0_length_8abf5) ∈ z_W := inr_13 (List.mem_of_getElem? (l := wsL_law_r13) (i := 13) rfl)
theorem m_13_14 : (Cond.selects RJ0 yJ0_length_8abf5 yJ0_length_8abf5) ∈ z_W := inr_13 (List.mem_of_getElem? (l := wsL_law_r13) (i := 14) rfl)
theorem m_13_15 : (Cond.initialized RJ0) ∈ z_W := inr_13 (List.mem_of_getElem? (l := wsL_law_r13) (i := 15) rfl)
theorem m_13_16 : (Cond.code yJ0_length_8abf5 cJ0_length_8abf5 1 (some .int)) ∈ z_W := inr_13 (List.mem_of_getElem? (l := wsL_law_r13) (i := 16) rfl)
theorem m_13_17 : (Cond.fieldLink RJ0 9 "java/lang/String" "value" "[B") ∈ z_W := inr_13 (List.mem_of_getElem? (l := wsL_law_r13) (i := 17) rfl)
theorem m_13_18 : (Cond.methodLink RJ0 335 yJ0_coder_7d493) ∈ z_W := inr_13 (List.mem_of_getElem? (l := wsL_law_r13) (i := 18) rfl)
theorem m_13_19 : (Cond.instanceMethod yJ0_coder_7d493) ∈ z_W := inr_13 (List.mem_of_getElem? (l := wsL_law_r13) (i := 19) rfl)
theorem m_13_20 : (Cond.selects RJ0 yJ0_coder_7d493 yJ0_coder_7d493) ∈ z_W := inr_13 (List.mem_of_getElem? (l := wsL_law_r13) (i := 20) rfl)
theorem m_13_21 : (Cond.code yJ0_coder_7d493 cJ0_coder_7d493 1 (some .byte)) ∈ z_W := inr_13 (List.mem_of_getElem? (l := wsL_law_r13) (i := 21) rfl)
theorem m_13_22 : (Cond.fieldLink RJ0 38 "java/lang/String" "COMPACT_STRINGS" "Z") ∈ z_W := inr_13 (List.mem_of_getElem? (l := wsL_law_r13) (i := 22) rfl)
theorem m_13_23 : (Cond.fieldLink RJ0 15 "java/lang/String" "coder" "B") ∈ z_W := inr_13 (List.mem_of_getElem? (l := wsL_law_r13) (i := 23) rfl)
theorem inr_14 {w : Cond} (h : w ∈ wsL_law_r14) : w ∈ z_W := z_WL (by unfold wsL_law; simp only [List.mem_append, h, true_or, or_true])
theorem m_14_0 : (Cond.methodLink RX8 108 yJ0_charAt_5068e) ∈ z_W := inr_14 (List.mem_of_getElem? (l := wsL_law_r14) (i := 0) rfl)
theorem m_14_1 : (Cond.instanceMethod yJ0_charAt_5068e) ∈ z_W := inr_14 (List.mem_of_getElem? (l := wsL_law_r14) (i := 1) rfl)
theorem m_14_2 : (Cond.selects RJ0 yJ0_charAt_5068e yJ0_charAt_5068e) ∈ z_W := inr_14 (List.mem_of_getElem? (l := wsL_law_r14) (i := 2) rfl)
theorem m_14_3 : (Cond.code yJ0_charAt_5068e cJ0_charAt_5068e 2 (some .char)) ∈ z_W := inr_14 (List.mem_of_getElem? (l := wsL_law_r14) (i := 3) rfl)
theorem m_14_4 : (Cond.methodLink RJ0 492 yJ0_isLatin1_aae02) ∈ z_W := inr_14 (List.mem_of_getElem? (l := wsL_law_r14) (i := 4) rfl)
theorem m_14_5 : (Cond.instanceMethod yJ0_isLatin1_aae02) ∈ z_W := inr_14 (List.mem_of_getElem? (l := wsL_law_r14) (i := 5) rfl)
theorem m_14_6 : (Cond.selects RJ0 yJ0_isLatin1_aae02 yJ0_isLatin1_aae02) ∈ z_W := inr_14 (List.mem_of_getElem? (l := wsL_law_r14) (i := 6) rfl)
theorem m_14_7 : (Cond.code yJ0_isLatin1_aae02 cJ0_isLatin1_aae02 1 (some .boolean)) ∈ z_W := inr_14 (List.mem_of_getElem? (l := wsL_law_r14) (i := 7) rfl)
theorem m_14_8 : (Cond.methodLink RJ0 495 yJ1_charAt_3b067) ∈ z_W := inr_14 (List.mem_of_getElem? (l := wsL_law_r14) (i := 8) rfl)
theorem m_14_9 : (Cond.static yJ1_charAt_3b067) ∈ z_W := inr_14 (List.mem_of_getElem? (l := wsL_law_r14) (i := 9) rfl)
theorem m_14_10 : (Cond.initialized RJ1) ∈ z_W := inr_14 (List.mem_of_getElem? (l := wsL_law_r14) (i := 10) rfl)
theorem m_14_11 : (Cond.code yJ1_charAt_3b067 cJ1_charAt_3b067 2 (some .char)) ∈ z_W := inr_14 (List.mem_of_getElem? (l := wsL_law_r14) (i := 11) rfl)
theorem m_14_12 : (Cond.methodLink RJ1 9 yJ0_checkIndex_df160) ∈ z_W := inr_14 (List.mem_of_getElem? (l := wsL_law_r14) (i := 12) rfl)
theorem m_14_13 : (Cond.static yJ0_checkIndex_df160) ∈ z_W := inr_14 (List.mem_of_getElem? (l := wsL_law_r14) (i := 13) rfl)
theorem m_14_14 : (Cond.code yJ0_checkIndex_df160 cJ0_checkIndex_df160 2 none) ∈ z_W := inr_14 (List.mem_of_getElem? (l := wsL_law_r14) (i := 14) rfl)
theorem m_14_15 : (Cond.fieldLink RJ0 1053 "jdk/internal/util/Preconditions" "SIOOBE_FORMATTER" "Ljava/util/function/BiFunction;") ∈ z_W := inr_14 (List.mem_of_getElem? (l := wsL_law_r14) (i := 15) rfl)
theorem m_14_16 : (Cond.methodLink RJ0 1059 yJ3_checkIndex_8e157) ∈ z_W := inr_14 (List.mem_of_getElem? (l := wsL_law_r14) (i := 16) rfl)
theorem m_14_17 : (Cond.static yJ3_checkIndex_8e157) ∈ z_W := inr_14 (List.mem_of_getElem? (l := wsL_law_r14) (i := 17) rfl)
theorem m_14_18 : (Cond.initialized RJ3) ∈ z_W := inr_14 (List.mem_of_getElem? (l := wsL_law_r14) (i := 18) rfl)
theorem m_14_19 : (Cond.code yJ3_checkIndex_8e157 cJ3_checkIndex_8e157 3 (some .int)) ∈ z_W := inr_14 (List.mem_of_getElem? (l := wsL_law_r14) (i := 19) rfl)
theorem m_14_20 : (Cond.methodLink RJ0 498 yJ2_charAt_3b067) ∈ z_W := inr_14 (List.mem_of_getElem? (l := wsL_law_r14) (i := 20) rfl)
theorem m_14_21 : (Cond.static yJ2_charAt_3b067) ∈ z_W := inr_14 (List.mem_of_getElem? (l := wsL_law_r14) (i := 21) rfl)
theorem m_14_22 : (Cond.initialized RJ2) ∈ z_W := inr_14 (List.mem_of_getElem? (l := wsL_law_r14) (i := 22) rfl)
theorem m_14_23 : (Cond.code yJ2_charAt_3b067 cJ2_charAt_3b067 2 (some .char)) ∈ z_W := inr_14 (List.mem_of_getElem? (l := wsL_law_r14) (i := 23) rfl)
theorem inr_15 {w : Cond} (h : w ∈ wsL_law_r15) : w ∈ z_W := z_WL (by unfold wsL_law; simp only [List.mem_append, h, true_or, or_true])
theorem m_15_0 : (Cond.methodLink RJ2 67 yJ2_checkIndex_2214a) ∈ z_W := inr_15 (List.mem_of_getElem? (l := wsL_law_r15) (i := 0) rfl)
theorem m_15_1 : (Cond.static yJ2_checkIndex_2214a) ∈ z_W := inr_15 (List.mem_of_getElem? (l := wsL_law_r15) (i := 1) rfl)
theorem m_15_2 : (Cond.code yJ2_checkIndex_2214a cJ2_checkIndex_2214a 2 none) ∈ z_W := inr_15 (List.mem_of_getElem? (l := wsL_law_r15) (i := 2) rfl)
theorem m_15_3 : (Cond.methodLink RJ2 48 yJ2_length_9d52b) ∈ z_W := inr_15 (List.mem_of_getElem? (l := wsL_law_r15) (i := 3) rfl)
theorem m_15_4 : (Cond.static yJ2_length_9d52b) ∈ z_W := inr_15 (List.mem_of_getElem? (l := wsL_law_r15) (i := 4) rfl)
theorem m_15_5 : (Cond.code yJ2_length_9d52b cJ2_length_9d52b 1 (some .int)) ∈ z_W := inr_15 (List.mem_of_getElem? (l := wsL_law_r15) (i := 5) rfl)
theorem m_15_6 : (Cond.methodLink RJ2 414 yJ0_checkIndex_df160) ∈ z_W := inr_15 (List.mem_of_getElem? (l := wsL_law_r15) (i := 6) rfl)
theorem m_15_7 : (Cond.methodLink RJ2 71 yJ2_getChar_3b067) ∈ z_W := inr_15 (List.mem_of_getElem? (l := wsL_law_r15) (i := 7) rfl)
theorem m_15_8 : (Cond.static yJ2_getChar_3b067) ∈ z_W := inr_15 (List.mem_of_getElem? (l := wsL_law_r15) (i := 8) rfl)
theorem m_15_9 : (Cond.code yJ2_getChar_3b067 cJ2_getChar_3b067 2 (some .char)) ∈ z_W := inr_15 (List.mem_of_getElem? (l := wsL_law_r15) (i := 9) rfl)
theorem m_15_10 : (Cond.fieldLink RJ2 44 "java/lang/StringUTF16" "$assertionsDisabled" "Z") ∈ z_W := inr_15 (List.mem_of_getElem? (l := wsL_law_r15) (i := 10) rfl)
theorem m_15_11 : (Cond.fieldLink RJ2 59 "java/lang/StringUTF16" "HI_BYTE_SHIFT" "I") ∈ z_W := inr_15 (List.mem_of_getElem? (l := wsL_law_r15) (i := 11) rfl)
theorem m_15_12 : (Cond.fieldLink RJ2 63 "java/lang/StringUTF16" "LO_BYTE_SHIFT" "I") ∈ z_W := inr_15 (List.mem_of_getElem? (l := wsL_law_r15) (i := 12) rfl)
theorem m_15_13 : (Cond.methodLink RX8 40 yX8_stepTo) ∈ z_W := inr_15 (List.mem_of_getElem? (l := wsL_law_r15) (i := 13) rfl)
theorem m_15_14 : (Cond.instanceMethod yX8_stepTo) ∈ z_W := inr_15 (List.mem_of_getElem? (l := wsL_law_r15) (i := 14) rfl)
theorem m_15_15 : (Cond.selects RX8 yX8_stepTo yX8_stepTo) ∈ z_W := inr_15 (List.mem_of_getElem? (l := wsL_law_r15) (i := 15) rfl)
theorem m_15_16 : (Cond.code yX8_stepTo cX8_stepTo 2 (some .boolean)) ∈ z_W := inr_15 (List.mem_of_getElem? (l := wsL_law_r15) (i := 16) rfl)
theorem m_15_17 : (Cond.methodLink RX8 50 yX8_readItem) ∈ z_W := inr_15 (List.mem_of_getElem? (l := wsL_law_r15) (i := 17) rfl)
theorem m_15_18 : (Cond.instanceMethod yX8_readItem) ∈ z_W := inr_15 (List.mem_of_getElem? (l := wsL_law_r15) (i := 18) rfl)
theorem m_15_19 : (Cond.selects RX8 yX8_readItem yX8_readItem) ∈ z_W := inr_15 (List.mem_of_getElem? (l := wsL_law_r15) (i := 19) rfl)
theorem m_15_20 : (Cond.code yX8_readItem cX8_readItem 2 (some .boolean)) ∈ z_W := inr_15 (List.mem_of_getElem? (l := wsL_law_r15) (i := 20) rfl)
theorem m_15_21 : (Cond.fieldLink RX8 56 "GonePipes$Organ" "places" "I") ∈ z_W := inr_15 (List.mem_of_getElem? (l := wsL_law_r15) (i := 21) rfl)
theorem m_15_22 : (Cond.fieldLink RX8 64 "GonePipes$Organ" "pipes" "I") ∈ z_W := inr_15 (List.mem_of_getElem? (l := wsL_law_r15) (i := 22) rfl)
theorem m_15_23 : (Cond.methodLink RX8 59 yX8_readPlace) ∈ z_W := inr_15 (List.mem_of_getElem? (l := wsL_law_r15) (i := 23) rfl)
theorem inr_16 {w : Cond} (h : w ∈ wsL_law_r16) : w ∈ z_W := z_WL (by unfold wsL_law; simp only [List.mem_append, h, true_or, or_true])
theorem m_16_0 : (Cond.instanceMethod yX8_readPlace) ∈ z_W := inr_16 (List.mem_of_getElem? (l := wsL_law_r16) (i := 0) rfl)
theorem m_16_1 : (Cond.selects RX8 yX8_readPlace yX8_readPlace) ∈ z_W := inr_16 (List.mem_of_getElem? (l := wsL_law_r16) (i := 1) rfl)
theorem m_16_2 : (Cond.code yX8_readPlace cX8_readPlace 2 (some .boolean)) ∈ z_W := inr_16 (List.mem_of_getElem? (l := wsL_law_r16) (i := 2) rfl)
theorem m_16_3 : (Cond.methodLink RX8 75 yX8_readNumber) ∈ z_W := inr_16 (List.mem_of_getElem? (l := wsL_law_r16) (i := 3) rfl)
theorem m_16_4 : (Cond.instanceMethod yX8_readNumber) ∈ z_W := inr_16 (List.mem_of_getElem? (l := wsL_law_r16) (i := 4) rfl)
theorem m_16_5 : (Cond.selects RX8 yX8_readNumber yX8_readNumber) ∈ z_W := inr_16 (List.mem_of_getElem? (l := wsL_law_r16) (i := 5) rfl)
theorem m_16_6 : (Cond.code yX8_readNumber cX8_readNumber 3 (some .boolean)) ∈ z_W := inr_16 (List.mem_of_getElem? (l := wsL_law_r16) (i := 6) rfl)
theorem m_16_7 : (Cond.methodLink RX8 79 yX4_addPlace) ∈ z_W := inr_16 (List.mem_of_getElem? (l := wsL_law_r16) (i := 7) rfl)
theorem m_16_8 : (Cond.methodLink RX8 67 yX8_readPipe) ∈ z_W := inr_16 (List.mem_of_getElem? (l := wsL_law_r16) (i := 8) rfl)
theorem m_16_9 : (Cond.instanceMethod yX8_readPipe) ∈ z_W := inr_16 (List.mem_of_getElem? (l := wsL_law_r16) (i := 9) rfl)
theorem m_16_10 : (Cond.selects RX8 yX8_readPipe yX8_readPipe) ∈ z_W := inr_16 (List.mem_of_getElem? (l := wsL_law_r16) (i := 10) rfl)
theorem m_16_11 : (Cond.code yX8_readPipe cX8_readPipe 2 (some .boolean)) ∈ z_W := inr_16 (List.mem_of_getElem? (l := wsL_law_r16) (i := 11) rfl)
theorem m_16_12 : (Cond.methodLink RX8 83 yX4_addPipe) ∈ z_W := inr_16 (List.mem_of_getElem? (l := wsL_law_r16) (i := 12) rfl)
theorem m_16_13 : (Cond.methodLink RX8 72 yX8_readHymn) ∈ z_W := inr_16 (List.mem_of_getElem? (l := wsL_law_r16) (i := 13) rfl)
theorem m_16_14 : (Cond.instanceMethod yX8_readHymn) ∈ z_W := inr_16 (List.mem_of_getElem? (l := wsL_law_r16) (i := 14) rfl)
theorem m_16_15 : (Cond.selects RX8 yX8_readHymn yX8_readHymn) ∈ z_W := inr_16 (List.mem_of_getElem? (l := wsL_law_r16) (i := 15) rfl)
theorem m_16_16 : (Cond.code yX8_readHymn cX8_readHymn 3 (some .boolean)) ∈ z_W := inr_16 (List.mem_of_getElem? (l := wsL_law_r16) (i := 16) rfl)
theorem m_16_17 : (Cond.methodLink RX8 86 yX4_emptyHymn) ∈ z_W := inr_16 (List.mem_of_getElem? (l := wsL_law_r16) (i := 17) rfl)
theorem m_16_18 : (Cond.methodLink RX8 93 yX4_addNote) ∈ z_W := inr_16 (List.mem_of_getElem? (l := wsL_law_r16) (i := 18) rfl)
theorem m_16_19 : (Cond.methodLink RX10 133 yX4_takeAll) ∈ z_W := inr_16 (List.mem_of_getElem? (l := wsL_law_r16) (i := 19) rfl)
theorem m_16_20 : (Cond.instanceMethod yX4_takeAll) ∈ z_W := inr_16 (List.mem_of_getElem? (l := wsL_law_r16) (i := 20) rfl)
theorem m_16_21 : (Cond.selects RX4 yX4_takeAll yX4_takeAll) ∈ z_W := inr_16 (List.mem_of_getElem? (l := wsL_law_r16) (i := 21) rfl)
theorem m_16_22 : (Cond.code yX4_takeAll cX4_takeAll 2 none) ∈ z_W := inr_16 (List.mem_of_getElem? (l := wsL_law_r16) (i := 22) rfl)
theorem m_16_23 : (Cond.methodLink RX4 63 arraycopyName) ∈ z_W := inr_16 (List.mem_of_getElem? (l := wsL_law_r16) (i := 23) rfl)
theorem inr_17 {w : Cond} (h : w ∈ wsL_law_r17) : w ∈ z_W := z_WL (by unfold wsL_law; simp only [List.mem_append, h, true_or, or_true])
theorem m_17_0 : (Cond.native arraycopyName) ∈ z_W := inr_17 (List.mem_of_getElem? (l := wsL_law_r17) (i := 0) rfl)
theorem m_17_1 : (Cond.static arraycopyName) ∈ z_W := inr_17 (List.mem_of_getElem? (l := wsL_law_r17) (i := 1) rfl)
theorem m_17_2 : (Cond.initialized "java/lang/System") ∈ z_W := inr_17 (List.mem_of_getElem? (l := wsL_law_r17) (i := 2) rfl)
theorem m_17_3 : (Cond.methodLink RX4 69 yX4_takeStage) ∈ z_W := inr_17 (List.mem_of_getElem? (l := wsL_law_r17) (i := 3) rfl)
theorem m_17_4 : (Cond.instanceMethod yX4_takeStage) ∈ z_W := inr_17 (List.mem_of_getElem? (l := wsL_law_r17) (i := 4) rfl)
theorem m_17_5 : (Cond.selects RX4 yX4_takeStage yX4_takeStage) ∈ z_W := inr_17 (List.mem_of_getElem? (l := wsL_law_r17) (i := 5) rfl)
theorem m_17_6 : (Cond.code yX4_takeStage cX4_takeStage 2 none) ∈ z_W := inr_17 (List.mem_of_getElem? (l := wsL_law_r17) (i := 6) rfl)
theorem m_17_7 : (Cond.methodLink RX4 73 yX5_takeOver) ∈ z_W := inr_17 (List.mem_of_getElem? (l := wsL_law_r17) (i := 7) rfl)
theorem m_17_8 : (Cond.instanceMethod yX5_takeOver) ∈ z_W := inr_17 (List.mem_of_getElem? (l := wsL_law_r17) (i := 8) rfl)
theorem m_17_9 : (Cond.selects RX5 yX5_takeOver yX5_takeOver) ∈ z_W := inr_17 (List.mem_of_getElem? (l := wsL_law_r17) (i := 9) rfl)
theorem m_17_10 : (Cond.code yX5_takeOver cX5_takeOver 2 none) ∈ z_W := inr_17 (List.mem_of_getElem? (l := wsL_law_r17) (i := 10) rfl)
theorem m_17_11 : (Cond.methodLink RX5 22 arraycopyName) ∈ z_W := inr_17 (List.mem_of_getElem? (l := wsL_law_r17) (i := 11) rfl)
theorem m_17_12 : (Cond.methodLink RL 48 yX11_read) ∈ z_W := inr_17 (List.mem_of_getElem? (l := wsL_law_r17) (i := 12) rfl)
theorem m_17_13 : (Cond.instanceMethod yX11_read) ∈ z_W := inr_17 (List.mem_of_getElem? (l := wsL_law_r17) (i := 13) rfl)
theorem m_17_14 : (Cond.selects RX11 yX11_read yX11_read) ∈ z_W := inr_17 (List.mem_of_getElem? (l := wsL_law_r17) (i := 14) rfl)
theorem m_17_15 : (Cond.code yX11_read cX11_read 3 (some .int)) ∈ z_W := inr_17 (List.mem_of_getElem? (l := wsL_law_r17) (i := 15) rfl)
theorem m_17_16 : (Cond.fieldLink RX11 270 "GonePipesModel" "tokenAt" "I") ∈ z_W := inr_17 (List.mem_of_getElem? (l := wsL_law_r17) (i := 16) rfl)
theorem m_17_17 : (Cond.fieldLink RX11 276 "GonePipesModel" "token" "I") ∈ z_W := inr_17 (List.mem_of_getElem? (l := wsL_law_r17) (i := 17) rfl)
theorem m_17_18 : (Cond.methodLink RX11 288 yX11_lookAt) ∈ z_W := inr_17 (List.mem_of_getElem? (l := wsL_law_r17) (i := 18) rfl)
theorem m_17_19 : (Cond.instanceMethod yX11_lookAt) ∈ z_W := inr_17 (List.mem_of_getElem? (l := wsL_law_r17) (i := 19) rfl)
theorem m_17_20 : (Cond.selects RX11 yX11_lookAt yX11_lookAt) ∈ z_W := inr_17 (List.mem_of_getElem? (l := wsL_law_r17) (i := 20) rfl)
theorem m_17_21 : (Cond.code yX11_lookAt cX11_lookAt 5 none) ∈ z_W := inr_17 (List.mem_of_getElem? (l := wsL_law_r17) (i := 21) rfl)
theorem m_17_22 : (Cond.fieldLink RX11 273 "GonePipesModel" "tokenLong" "I") ∈ z_W := inr_17 (List.mem_of_getElem? (l := wsL_law_r17) (i := 22) rfl)
theorem m_17_23 : (Cond.fieldLink RX11 279 "GonePipesModel" "value" "I") ∈ z_W := inr_17 (List.mem_of_getElem? (l := wsL_law_r17) (i := 23) rfl)
theorem inr_18 {w : Cond} (h : w ∈ wsL_law_r18) : w ∈ z_W := z_WL (by unfold wsL_law; simp only [List.mem_append, h, true_or, or_true])
theorem m_18_0 : (Cond.methodLink RX11 282 yX11_isSmall) ∈ z_W := inr_18 (List.mem_of_getElem? (l := wsL_law_r18) (i := 0) rfl)
theorem m_18_1 : (Cond.static yX11_isSmall) ∈ z_W := inr_18 (List.mem_of_getElem? (l := wsL_law_r18) (i := 1) rfl)
theorem m_18_2 : (Cond.code yX11_isSmall cX11_isSmall 1 (some .boolean)) ∈ z_W := inr_18 (List.mem_of_getElem? (l := wsL_law_r18) (i := 2) rfl)
theorem m_18_3 : (Cond.constantLong RX11 264 (97)) ∈ z_W := inr_18 (List.mem_of_getElem? (l := wsL_law_r18) (i := 3) rfl)
theorem m_18_4 : (Cond.constantLong RX11 266 (122)) ∈ z_W := inr_18 (List.mem_of_getElem? (l := wsL_law_r18) (i := 4) rfl)
theorem m_18_5 : (Cond.methodLink RX11 285 yX11_isFigure) ∈ z_W := inr_18 (List.mem_of_getElem? (l := wsL_law_r18) (i := 5) rfl)
theorem m_18_6 : (Cond.static yX11_isFigure) ∈ z_W := inr_18 (List.mem_of_getElem? (l := wsL_law_r18) (i := 6) rfl)
theorem m_18_7 : (Cond.code yX11_isFigure cX11_isFigure 1 (some .boolean)) ∈ z_W := inr_18 (List.mem_of_getElem? (l := wsL_law_r18) (i := 7) rfl)
theorem m_18_8 : (Cond.constantLong RX11 147 (48)) ∈ z_W := inr_18 (List.mem_of_getElem? (l := wsL_law_r18) (i := 8) rfl)
theorem m_18_9 : (Cond.constantLong RX11 268 (57)) ∈ z_W := inr_18 (List.mem_of_getElem? (l := wsL_law_r18) (i := 9) rfl)
theorem m_18_10 : (Cond.methodLink RX11 298 yX11_isCalled) ∈ z_W := inr_18 (List.mem_of_getElem? (l := wsL_law_r18) (i := 10) rfl)
theorem m_18_11 : (Cond.instanceMethod yX11_isCalled) ∈ z_W := inr_18 (List.mem_of_getElem? (l := wsL_law_r18) (i := 11) rfl)
theorem m_18_12 : (Cond.selects RX11 yX11_isCalled yX11_isCalled) ∈ z_W := inr_18 (List.mem_of_getElem? (l := wsL_law_r18) (i := 12) rfl)
theorem m_18_13 : (Cond.code yX11_isCalled cX11_isCalled 9 (some .boolean)) ∈ z_W := inr_18 (List.mem_of_getElem? (l := wsL_law_r18) (i := 13) rfl)
theorem m_18_14 : (Cond.methodLink RX11 291 yX11_goBehind) ∈ z_W := inr_18 (List.mem_of_getElem? (l := wsL_law_r18) (i := 14) rfl)
theorem m_18_15 : (Cond.instanceMethod yX11_goBehind) ∈ z_W := inr_18 (List.mem_of_getElem? (l := wsL_law_r18) (i := 15) rfl)
theorem m_18_16 : (Cond.selects RX11 yX11_goBehind yX11_goBehind) ∈ z_W := inr_18 (List.mem_of_getElem? (l := wsL_law_r18) (i := 16) rfl)
theorem m_18_17 : (Cond.code yX11_goBehind cX11_goBehind 1 none) ∈ z_W := inr_18 (List.mem_of_getElem? (l := wsL_law_r18) (i := 17) rfl)
theorem m_18_18 : (Cond.methodLink RX11 311 yX11_takesItem) ∈ z_W := inr_18 (List.mem_of_getElem? (l := wsL_law_r18) (i := 18) rfl)
theorem m_18_19 : (Cond.instanceMethod yX11_takesItem) ∈ z_W := inr_18 (List.mem_of_getElem? (l := wsL_law_r18) (i := 19) rfl)
theorem m_18_20 : (Cond.selects RX11 yX11_takesItem yX11_takesItem) ∈ z_W := inr_18 (List.mem_of_getElem? (l := wsL_law_r18) (i := 20) rfl)
theorem m_18_21 : (Cond.code yX11_takesItem cX11_takesItem 1 (some .boolean)) ∈ z_W := inr_18 (List.mem_of_getElem? (l := wsL_law_r18) (i := 21) rfl)
theorem m_18_22 : (Cond.methodLink RX11 302 yX11_takesPlace) ∈ z_W := inr_18 (List.mem_of_getElem? (l := wsL_law_r18) (i := 22) rfl)
theorem m_18_23 : (Cond.instanceMethod yX11_takesPlace) ∈ z_W := inr_18 (List.mem_of_getElem? (l := wsL_law_r18) (i := 23) rfl)
theorem inr_19 {w : Cond} (h : w ∈ wsL_law_r19) : w ∈ z_W := z_WL (by unfold wsL_law; simp only [List.mem_append, h, true_or, or_true])
theorem m_19_0 : (Cond.selects RX11 yX11_takesPlace yX11_takesPlace) ∈ z_W := inr_19 (List.mem_of_getElem? (l := wsL_law_r19) (i := 0) rfl)
theorem m_19_1 : (Cond.code yX11_takesPlace cX11_takesPlace 1 (some .boolean)) ∈ z_W := inr_19 (List.mem_of_getElem? (l := wsL_law_r19) (i := 1) rfl)
theorem m_19_2 : (Cond.methodLink RX11 294 yX11_takes) ∈ z_W := inr_19 (List.mem_of_getElem? (l := wsL_law_r19) (i := 2) rfl)
theorem m_19_3 : (Cond.instanceMethod yX11_takes) ∈ z_W := inr_19 (List.mem_of_getElem? (l := wsL_law_r19) (i := 3) rfl)
theorem m_19_4 : (Cond.selects RX11 yX11_takes yX11_takes) ∈ z_W := inr_19 (List.mem_of_getElem? (l := wsL_law_r19) (i := 4) rfl)
theorem m_19_5 : (Cond.code yX11_takes cX11_takes 4 (some .boolean)) ∈ z_W := inr_19 (List.mem_of_getElem? (l := wsL_law_r19) (i := 5) rfl)
theorem m_19_6 : (Cond.methodLink RX11 305 yX11_takesPipe) ∈ z_W := inr_19 (List.mem_of_getElem? (l := wsL_law_r19) (i := 6) rfl)
theorem m_19_7 : (Cond.instanceMethod yX11_takesPipe) ∈ z_W := inr_19 (List.mem_of_getElem? (l := wsL_law_r19) (i := 7) rfl)
theorem m_19_8 : (Cond.selects RX11 yX11_takesPipe yX11_takesPipe) ∈ z_W := inr_19 (List.mem_of_getElem? (l := wsL_law_r19) (i := 8) rfl)
theorem m_19_9 : (Cond.code yX11_takesPipe cX11_takesPipe 1 (some .boolean)) ∈ z_W := inr_19 (List.mem_of_getElem? (l := wsL_law_r19) (i := 9) rfl)
theorem m_19_10 : (Cond.methodLink RX11 308 yX11_takesHymn) ∈ z_W := inr_19 (List.mem_of_getElem? (l := wsL_law_r19) (i := 10) rfl)
theorem m_19_11 : (Cond.instanceMethod yX11_takesHymn) ∈ z_W := inr_19 (List.mem_of_getElem? (l := wsL_law_r19) (i := 11) rfl)
theorem m_19_12 : (Cond.selects RX11 yX11_takesHymn yX11_takesHymn) ∈ z_W := inr_19 (List.mem_of_getElem? (l := wsL_law_r19) (i := 12) rfl)
theorem m_19_13 : (Cond.code yX11_takesHymn cX11_takesHymn 2 (some .boolean)) ∈ z_W := inr_19 (List.mem_of_getElem? (l := wsL_law_r19) (i := 13) rfl)
theorem m_19_14 : (Cond.methodLink RL 49 yX10_pass) ∈ z_W := inr_19 (List.mem_of_getElem? (l := wsL_law_r19) (i := 14) rfl)
theorem m_19_15 : (Cond.instanceMethod yX10_pass) ∈ z_W := inr_19 (List.mem_of_getElem? (l := wsL_law_r19) (i := 15) rfl)
theorem m_19_16 : (Cond.selects RX10 yX10_pass yX10_pass) ∈ z_W := inr_19 (List.mem_of_getElem? (l := wsL_law_r19) (i := 16) rfl)
theorem m_19_17 : (Cond.code yX10_pass cX10_pass 3 (some .int)) ∈ z_W := inr_19 (List.mem_of_getElem? (l := wsL_law_r19) (i := 17) rfl)
theorem m_19_18 : (Cond.methodLink RX10 137 yX5_keep) ∈ z_W := inr_19 (List.mem_of_getElem? (l := wsL_law_r19) (i := 18) rfl)
theorem m_19_19 : (Cond.instanceMethod yX5_keep) ∈ z_W := inr_19 (List.mem_of_getElem? (l := wsL_law_r19) (i := 19) rfl)
theorem m_19_20 : (Cond.selects RX5 yX5_keep yX5_keep) ∈ z_W := inr_19 (List.mem_of_getElem? (l := wsL_law_r19) (i := 20) rfl)
theorem m_19_21 : (Cond.code yX5_keep cX5_keep 3 none) ∈ z_W := inr_19 (List.mem_of_getElem? (l := wsL_law_r19) (i := 21) rfl)
theorem m_19_22 : (Cond.fieldLink RX5 28 "GonePipes$Organ" "hour" "I") ∈ z_W := inr_19 (List.mem_of_getElem? (l := wsL_law_r19) (i := 22) rfl)
theorem m_19_23 : (Cond.fieldLink RX5 33 "GonePipes$Organ" "where" "[I") ∈ z_W := inr_19 (List.mem_of_getElem? (l := wsL_law_r19) (i := 23) rfl)
theorem inr_20 {w : Cond} (h : w ∈ wsL_law_r20) : w ∈ z_W := z_WL (by unfold wsL_law; simp only [List.mem_append, h, true_or, or_true])
theorem m_20_0 : (Cond.fieldLink RX5 36 "GonePipes$Organ" "away" "[I") ∈ z_W := inr_20 (List.mem_of_getElem? (l := wsL_law_r20) (i := 0) rfl)
theorem m_20_1 : (Cond.methodLink RX10 140 yX4_letHourGoBy) ∈ z_W := inr_20 (List.mem_of_getElem? (l := wsL_law_r20) (i := 1) rfl)
theorem m_20_2 : (Cond.instanceMethod yX4_letHourGoBy) ∈ z_W := inr_20 (List.mem_of_getElem? (l := wsL_law_r20) (i := 2) rfl)
theorem m_20_3 : (Cond.selects RX4 yX4_letHourGoBy yX4_letHourGoBy) ∈ z_W := inr_20 (List.mem_of_getElem? (l := wsL_law_r20) (i := 3) rfl)
theorem m_20_4 : (Cond.code yX4_letHourGoBy cX4_letHourGoBy 4 none) ∈ z_W := inr_20 (List.mem_of_getElem? (l := wsL_law_r20) (i := 4) rfl)
theorem m_20_5 : (Cond.methodLink RX4 80 yX4_ruleOf) ∈ z_W := inr_20 (List.mem_of_getElem? (l := wsL_law_r20) (i := 5) rfl)
theorem m_20_6 : (Cond.instanceMethod yX4_ruleOf) ∈ z_W := inr_20 (List.mem_of_getElem? (l := wsL_law_r20) (i := 6) rfl)
theorem m_20_7 : (Cond.selects RX4 yX4_ruleOf yX4_ruleOf) ∈ z_W := inr_20 (List.mem_of_getElem? (l := wsL_law_r20) (i := 7) rfl)
theorem m_20_8 : (Cond.code yX4_ruleOf cX4_ruleOf 4 (some (.object "GonePipes$Plain"))) ∈ z_W := inr_20 (List.mem_of_getElem? (l := wsL_law_r20) (i := 8) rfl)
theorem m_20_9 : (Cond.methodLink RX4 84 ⟨"GonePipes$Plain", "mayGo", "(LGonePipes$Organ;I)Z"⟩) ∈ z_W := inr_20 (List.mem_of_getElem? (l := wsL_law_r20) (i := 9) rfl)
theorem m_20_10 : (Cond.sameMethod "GonePipes$Plain" "GonePipes$Plain" "mayGo" "(LGonePipes$Organ;I)Z") ∈ z_W := inr_20 (List.mem_of_getElem? (l := wsL_law_r20) (i := 10) rfl)
theorem m_20_11 : (Cond.instanceMethod ⟨"GonePipes$Plain", "mayGo", "(LGonePipes$Organ;I)Z"⟩) ∈ z_W := inr_20 (List.mem_of_getElem? (l := wsL_law_r20) (i := 11) rfl)
theorem m_20_12 : (Cond.selects RX0 ⟨"GonePipes$Plain", "mayGo", "(LGonePipes$Organ;I)Z"⟩ yX0_mayGo) ∈ z_W := inr_20 (List.mem_of_getElem? (l := wsL_law_r20) (i := 12) rfl)
theorem m_20_13 : (Cond.instanceMethod yX0_mayGo) ∈ z_W := inr_20 (List.mem_of_getElem? (l := wsL_law_r20) (i := 13) rfl)
theorem m_20_14 : (Cond.code yX0_mayGo cX0_mayGo 3 (some .boolean)) ∈ z_W := inr_20 (List.mem_of_getElem? (l := wsL_law_r20) (i := 14) rfl)
theorem m_20_15 : (Cond.methodLink RX0 7 yX4_isNight) ∈ z_W := inr_20 (List.mem_of_getElem? (l := wsL_law_r20) (i := 15) rfl)
theorem m_20_16 : (Cond.instanceMethod yX4_isNight) ∈ z_W := inr_20 (List.mem_of_getElem? (l := wsL_law_r20) (i := 16) rfl)
theorem m_20_17 : (Cond.selects RX4 yX4_isNight yX4_isNight) ∈ z_W := inr_20 (List.mem_of_getElem? (l := wsL_law_r20) (i := 17) rfl)
theorem m_20_18 : (Cond.code yX4_isNight cX4_isNight 2 (some .boolean)) ∈ z_W := inr_20 (List.mem_of_getElem? (l := wsL_law_r20) (i := 18) rfl)
theorem m_20_19 : (Cond.code yX6_mayGo cX6_mayGo 3 (some .boolean)) ∈ z_W := inr_20 (List.mem_of_getElem? (l := wsL_law_r20) (i := 19) rfl)
theorem m_20_20 : (Cond.selects RX1 ⟨"GonePipes$Plain", "mayGo", "(LGonePipes$Organ;I)Z"⟩ yX1_mayGo) ∈ z_W := inr_20 (List.mem_of_getElem? (l := wsL_law_r20) (i := 20) rfl)
theorem m_20_21 : (Cond.instanceMethod yX1_mayGo) ∈ z_W := inr_20 (List.mem_of_getElem? (l := wsL_law_r20) (i := 21) rfl)
theorem m_20_22 : (Cond.code yX1_mayGo cX1_mayGo 3 (some .boolean)) ∈ z_W := inr_20 (List.mem_of_getElem? (l := wsL_law_r20) (i := 22) rfl)
theorem m_20_23 : (Cond.methodLink RX1 7 yX4_isAnotherAway) ∈ z_W := inr_20 (List.mem_of_getElem? (l := wsL_law_r20) (i := 23) rfl)
theorem inr_21 {w : Cond} (h : w ∈ wsL_law_r21) : w ∈ z_W := z_WL (by unfold wsL_law; simp only [List.mem_append, h, true_or, or_true])
theorem m_21_0 : (Cond.instanceMethod yX4_isAnotherAway) ∈ z_W := inr_21 (List.mem_of_getElem? (l := wsL_law_r21) (i := 0) rfl)
theorem m_21_1 : (Cond.selects RX4 yX4_isAnotherAway yX4_isAnotherAway) ∈ z_W := inr_21 (List.mem_of_getElem? (l := wsL_law_r21) (i := 1) rfl)
theorem m_21_2 : (Cond.code yX4_isAnotherAway cX4_isAnotherAway 3 (some .boolean)) ∈ z_W := inr_21 (List.mem_of_getElem? (l := wsL_law_r21) (i := 2) rfl)
theorem m_21_3 : (Cond.selects RX2 ⟨"GonePipes$Plain", "mayGo", "(LGonePipes$Organ;I)Z"⟩ yX6_mayGo) ∈ z_W := inr_21 (List.mem_of_getElem? (l := wsL_law_r21) (i := 3) rfl)
theorem m_21_4 : (Cond.instanceMethod yX6_mayGo) ∈ z_W := inr_21 (List.mem_of_getElem? (l := wsL_law_r21) (i := 4) rfl)
theorem m_21_5 : (Cond.selects RX3 ⟨"GonePipes$Plain", "mayGo", "(LGonePipes$Organ;I)Z"⟩ yX3_mayGo) ∈ z_W := inr_21 (List.mem_of_getElem? (l := wsL_law_r21) (i := 5) rfl)
theorem m_21_6 : (Cond.instanceMethod yX3_mayGo) ∈ z_W := inr_21 (List.mem_of_getElem? (l := wsL_law_r21) (i := 6) rfl)
theorem m_21_7 : (Cond.code yX3_mayGo cX3_mayGo 3 (some .boolean)) ∈ z_W := inr_21 (List.mem_of_getElem? (l := wsL_law_r21) (i := 7) rfl)
theorem m_21_8 : (Cond.methodLink RX3 7 yX4_isNight) ∈ z_W := inr_21 (List.mem_of_getElem? (l := wsL_law_r21) (i := 8) rfl)
theorem m_21_9 : (Cond.methodLink RX3 13 yX1_mayGo) ∈ z_W := inr_21 (List.mem_of_getElem? (l := wsL_law_r21) (i := 9) rfl)
theorem m_21_10 : (Cond.sameMethod "GonePipes$Flute" "GonePipes$Flute" "mayGo" "(LGonePipes$Organ;I)Z") ∈ z_W := inr_21 (List.mem_of_getElem? (l := wsL_law_r21) (i := 10) rfl)
theorem m_21_11 : (Cond.superclass RX3 RX1) ∈ z_W := inr_21 (List.mem_of_getElem? (l := wsL_law_r21) (i := 11) rfl)
theorem m_21_12 : (Cond.methodLink RX4 84 yX6_mayGo) ∈ z_W := inr_21 (List.mem_of_getElem? (l := wsL_law_r21) (i := 12) rfl)
theorem m_21_13 : (Cond.selects RX6 yX6_mayGo yX6_mayGo) ∈ z_W := inr_21 (List.mem_of_getElem? (l := wsL_law_r21) (i := 13) rfl)
theorem m_21_14 : (Cond.selects RX7 ⟨"GonePipes$Plain", "mayGo", "(LGonePipes$Organ;I)Z"⟩ yX6_mayGo) ∈ z_W := inr_21 (List.mem_of_getElem? (l := wsL_law_r21) (i := 14) rfl)
theorem m_21_15 : (Cond.methodLink RX4 90 yX4_sendOut) ∈ z_W := inr_21 (List.mem_of_getElem? (l := wsL_law_r21) (i := 15) rfl)
theorem m_21_16 : (Cond.instanceMethod yX4_sendOut) ∈ z_W := inr_21 (List.mem_of_getElem? (l := wsL_law_r21) (i := 16) rfl)
theorem m_21_17 : (Cond.selects RX4 yX4_sendOut yX4_sendOut) ∈ z_W := inr_21 (List.mem_of_getElem? (l := wsL_law_r21) (i := 17) rfl)
theorem m_21_18 : (Cond.code yX4_sendOut cX4_sendOut 4 none) ∈ z_W := inr_21 (List.mem_of_getElem? (l := wsL_law_r21) (i := 18) rfl)
theorem m_21_19 : (Cond.methodLink RX4 96 yX4_toneWishedAt) ∈ z_W := inr_21 (List.mem_of_getElem? (l := wsL_law_r21) (i := 19) rfl)
theorem m_21_20 : (Cond.instanceMethod yX4_toneWishedAt) ∈ z_W := inr_21 (List.mem_of_getElem? (l := wsL_law_r21) (i := 20) rfl)
theorem m_21_21 : (Cond.selects RX4 yX4_toneWishedAt yX4_toneWishedAt) ∈ z_W := inr_21 (List.mem_of_getElem? (l := wsL_law_r21) (i := 21) rfl)
theorem m_21_22 : (Cond.code yX4_toneWishedAt cX4_toneWishedAt 2 (some .int)) ∈ z_W := inr_21 (List.mem_of_getElem? (l := wsL_law_r21) (i := 22) rfl)
theorem m_21_23 : (Cond.methodLink RX4 100 yX4_isWished) ∈ z_W := inr_21 (List.mem_of_getElem? (l := wsL_law_r21) (i := 23) rfl)
theorem inr_22 {w : Cond} (h : w ∈ wsL_law_r22) : w ∈ z_W := z_WL (by unfold wsL_law; simp only [List.mem_append, h, true_or, or_true])
theorem m_22_0 : (Cond.instanceMethod yX4_isWished) ∈ z_W := inr_22 (List.mem_of_getElem? (l := wsL_law_r22) (i := 0) rfl)
theorem m_22_1 : (Cond.selects RX4 yX4_isWished yX4_isWished) ∈ z_W := inr_22 (List.mem_of_getElem? (l := wsL_law_r22) (i := 1) rfl)
theorem m_22_2 : (Cond.code yX4_isWished cX4_isWished 3 (some .boolean)) ∈ z_W := inr_22 (List.mem_of_getElem? (l := wsL_law_r22) (i := 2) rfl)
theorem m_22_3 : (Cond.methodLink RX4 104 yX4_pipesAt) ∈ z_W := inr_22 (List.mem_of_getElem? (l := wsL_law_r22) (i := 3) rfl)
theorem m_22_4 : (Cond.instanceMethod yX4_pipesAt) ∈ z_W := inr_22 (List.mem_of_getElem? (l := wsL_law_r22) (i := 4) rfl)
theorem m_22_5 : (Cond.selects RX4 yX4_pipesAt yX4_pipesAt) ∈ z_W := inr_22 (List.mem_of_getElem? (l := wsL_law_r22) (i := 5) rfl)
theorem m_22_6 : (Cond.code yX4_pipesAt cX4_pipesAt 4 (some .int)) ∈ z_W := inr_22 (List.mem_of_getElem? (l := wsL_law_r22) (i := 6) rfl)
theorem m_22_7 : (Cond.methodLink RX4 93 ⟨"GonePipes$Plain", "comesBack", "(LGonePipes$Organ;I)Z"⟩) ∈ z_W := inr_22 (List.mem_of_getElem? (l := wsL_law_r22) (i := 7) rfl)
theorem m_22_8 : (Cond.sameMethod "GonePipes$Plain" "GonePipes$Plain" "comesBack" "(LGonePipes$Organ;I)Z") ∈ z_W := inr_22 (List.mem_of_getElem? (l := wsL_law_r22) (i := 8) rfl)
theorem m_22_9 : (Cond.instanceMethod ⟨"GonePipes$Plain", "comesBack", "(LGonePipes$Organ;I)Z"⟩) ∈ z_W := inr_22 (List.mem_of_getElem? (l := wsL_law_r22) (i := 9) rfl)
theorem m_22_10 : (Cond.selects RX0 ⟨"GonePipes$Plain", "comesBack", "(LGonePipes$Organ;I)Z"⟩ yX7_comesBack) ∈ z_W := inr_22 (List.mem_of_getElem? (l := wsL_law_r22) (i := 10) rfl)
theorem m_22_11 : (Cond.instanceMethod yX7_comesBack) ∈ z_W := inr_22 (List.mem_of_getElem? (l := wsL_law_r22) (i := 11) rfl)
theorem m_22_12 : (Cond.code yX7_comesBack cX7_comesBack 3 (some .boolean)) ∈ z_W := inr_22 (List.mem_of_getElem? (l := wsL_law_r22) (i := 12) rfl)
theorem m_22_13 : (Cond.fieldLink RX7 7 "GonePipes$Organ" "away" "[I") ∈ z_W := inr_22 (List.mem_of_getElem? (l := wsL_law_r22) (i := 13) rfl)
theorem m_22_14 : (Cond.methodLink RX7 13 yX6_comesBack) ∈ z_W := inr_22 (List.mem_of_getElem? (l := wsL_law_r22) (i := 14) rfl)
theorem m_22_15 : (Cond.superclass RX7 RX6) ∈ z_W := inr_22 (List.mem_of_getElem? (l := wsL_law_r22) (i := 15) rfl)
theorem m_22_16 : (Cond.instanceMethod yX6_comesBack) ∈ z_W := inr_22 (List.mem_of_getElem? (l := wsL_law_r22) (i := 16) rfl)
theorem m_22_17 : (Cond.code yX6_comesBack cX6_comesBack 3 (some .boolean)) ∈ z_W := inr_22 (List.mem_of_getElem? (l := wsL_law_r22) (i := 17) rfl)
theorem m_22_18 : (Cond.fieldLink RX6 7 "GonePipes$Organ" "where" "[I") ∈ z_W := inr_22 (List.mem_of_getElem? (l := wsL_law_r22) (i := 18) rfl)
theorem m_22_19 : (Cond.methodLink RX6 13 yX4_isWished) ∈ z_W := inr_22 (List.mem_of_getElem? (l := wsL_law_r22) (i := 19) rfl)
theorem m_22_20 : (Cond.selects RX1 ⟨"GonePipes$Plain", "comesBack", "(LGonePipes$Organ;I)Z"⟩ yX6_comesBack) ∈ z_W := inr_22 (List.mem_of_getElem? (l := wsL_law_r22) (i := 20) rfl)
theorem m_22_21 : (Cond.selects RX2 ⟨"GonePipes$Plain", "comesBack", "(LGonePipes$Organ;I)Z"⟩ yX2_comesBack) ∈ z_W := inr_22 (List.mem_of_getElem? (l := wsL_law_r22) (i := 21) rfl)
theorem m_22_22 : (Cond.instanceMethod yX2_comesBack) ∈ z_W := inr_22 (List.mem_of_getElem? (l := wsL_law_r22) (i := 22) rfl)
theorem m_22_23 : (Cond.code yX2_comesBack cX2_comesBack 3 (some .boolean)) ∈ z_W := inr_22 (List.mem_of_getElem? (l := wsL_law_r22) (i := 23) rfl)
theorem inr_23 {w : Cond} (h : w ∈ wsL_law_r23) : w ∈ z_W := z_WL (by unfold wsL_law; simp only [List.mem_append, h, true_or, or_true])
theorem m_23_0 : (Cond.fieldLink RX2 7 "GonePipes$Organ" "away" "[I") ∈ z_W := inr_23 (List.mem_of_getElem? (l := wsL_law_r23) (i := 0) rfl)
theorem m_23_1 : (Cond.methodLink RX2 13 yX6_comesBack) ∈ z_W := inr_23 (List.mem_of_getElem? (l := wsL_law_r23) (i := 1) rfl)
theorem m_23_2 : (Cond.superclass RX2 RX6) ∈ z_W := inr_23 (List.mem_of_getElem? (l := wsL_law_r23) (i := 2) rfl)
theorem m_23_3 : (Cond.selects RX3 ⟨"GonePipes$Plain", "comesBack", "(LGonePipes$Organ;I)Z"⟩ yX3_comesBack) ∈ z_W := inr_23 (List.mem_of_getElem? (l := wsL_law_r23) (i := 3) rfl)
theorem m_23_4 : (Cond.instanceMethod yX3_comesBack) ∈ z_W := inr_23 (List.mem_of_getElem? (l := wsL_law_r23) (i := 4) rfl)
theorem m_23_5 : (Cond.code yX3_comesBack cX3_comesBack 3 (some .boolean)) ∈ z_W := inr_23 (List.mem_of_getElem? (l := wsL_law_r23) (i := 5) rfl)
theorem m_23_6 : (Cond.methodLink RX4 93 yX6_comesBack) ∈ z_W := inr_23 (List.mem_of_getElem? (l := wsL_law_r23) (i := 6) rfl)
theorem m_23_7 : (Cond.selects RX6 yX6_comesBack yX6_comesBack) ∈ z_W := inr_23 (List.mem_of_getElem? (l := wsL_law_r23) (i := 7) rfl)
theorem m_23_8 : (Cond.selects RX7 ⟨"GonePipes$Plain", "comesBack", "(LGonePipes$Organ;I)Z"⟩ yX7_comesBack) ∈ z_W := inr_23 (List.mem_of_getElem? (l := wsL_law_r23) (i := 8) rfl)
theorem m_23_9 : (Cond.methodLink RX10 144 yX4_howManyAway) ∈ z_W := inr_23 (List.mem_of_getElem? (l := wsL_law_r23) (i := 9) rfl)
theorem m_23_10 : (Cond.instanceMethod yX4_howManyAway) ∈ z_W := inr_23 (List.mem_of_getElem? (l := wsL_law_r23) (i := 10) rfl)
theorem m_23_11 : (Cond.selects RX4 yX4_howManyAway yX4_howManyAway) ∈ z_W := inr_23 (List.mem_of_getElem? (l := wsL_law_r23) (i := 11) rfl)
theorem m_23_12 : (Cond.code yX4_howManyAway cX4_howManyAway 3 (some .int)) ∈ z_W := inr_23 (List.mem_of_getElem? (l := wsL_law_r23) (i := 12) rfl)
theorem m_23_13 : (Cond.methodLink RL 52 yX11_pass) ∈ z_W := inr_23 (List.mem_of_getElem? (l := wsL_law_r23) (i := 13) rfl)
theorem m_23_14 : (Cond.instanceMethod yX11_pass) ∈ z_W := inr_23 (List.mem_of_getElem? (l := wsL_law_r23) (i := 14) rfl)
theorem m_23_15 : (Cond.selects RX11 yX11_pass yX11_pass) ∈ z_W := inr_23 (List.mem_of_getElem? (l := wsL_law_r23) (i := 15) rfl)
theorem m_23_16 : (Cond.code yX11_pass cX11_pass 3 (some .int)) ∈ z_W := inr_23 (List.mem_of_getElem? (l := wsL_law_r23) (i := 16) rfl)
theorem m_23_17 : (Cond.methodLink RX11 149 yX11_keep) ∈ z_W := inr_23 (List.mem_of_getElem? (l := wsL_law_r23) (i := 17) rfl)
theorem m_23_18 : (Cond.instanceMethod yX11_keep) ∈ z_W := inr_23 (List.mem_of_getElem? (l := wsL_law_r23) (i := 18) rfl)
theorem m_23_19 : (Cond.selects RX11 yX11_keep yX11_keep) ∈ z_W := inr_23 (List.mem_of_getElem? (l := wsL_law_r23) (i := 19) rfl)
theorem m_23_20 : (Cond.code yX11_keep cX11_keep 3 none) ∈ z_W := inr_23 (List.mem_of_getElem? (l := wsL_law_r23) (i := 20) rfl)
theorem m_23_21 : (Cond.methodLink RX11 115 yX11_pipeHas) ∈ z_W := inr_23 (List.mem_of_getElem? (l := wsL_law_r23) (i := 21) rfl)
theorem m_23_22 : (Cond.instanceMethod yX11_pipeHas) ∈ z_W := inr_23 (List.mem_of_getElem? (l := wsL_law_r23) (i := 22) rfl)
theorem m_23_23 : (Cond.selects RX11 yX11_pipeHas yX11_pipeHas) ∈ z_W := inr_23 (List.mem_of_getElem? (l := wsL_law_r23) (i := 23) rfl)
theorem inr_24 {w : Cond} (h : w ∈ wsL_law_r24) : w ∈ z_W := z_WL (by unfold wsL_law; simp only [List.mem_append, h, true_or, or_true])
theorem m_24_0 : (Cond.code yX11_pipeHas cX11_pipeHas 3 (some .int)) ∈ z_W := inr_24 (List.mem_of_getElem? (l := wsL_law_r24) (i := 0) rfl)
theorem m_24_1 : (Cond.methodLink RX11 152 yX11_layHand) ∈ z_W := inr_24 (List.mem_of_getElem? (l := wsL_law_r24) (i := 1) rfl)
theorem m_24_2 : (Cond.instanceMethod yX11_layHand) ∈ z_W := inr_24 (List.mem_of_getElem? (l := wsL_law_r24) (i := 2) rfl)
theorem m_24_3 : (Cond.selects RX11 yX11_layHand yX11_layHand) ∈ z_W := inr_24 (List.mem_of_getElem? (l := wsL_law_r24) (i := 3) rfl)
theorem m_24_4 : (Cond.code yX11_layHand cX11_layHand 2 none) ∈ z_W := inr_24 (List.mem_of_getElem? (l := wsL_law_r24) (i := 4) rfl)
theorem m_24_5 : (Cond.fieldLink RX11 111 "GonePipesModel" "hour" "I") ∈ z_W := inr_24 (List.mem_of_getElem? (l := wsL_law_r24) (i := 5) rfl)
theorem m_24_6 : (Cond.methodLink RX11 119 yX11_placeHas) ∈ z_W := inr_24 (List.mem_of_getElem? (l := wsL_law_r24) (i := 6) rfl)
theorem m_24_7 : (Cond.instanceMethod yX11_placeHas) ∈ z_W := inr_24 (List.mem_of_getElem? (l := wsL_law_r24) (i := 7) rfl)
theorem m_24_8 : (Cond.selects RX11 yX11_placeHas yX11_placeHas) ∈ z_W := inr_24 (List.mem_of_getElem? (l := wsL_law_r24) (i := 8) rfl)
theorem m_24_9 : (Cond.code yX11_placeHas cX11_placeHas 3 (some .int)) ∈ z_W := inr_24 (List.mem_of_getElem? (l := wsL_law_r24) (i := 9) rfl)
theorem m_24_10 : (Cond.methodLink RX11 144 yX11_goHour) ∈ z_W := inr_24 (List.mem_of_getElem? (l := wsL_law_r24) (i := 10) rfl)
theorem m_24_11 : (Cond.instanceMethod yX11_goHour) ∈ z_W := inr_24 (List.mem_of_getElem? (l := wsL_law_r24) (i := 11) rfl)
theorem m_24_12 : (Cond.selects RX11 yX11_goHour yX11_goHour) ∈ z_W := inr_24 (List.mem_of_getElem? (l := wsL_law_r24) (i := 12) rfl)
theorem m_24_13 : (Cond.code yX11_goHour cX11_goHour 2 none) ∈ z_W := inr_24 (List.mem_of_getElem? (l := wsL_law_r24) (i := 13) rfl)
theorem m_24_14 : (Cond.methodLink RX11 135 yX11_comesBack) ∈ z_W := inr_24 (List.mem_of_getElem? (l := wsL_law_r24) (i := 14) rfl)
theorem m_24_15 : (Cond.instanceMethod yX11_comesBack) ∈ z_W := inr_24 (List.mem_of_getElem? (l := wsL_law_r24) (i := 15) rfl)
theorem m_24_16 : (Cond.selects RX11 yX11_comesBack yX11_comesBack) ∈ z_W := inr_24 (List.mem_of_getElem? (l := wsL_law_r24) (i := 16) rfl)
theorem m_24_17 : (Cond.code yX11_comesBack cX11_comesBack 3 (some .boolean)) ∈ z_W := inr_24 (List.mem_of_getElem? (l := wsL_law_r24) (i := 17) rfl)
theorem m_24_18 : (Cond.methodLink RX11 129 yX11_isWished) ∈ z_W := inr_24 (List.mem_of_getElem? (l := wsL_law_r24) (i := 18) rfl)
theorem m_24_19 : (Cond.instanceMethod yX11_isWished) ∈ z_W := inr_24 (List.mem_of_getElem? (l := wsL_law_r24) (i := 19) rfl)
theorem m_24_20 : (Cond.selects RX11 yX11_isWished yX11_isWished) ∈ z_W := inr_24 (List.mem_of_getElem? (l := wsL_law_r24) (i := 20) rfl)
theorem m_24_21 : (Cond.code yX11_isWished cX11_isWished 2 (some .boolean)) ∈ z_W := inr_24 (List.mem_of_getElem? (l := wsL_law_r24) (i := 21) rfl)
theorem m_24_22 : (Cond.methodLink RX11 138 yX11_goes) ∈ z_W := inr_24 (List.mem_of_getElem? (l := wsL_law_r24) (i := 22) rfl)
theorem m_24_23 : (Cond.instanceMethod yX11_goes) ∈ z_W := inr_24 (List.mem_of_getElem? (l := wsL_law_r24) (i := 23) rfl)
theorem inr_25 {w : Cond} (h : w ∈ wsL_law_r25) : w ∈ z_W := z_WL (by unfold wsL_law; simp only [List.mem_append, h, true_or, or_true])
theorem m_25_0 : (Cond.selects RX11 yX11_goes yX11_goes) ∈ z_W := inr_25 (List.mem_of_getElem? (l := wsL_law_r25) (i := 0) rfl)
theorem m_25_1 : (Cond.code yX11_goes cX11_goes 2 (some .boolean)) ∈ z_W := inr_25 (List.mem_of_getElem? (l := wsL_law_r25) (i := 1) rfl)
theorem m_25_2 : (Cond.methodLink RX11 122 yX11_isOtherAway) ∈ z_W := inr_25 (List.mem_of_getElem? (l := wsL_law_r25) (i := 2) rfl)
theorem m_25_3 : (Cond.instanceMethod yX11_isOtherAway) ∈ z_W := inr_25 (List.mem_of_getElem? (l := wsL_law_r25) (i := 3) rfl)
theorem m_25_4 : (Cond.selects RX11 yX11_isOtherAway yX11_isOtherAway) ∈ z_W := inr_25 (List.mem_of_getElem? (l := wsL_law_r25) (i := 4) rfl)
theorem m_25_5 : (Cond.code yX11_isOtherAway cX11_isOtherAway 4 (some .boolean)) ∈ z_W := inr_25 (List.mem_of_getElem? (l := wsL_law_r25) (i := 5) rfl)
theorem m_25_6 : (Cond.methodLink RX11 125 yX11_isNight) ∈ z_W := inr_25 (List.mem_of_getElem? (l := wsL_law_r25) (i := 6) rfl)
theorem m_25_7 : (Cond.instanceMethod yX11_isNight) ∈ z_W := inr_25 (List.mem_of_getElem? (l := wsL_law_r25) (i := 7) rfl)
theorem m_25_8 : (Cond.selects RX11 yX11_isNight yX11_isNight) ∈ z_W := inr_25 (List.mem_of_getElem? (l := wsL_law_r25) (i := 8) rfl)
theorem m_25_9 : (Cond.code yX11_isNight cX11_isNight 1 (some .boolean)) ∈ z_W := inr_25 (List.mem_of_getElem? (l := wsL_law_r25) (i := 9) rfl)
theorem m_25_10 : (Cond.methodLink RX11 141 yX11_placeFor) ∈ z_W := inr_25 (List.mem_of_getElem? (l := wsL_law_r25) (i := 10) rfl)
theorem m_25_11 : (Cond.instanceMethod yX11_placeFor) ∈ z_W := inr_25 (List.mem_of_getElem? (l := wsL_law_r25) (i := 11) rfl)
theorem m_25_12 : (Cond.selects RX11 yX11_placeFor yX11_placeFor) ∈ z_W := inr_25 (List.mem_of_getElem? (l := wsL_law_r25) (i := 12) rfl)
theorem m_25_13 : (Cond.code yX11_placeFor cX11_placeFor 3 (some .int)) ∈ z_W := inr_25 (List.mem_of_getElem? (l := wsL_law_r25) (i := 13) rfl)
theorem m_25_14 : (Cond.methodLink RX11 132 yX11_isTaken) ∈ z_W := inr_25 (List.mem_of_getElem? (l := wsL_law_r25) (i := 14) rfl)
theorem m_25_15 : (Cond.instanceMethod yX11_isTaken) ∈ z_W := inr_25 (List.mem_of_getElem? (l := wsL_law_r25) (i := 15) rfl)
theorem m_25_16 : (Cond.selects RX11 yX11_isTaken yX11_isTaken) ∈ z_W := inr_25 (List.mem_of_getElem? (l := wsL_law_r25) (i := 16) rfl)
theorem m_25_17 : (Cond.code yX11_isTaken cX11_isTaken 4 (some .boolean)) ∈ z_W := inr_25 (List.mem_of_getElem? (l := wsL_law_r25) (i := 17) rfl)
theorem m_25_18 : (Cond.methodLink RX11 155 yX11_layNow) ∈ z_W := inr_25 (List.mem_of_getElem? (l := wsL_law_r25) (i := 18) rfl)
theorem m_25_19 : (Cond.instanceMethod yX11_layNow) ∈ z_W := inr_25 (List.mem_of_getElem? (l := wsL_law_r25) (i := 19) rfl)
theorem m_25_20 : (Cond.selects RX11 yX11_layNow yX11_layNow) ∈ z_W := inr_25 (List.mem_of_getElem? (l := wsL_law_r25) (i := 20) rfl)
theorem m_25_21 : (Cond.code yX11_layNow cX11_layNow 2 none) ∈ z_W := inr_25 (List.mem_of_getElem? (l := wsL_law_r25) (i := 21) rfl)
theorem m_25_22 : (Cond.methodLink RX11 158 yX11_inChurch) ∈ z_W := inr_25 (List.mem_of_getElem? (l := wsL_law_r25) (i := 22) rfl)
theorem m_25_23 : (Cond.instanceMethod yX11_inChurch) ∈ z_W := inr_25 (List.mem_of_getElem? (l := wsL_law_r25) (i := 23) rfl)
theorem inr_26 {w : Cond} (h : w ∈ wsL_law_r26) : w ∈ z_W := z_WL (by unfold wsL_law; simp only [List.mem_append, h, true_or, or_true])
theorem m_26_0 : (Cond.selects RX11 yX11_inChurch yX11_inChurch) ∈ z_W := inr_26 (List.mem_of_getElem? (l := wsL_law_r26) (i := 0) rfl)
theorem m_26_1 : (Cond.code yX11_inChurch cX11_inChurch 3 (some .int)) ∈ z_W := inr_26 (List.mem_of_getElem? (l := wsL_law_r26) (i := 1) rfl)
theorem m_26_2 : (Cond.methodLink RX11 161 yX11_bits) ∈ z_W := inr_26 (List.mem_of_getElem? (l := wsL_law_r26) (i := 2) rfl)
theorem m_26_3 : (Cond.static yX11_bits) ∈ z_W := inr_26 (List.mem_of_getElem? (l := wsL_law_r26) (i := 3) rfl)
theorem m_26_4 : (Cond.code yX11_bits cX11_bits 3 (some .int)) ∈ z_W := inr_26 (List.mem_of_getElem? (l := wsL_law_r26) (i := 4) rfl)
theorem m_26_5 : (Cond.methodLink RL 53 yX10_fetch) ∈ z_W := inr_26 (List.mem_of_getElem? (l := wsL_law_r26) (i := 5) rfl)
theorem m_26_6 : (Cond.instanceMethod yX10_fetch) ∈ z_W := inr_26 (List.mem_of_getElem? (l := wsL_law_r26) (i := 6) rfl)
theorem m_26_7 : (Cond.selects RX10 yX10_fetch yX10_fetch) ∈ z_W := inr_26 (List.mem_of_getElem? (l := wsL_law_r26) (i := 7) rfl)
theorem m_26_8 : (Cond.code yX10_fetch cX10_fetch 3 (some .int)) ∈ z_W := inr_26 (List.mem_of_getElem? (l := wsL_law_r26) (i := 8) rfl)
theorem m_26_9 : (Cond.fieldLink RX10 150 "GonePipes$Organ" "where" "[I") ∈ z_W := inr_26 (List.mem_of_getElem? (l := wsL_law_r26) (i := 9) rfl)
theorem m_26_10 : (Cond.methodLink RX10 147 yX10_isPipe) ∈ z_W := inr_26 (List.mem_of_getElem? (l := wsL_law_r26) (i := 10) rfl)
theorem m_26_11 : (Cond.instanceMethod yX10_isPipe) ∈ z_W := inr_26 (List.mem_of_getElem? (l := wsL_law_r26) (i := 11) rfl)
theorem m_26_12 : (Cond.selects RX10 yX10_isPipe yX10_isPipe) ∈ z_W := inr_26 (List.mem_of_getElem? (l := wsL_law_r26) (i := 12) rfl)
theorem m_26_13 : (Cond.code yX10_isPipe cX10_isPipe 2 (some .boolean)) ∈ z_W := inr_26 (List.mem_of_getElem? (l := wsL_law_r26) (i := 13) rfl)
theorem m_26_14 : (Cond.methodLink RX10 153 yX10_refuseNo) ∈ z_W := inr_26 (List.mem_of_getElem? (l := wsL_law_r26) (i := 14) rfl)
theorem m_26_15 : (Cond.instanceMethod yX10_refuseNo) ∈ z_W := inr_26 (List.mem_of_getElem? (l := wsL_law_r26) (i := 15) rfl)
theorem m_26_16 : (Cond.selects RX10 yX10_refuseNo yX10_refuseNo) ∈ z_W := inr_26 (List.mem_of_getElem? (l := wsL_law_r26) (i := 16) rfl)
theorem m_26_17 : (Cond.code yX10_refuseNo cX10_refuseNo 1 (some .int)) ∈ z_W := inr_26 (List.mem_of_getElem? (l := wsL_law_r26) (i := 17) rfl)
theorem m_26_18 : (Cond.fieldLink RX10 294 "GonePipes" "refusedNo" "I") ∈ z_W := inr_26 (List.mem_of_getElem? (l := wsL_law_r26) (i := 18) rfl)
theorem m_26_19 : (Cond.methodLink RX10 156 yX4_bringHome) ∈ z_W := inr_26 (List.mem_of_getElem? (l := wsL_law_r26) (i := 19) rfl)
theorem m_26_20 : (Cond.methodLink RL 56 yX11_fetch) ∈ z_W := inr_26 (List.mem_of_getElem? (l := wsL_law_r26) (i := 20) rfl)
theorem m_26_21 : (Cond.instanceMethod yX11_fetch) ∈ z_W := inr_26 (List.mem_of_getElem? (l := wsL_law_r26) (i := 21) rfl)
theorem m_26_22 : (Cond.selects RX11 yX11_fetch yX11_fetch) ∈ z_W := inr_26 (List.mem_of_getElem? (l := wsL_law_r26) (i := 22) rfl)
theorem m_26_23 : (Cond.code yX11_fetch cX11_fetch 3 (some .int)) ∈ z_W := inr_26 (List.mem_of_getElem? (l := wsL_law_r26) (i := 23) rfl)
theorem inr_27 {w : Cond} (h : w ∈ wsL_law_r27) : w ∈ z_W := z_WL (by unfold wsL_law; simp only [List.mem_append, h, true_or, or_true])
theorem m_27_0 : (Cond.methodLink RX11 164 yX11_isPipe) ∈ z_W := inr_27 (List.mem_of_getElem? (l := wsL_law_r27) (i := 0) rfl)
theorem m_27_1 : (Cond.instanceMethod yX11_isPipe) ∈ z_W := inr_27 (List.mem_of_getElem? (l := wsL_law_r27) (i := 1) rfl)
theorem m_27_2 : (Cond.selects RX11 yX11_isPipe yX11_isPipe) ∈ z_W := inr_27 (List.mem_of_getElem? (l := wsL_law_r27) (i := 2) rfl)
theorem m_27_3 : (Cond.code yX11_isPipe cX11_isPipe 2 (some .boolean)) ∈ z_W := inr_27 (List.mem_of_getElem? (l := wsL_law_r27) (i := 3) rfl)
theorem m_27_4 : (Cond.methodLink RX11 167 yX11_no) ∈ z_W := inr_27 (List.mem_of_getElem? (l := wsL_law_r27) (i := 4) rfl)
theorem m_27_5 : (Cond.instanceMethod yX11_no) ∈ z_W := inr_27 (List.mem_of_getElem? (l := wsL_law_r27) (i := 5) rfl)
theorem m_27_6 : (Cond.selects RX11 yX11_no yX11_no) ∈ z_W := inr_27 (List.mem_of_getElem? (l := wsL_law_r27) (i := 6) rfl)
theorem m_27_7 : (Cond.code yX11_no cX11_no 1 (some .int)) ∈ z_W := inr_27 (List.mem_of_getElem? (l := wsL_law_r27) (i := 7) rfl)
theorem m_27_8 : (Cond.methodLink RL 57 yX10_undo) ∈ z_W := inr_27 (List.mem_of_getElem? (l := wsL_law_r27) (i := 8) rfl)
theorem m_27_9 : (Cond.instanceMethod yX10_undo) ∈ z_W := inr_27 (List.mem_of_getElem? (l := wsL_law_r27) (i := 9) rfl)
theorem m_27_10 : (Cond.selects RX10 yX10_undo yX10_undo) ∈ z_W := inr_27 (List.mem_of_getElem? (l := wsL_law_r27) (i := 10) rfl)
theorem m_27_11 : (Cond.code yX10_undo cX10_undo 1 (some .int)) ∈ z_W := inr_27 (List.mem_of_getElem? (l := wsL_law_r27) (i := 11) rfl)
theorem m_27_12 : (Cond.fieldLink RX10 163 "GonePipes$Organ" "hour" "I") ∈ z_W := inr_27 (List.mem_of_getElem? (l := wsL_law_r27) (i := 12) rfl)
theorem m_27_13 : (Cond.methodLink RX10 159 yX5_giveBack) ∈ z_W := inr_27 (List.mem_of_getElem? (l := wsL_law_r27) (i := 13) rfl)
theorem m_27_14 : (Cond.instanceMethod yX5_giveBack) ∈ z_W := inr_27 (List.mem_of_getElem? (l := wsL_law_r27) (i := 14) rfl)
theorem m_27_15 : (Cond.selects RX5 yX5_giveBack yX5_giveBack) ∈ z_W := inr_27 (List.mem_of_getElem? (l := wsL_law_r27) (i := 15) rfl)
theorem m_27_16 : (Cond.code yX5_giveBack cX5_giveBack 3 (some .boolean)) ∈ z_W := inr_27 (List.mem_of_getElem? (l := wsL_law_r27) (i := 16) rfl)
theorem m_27_17 : (Cond.methodLink RL 60 yX11_undo) ∈ z_W := inr_27 (List.mem_of_getElem? (l := wsL_law_r27) (i := 17) rfl)
theorem m_27_18 : (Cond.instanceMethod yX11_undo) ∈ z_W := inr_27 (List.mem_of_getElem? (l := wsL_law_r27) (i := 18) rfl)
theorem m_27_19 : (Cond.selects RX11 yX11_undo yX11_undo) ∈ z_W := inr_27 (List.mem_of_getElem? (l := wsL_law_r27) (i := 19) rfl)
theorem m_27_20 : (Cond.code yX11_undo cX11_undo 3 (some .int)) ∈ z_W := inr_27 (List.mem_of_getElem? (l := wsL_law_r27) (i := 20) rfl)
theorem m_27_21 : (Cond.methodLink RL 61 yX10_of) ∈ z_W := inr_27 (List.mem_of_getElem? (l := wsL_law_r27) (i := 21) rfl)
theorem m_27_22 : (Cond.instanceMethod yX10_of) ∈ z_W := inr_27 (List.mem_of_getElem? (l := wsL_law_r27) (i := 22) rfl)
theorem m_27_23 : (Cond.selects RX10 yX10_of yX10_of) ∈ z_W := inr_27 (List.mem_of_getElem? (l := wsL_law_r27) (i := 23) rfl)
theorem inr_28 {w : Cond} (h : w ∈ wsL_law_r28) : w ∈ z_W := z_WL (by unfold wsL_law; simp only [List.mem_append, h, true_or, or_true])
theorem m_28_0 : (Cond.code yX10_of cX10_of 3 (some .int)) ∈ z_W := inr_28 (List.mem_of_getElem? (l := wsL_law_r28) (i := 0) rfl)
theorem m_28_1 : (Cond.fieldLink RX10 169 "GonePipes$Organ" "kind" "[I") ∈ z_W := inr_28 (List.mem_of_getElem? (l := wsL_law_r28) (i := 1) rfl)
theorem m_28_2 : (Cond.fieldLink RX10 172 "GonePipes$Organ" "note" "[I") ∈ z_W := inr_28 (List.mem_of_getElem? (l := wsL_law_r28) (i := 2) rfl)
theorem m_28_3 : (Cond.fieldLink RX10 175 "GonePipes$Organ" "away" "[I") ∈ z_W := inr_28 (List.mem_of_getElem? (l := wsL_law_r28) (i := 3) rfl)
theorem m_28_4 : (Cond.methodLink RX10 166 yX10_refuseBadTen) ∈ z_W := inr_28 (List.mem_of_getElem? (l := wsL_law_r28) (i := 4) rfl)
theorem m_28_5 : (Cond.instanceMethod yX10_refuseBadTen) ∈ z_W := inr_28 (List.mem_of_getElem? (l := wsL_law_r28) (i := 5) rfl)
theorem m_28_6 : (Cond.selects RX10 yX10_refuseBadTen yX10_refuseBadTen) ∈ z_W := inr_28 (List.mem_of_getElem? (l := wsL_law_r28) (i := 6) rfl)
theorem m_28_7 : (Cond.code yX10_refuseBadTen cX10_refuseBadTen 1 (some .int)) ∈ z_W := inr_28 (List.mem_of_getElem? (l := wsL_law_r28) (i := 7) rfl)
theorem m_28_8 : (Cond.methodLink RX10 178 yX4_wouldGo) ∈ z_W := inr_28 (List.mem_of_getElem? (l := wsL_law_r28) (i := 8) rfl)
theorem m_28_9 : (Cond.instanceMethod yX4_wouldGo) ∈ z_W := inr_28 (List.mem_of_getElem? (l := wsL_law_r28) (i := 9) rfl)
theorem m_28_10 : (Cond.selects RX4 yX4_wouldGo yX4_wouldGo) ∈ z_W := inr_28 (List.mem_of_getElem? (l := wsL_law_r28) (i := 10) rfl)
theorem m_28_11 : (Cond.code yX4_wouldGo cX4_wouldGo 3 (some .boolean)) ∈ z_W := inr_28 (List.mem_of_getElem? (l := wsL_law_r28) (i := 11) rfl)
theorem m_28_12 : (Cond.methodLink RL 64 yX11_of) ∈ z_W := inr_28 (List.mem_of_getElem? (l := wsL_law_r28) (i := 12) rfl)
theorem m_28_13 : (Cond.instanceMethod yX11_of) ∈ z_W := inr_28 (List.mem_of_getElem? (l := wsL_law_r28) (i := 13) rfl)
theorem m_28_14 : (Cond.selects RX11 yX11_of yX11_of) ∈ z_W := inr_28 (List.mem_of_getElem? (l := wsL_law_r28) (i := 14) rfl)
theorem m_28_15 : (Cond.code yX11_of cX11_of 3 (some .int)) ∈ z_W := inr_28 (List.mem_of_getElem? (l := wsL_law_r28) (i := 15) rfl)
theorem m_28_16 : (Cond.constantLong RX11 170 (4)) ∈ z_W := inr_28 (List.mem_of_getElem? (l := wsL_law_r28) (i := 16) rfl)
theorem m_28_17 : (Cond.methodLink RL 65 yX10_at) ∈ z_W := inr_28 (List.mem_of_getElem? (l := wsL_law_r28) (i := 17) rfl)
theorem m_28_18 : (Cond.instanceMethod yX10_at) ∈ z_W := inr_28 (List.mem_of_getElem? (l := wsL_law_r28) (i := 18) rfl)
theorem m_28_19 : (Cond.selects RX10 yX10_at yX10_at) ∈ z_W := inr_28 (List.mem_of_getElem? (l := wsL_law_r28) (i := 19) rfl)
theorem m_28_20 : (Cond.code yX10_at cX10_at 3 (some .int)) ∈ z_W := inr_28 (List.mem_of_getElem? (l := wsL_law_r28) (i := 20) rfl)
theorem m_28_21 : (Cond.methodLink RX10 182 yX10_isPlace) ∈ z_W := inr_28 (List.mem_of_getElem? (l := wsL_law_r28) (i := 21) rfl)
theorem m_28_22 : (Cond.instanceMethod yX10_isPlace) ∈ z_W := inr_28 (List.mem_of_getElem? (l := wsL_law_r28) (i := 22) rfl)
theorem m_28_23 : (Cond.selects RX10 yX10_isPlace yX10_isPlace) ∈ z_W := inr_28 (List.mem_of_getElem? (l := wsL_law_r28) (i := 23) rfl)
theorem inr_29 {w : Cond} (h : w ∈ wsL_law_r29) : w ∈ z_W := z_WL (by unfold wsL_law; simp only [List.mem_append, h, true_or, or_true])
theorem m_29_0 : (Cond.code yX10_isPlace cX10_isPlace 2 (some .boolean)) ∈ z_W := inr_29 (List.mem_of_getElem? (l := wsL_law_r29) (i := 0) rfl)
theorem m_29_1 : (Cond.methodLink RX10 185 yX4_toneWishedAt) ∈ z_W := inr_29 (List.mem_of_getElem? (l := wsL_law_r29) (i := 1) rfl)
theorem m_29_2 : (Cond.methodLink RX10 189 yX4_isWished) ∈ z_W := inr_29 (List.mem_of_getElem? (l := wsL_law_r29) (i := 2) rfl)
theorem m_29_3 : (Cond.methodLink RX10 192 yX4_pipesAt) ∈ z_W := inr_29 (List.mem_of_getElem? (l := wsL_law_r29) (i := 3) rfl)
theorem m_29_4 : (Cond.methodLink RX10 195 yX4_howFar) ∈ z_W := inr_29 (List.mem_of_getElem? (l := wsL_law_r29) (i := 4) rfl)
theorem m_29_5 : (Cond.instanceMethod yX4_howFar) ∈ z_W := inr_29 (List.mem_of_getElem? (l := wsL_law_r29) (i := 5) rfl)
theorem m_29_6 : (Cond.selects RX4 yX4_howFar yX4_howFar) ∈ z_W := inr_29 (List.mem_of_getElem? (l := wsL_law_r29) (i := 6) rfl)
theorem m_29_7 : (Cond.code yX4_howFar cX4_howFar 3 (some .int)) ∈ z_W := inr_29 (List.mem_of_getElem? (l := wsL_law_r29) (i := 7) rfl)
theorem m_29_8 : (Cond.methodLink RX4 110 Lib.Math.abs.name) ∈ z_W := inr_29 (List.mem_of_getElem? (l := wsL_law_r29) (i := 8) rfl)
theorem m_29_9 : (Cond.static Lib.Math.abs.name) ∈ z_W := inr_29 (List.mem_of_getElem? (l := wsL_law_r29) (i := 9) rfl)
theorem m_29_10 : (Cond.initialized "java/lang/Math") ∈ z_W := inr_29 (List.mem_of_getElem? (l := wsL_law_r29) (i := 10) rfl)
theorem m_29_11 : (Cond.code Lib.Math.abs.name Lib.Math.abs.code 1 (some .int)) ∈ z_W := inr_29 (List.mem_of_getElem? (l := wsL_law_r29) (i := 11) rfl)
theorem m_29_12 : (Cond.methodLink RX4 107 yX4_eastOf) ∈ z_W := inr_29 (List.mem_of_getElem? (l := wsL_law_r29) (i := 12) rfl)
theorem m_29_13 : (Cond.instanceMethod yX4_eastOf) ∈ z_W := inr_29 (List.mem_of_getElem? (l := wsL_law_r29) (i := 13) rfl)
theorem m_29_14 : (Cond.selects RX4 yX4_eastOf yX4_eastOf) ∈ z_W := inr_29 (List.mem_of_getElem? (l := wsL_law_r29) (i := 14) rfl)
theorem m_29_15 : (Cond.code yX4_eastOf cX4_eastOf 2 (some .int)) ∈ z_W := inr_29 (List.mem_of_getElem? (l := wsL_law_r29) (i := 15) rfl)
theorem m_29_16 : (Cond.methodLink RX4 115 yX4_northOf) ∈ z_W := inr_29 (List.mem_of_getElem? (l := wsL_law_r29) (i := 16) rfl)
theorem m_29_17 : (Cond.instanceMethod yX4_northOf) ∈ z_W := inr_29 (List.mem_of_getElem? (l := wsL_law_r29) (i := 17) rfl)
theorem m_29_18 : (Cond.selects RX4 yX4_northOf yX4_northOf) ∈ z_W := inr_29 (List.mem_of_getElem? (l := wsL_law_r29) (i := 18) rfl)
theorem m_29_19 : (Cond.code yX4_northOf cX4_northOf 2 (some .int)) ∈ z_W := inr_29 (List.mem_of_getElem? (l := wsL_law_r29) (i := 19) rfl)
theorem m_29_20 : (Cond.methodLink RL 68 yX11_at) ∈ z_W := inr_29 (List.mem_of_getElem? (l := wsL_law_r29) (i := 20) rfl)
theorem m_29_21 : (Cond.instanceMethod yX11_at) ∈ z_W := inr_29 (List.mem_of_getElem? (l := wsL_law_r29) (i := 21) rfl)
theorem m_29_22 : (Cond.selects RX11 yX11_at yX11_at) ∈ z_W := inr_29 (List.mem_of_getElem? (l := wsL_law_r29) (i := 22) rfl)
theorem m_29_23 : (Cond.code yX11_at cX11_at 5 (some .int)) ∈ z_W := inr_29 (List.mem_of_getElem? (l := wsL_law_r29) (i := 23) rfl)
theorem inr_30 {w : Cond} (h : w ∈ wsL_law_r30) : w ∈ z_W := z_WL (by unfold wsL_law; simp only [List.mem_append, h, true_or, or_true])
theorem m_30_0 : (Cond.constantLong RX11 175 (3)) ∈ z_W := inr_30 (List.mem_of_getElem? (l := wsL_law_r30) (i := 0) rfl)
theorem m_30_1 : (Cond.methodLink RX11 172 yX11_isPlace) ∈ z_W := inr_30 (List.mem_of_getElem? (l := wsL_law_r30) (i := 1) rfl)
theorem m_30_2 : (Cond.instanceMethod yX11_isPlace) ∈ z_W := inr_30 (List.mem_of_getElem? (l := wsL_law_r30) (i := 2) rfl)
theorem m_30_3 : (Cond.selects RX11 yX11_isPlace yX11_isPlace) ∈ z_W := inr_30 (List.mem_of_getElem? (l := wsL_law_r30) (i := 3) rfl)
theorem m_30_4 : (Cond.code yX11_isPlace cX11_isPlace 2 (some .boolean)) ∈ z_W := inr_30 (List.mem_of_getElem? (l := wsL_law_r30) (i := 4) rfl)
theorem m_30_5 : (Cond.methodLink RX11 177 yX11_farOf) ∈ z_W := inr_30 (List.mem_of_getElem? (l := wsL_law_r30) (i := 5) rfl)
theorem m_30_6 : (Cond.instanceMethod yX11_farOf) ∈ z_W := inr_30 (List.mem_of_getElem? (l := wsL_law_r30) (i := 6) rfl)
theorem m_30_7 : (Cond.selects RX11 yX11_farOf yX11_farOf) ∈ z_W := inr_30 (List.mem_of_getElem? (l := wsL_law_r30) (i := 7) rfl)
theorem m_30_8 : (Cond.code yX11_farOf cX11_farOf 2 (some .int)) ∈ z_W := inr_30 (List.mem_of_getElem? (l := wsL_law_r30) (i := 8) rfl)
theorem m_30_9 : (Cond.methodLink RL 69 yX10_then) ∈ z_W := inr_30 (List.mem_of_getElem? (l := wsL_law_r30) (i := 9) rfl)
theorem m_30_10 : (Cond.instanceMethod yX10_then) ∈ z_W := inr_30 (List.mem_of_getElem? (l := wsL_law_r30) (i := 10) rfl)
theorem m_30_11 : (Cond.selects RX10 yX10_then yX10_then) ∈ z_W := inr_30 (List.mem_of_getElem? (l := wsL_law_r30) (i := 11) rfl)
theorem m_30_12 : (Cond.code yX10_then cX10_then 3 (some .int)) ∈ z_W := inr_30 (List.mem_of_getElem? (l := wsL_law_r30) (i := 12) rfl)
theorem m_30_13 : (Cond.methodLink RX10 199 yX4_takeStage) ∈ z_W := inr_30 (List.mem_of_getElem? (l := wsL_law_r30) (i := 13) rfl)
theorem m_30_14 : (Cond.methodLink RX10 202 yX10_tryHours) ∈ z_W := inr_30 (List.mem_of_getElem? (l := wsL_law_r30) (i := 14) rfl)
theorem m_30_15 : (Cond.instanceMethod yX10_tryHours) ∈ z_W := inr_30 (List.mem_of_getElem? (l := wsL_law_r30) (i := 15) rfl)
theorem m_30_16 : (Cond.selects RX10 yX10_tryHours yX10_tryHours) ∈ z_W := inr_30 (List.mem_of_getElem? (l := wsL_law_r30) (i := 16) rfl)
theorem m_30_17 : (Cond.code yX10_tryHours cX10_tryHours 3 none) ∈ z_W := inr_30 (List.mem_of_getElem? (l := wsL_law_r30) (i := 17) rfl)
theorem m_30_18 : (Cond.methodLink RL 72 yX11_then) ∈ z_W := inr_30 (List.mem_of_getElem? (l := wsL_law_r30) (i := 18) rfl)
theorem m_30_19 : (Cond.instanceMethod yX11_then) ∈ z_W := inr_30 (List.mem_of_getElem? (l := wsL_law_r30) (i := 19) rfl)
theorem m_30_20 : (Cond.selects RX11 yX11_then yX11_then) ∈ z_W := inr_30 (List.mem_of_getElem? (l := wsL_law_r30) (i := 20) rfl)
theorem m_30_21 : (Cond.code yX11_then cX11_then 3 (some .int)) ∈ z_W := inr_30 (List.mem_of_getElem? (l := wsL_law_r30) (i := 21) rfl)
theorem m_30_22 : (Cond.methodLink RX11 180 yX11_isThen) ∈ z_W := inr_30 (List.mem_of_getElem? (l := wsL_law_r30) (i := 22) rfl)
theorem m_30_23 : (Cond.static yX11_isThen) ∈ z_W := inr_30 (List.mem_of_getElem? (l := wsL_law_r30) (i := 23) rfl)
theorem inr_31 {w : Cond} (h : w ∈ wsL_law_r31) : w ∈ z_W := z_WL (by unfold wsL_law; simp only [List.mem_append, h, true_or, or_true])
theorem m_31_0 : (Cond.code yX11_isThen cX11_isThen 1 (some .boolean)) ∈ z_W := inr_31 (List.mem_of_getElem? (l := wsL_law_r31) (i := 0) rfl)
theorem m_31_1 : (Cond.constantLong RX11 71 (72)) ∈ z_W := inr_31 (List.mem_of_getElem? (l := wsL_law_r31) (i := 1) rfl)
theorem m_31_2 : (Cond.methodLink RX11 183 yX11_goHours) ∈ z_W := inr_31 (List.mem_of_getElem? (l := wsL_law_r31) (i := 2) rfl)
theorem m_31_3 : (Cond.instanceMethod yX11_goHours) ∈ z_W := inr_31 (List.mem_of_getElem? (l := wsL_law_r31) (i := 3) rfl)
theorem m_31_4 : (Cond.selects RX11 yX11_goHours yX11_goHours) ∈ z_W := inr_31 (List.mem_of_getElem? (l := wsL_law_r31) (i := 4) rfl)
theorem m_31_5 : (Cond.code yX11_goHours cX11_goHours 3 none) ∈ z_W := inr_31 (List.mem_of_getElem? (l := wsL_law_r31) (i := 5) rfl)
theorem m_31_6 : (Cond.methodLink RL 73 yX10_left) ∈ z_W := inr_31 (List.mem_of_getElem? (l := wsL_law_r31) (i := 6) rfl)
theorem m_31_7 : (Cond.instanceMethod yX10_left) ∈ z_W := inr_31 (List.mem_of_getElem? (l := wsL_law_r31) (i := 7) rfl)
theorem m_31_8 : (Cond.selects RX10 yX10_left yX10_left) ∈ z_W := inr_31 (List.mem_of_getElem? (l := wsL_law_r31) (i := 8) rfl)
theorem m_31_9 : (Cond.code yX10_left cX10_left 2 (some .int)) ∈ z_W := inr_31 (List.mem_of_getElem? (l := wsL_law_r31) (i := 9) rfl)
theorem m_31_10 : (Cond.methodLink RL 76 yX11_left) ∈ z_W := inr_31 (List.mem_of_getElem? (l := wsL_law_r31) (i := 10) rfl)
theorem m_31_11 : (Cond.instanceMethod yX11_left) ∈ z_W := inr_31 (List.mem_of_getElem? (l := wsL_law_r31) (i := 11) rfl)
theorem m_31_12 : (Cond.selects RX11 yX11_left yX11_left) ∈ z_W := inr_31 (List.mem_of_getElem? (l := wsL_law_r31) (i := 12) rfl)
theorem m_31_13 : (Cond.code yX11_left cX11_left 2 (some .int)) ∈ z_W := inr_31 (List.mem_of_getElem? (l := wsL_law_r31) (i := 13) rfl)
theorem m_31_14 : (Cond.methodLink RL 77 yX10_plays) ∈ z_W := inr_31 (List.mem_of_getElem? (l := wsL_law_r31) (i := 14) rfl)
theorem m_31_15 : (Cond.instanceMethod yX10_plays) ∈ z_W := inr_31 (List.mem_of_getElem? (l := wsL_law_r31) (i := 15) rfl)
theorem m_31_16 : (Cond.selects RX10 yX10_plays yX10_plays) ∈ z_W := inr_31 (List.mem_of_getElem? (l := wsL_law_r31) (i := 16) rfl)
theorem m_31_17 : (Cond.code yX10_plays cX10_plays 3 (some .int)) ∈ z_W := inr_31 (List.mem_of_getElem? (l := wsL_law_r31) (i := 17) rfl)
theorem m_31_18 : (Cond.methodLink RX10 205 yX10_isShift) ∈ z_W := inr_31 (List.mem_of_getElem? (l := wsL_law_r31) (i := 18) rfl)
theorem m_31_19 : (Cond.static yX10_isShift) ∈ z_W := inr_31 (List.mem_of_getElem? (l := wsL_law_r31) (i := 19) rfl)
theorem m_31_20 : (Cond.code yX10_isShift cX10_isShift 1 (some .boolean)) ∈ z_W := inr_31 (List.mem_of_getElem? (l := wsL_law_r31) (i := 20) rfl)
theorem m_31_21 : (Cond.methodLink RX10 208 yX4_notesInChurch) ∈ z_W := inr_31 (List.mem_of_getElem? (l := wsL_law_r31) (i := 21) rfl)
theorem m_31_22 : (Cond.instanceMethod yX4_notesInChurch) ∈ z_W := inr_31 (List.mem_of_getElem? (l := wsL_law_r31) (i := 22) rfl)
theorem m_31_23 : (Cond.selects RX4 yX4_notesInChurch yX4_notesInChurch) ∈ z_W := inr_31 (List.mem_of_getElem? (l := wsL_law_r31) (i := 23) rfl)
theorem inr_32 {w : Cond} (h : w ∈ wsL_law_r32) : w ∈ z_W := z_WL (by unfold wsL_law; simp only [List.mem_append, h, true_or, or_true])
theorem m_32_0 : (Cond.code yX4_notesInChurch cX4_notesInChurch 4 (some .long)) ∈ z_W := inr_32 (List.mem_of_getElem? (l := wsL_law_r32) (i := 0) rfl)
theorem m_32_1 : (Cond.methodLink RX10 212 yX4_howManyPlayed) ∈ z_W := inr_32 (List.mem_of_getElem? (l := wsL_law_r32) (i := 1) rfl)
theorem m_32_2 : (Cond.instanceMethod yX4_howManyPlayed) ∈ z_W := inr_32 (List.mem_of_getElem? (l := wsL_law_r32) (i := 2) rfl)
theorem m_32_3 : (Cond.selects RX4 yX4_howManyPlayed yX4_howManyPlayed) ∈ z_W := inr_32 (List.mem_of_getElem? (l := wsL_law_r32) (i := 3) rfl)
theorem m_32_4 : (Cond.code yX4_howManyPlayed cX4_howManyPlayed 7 (some .int)) ∈ z_W := inr_32 (List.mem_of_getElem? (l := wsL_law_r32) (i := 4) rfl)
theorem m_32_5 : (Cond.methodLink RX4 118 yX4_hymnNote) ∈ z_W := inr_32 (List.mem_of_getElem? (l := wsL_law_r32) (i := 5) rfl)
theorem m_32_6 : (Cond.instanceMethod yX4_hymnNote) ∈ z_W := inr_32 (List.mem_of_getElem? (l := wsL_law_r32) (i := 6) rfl)
theorem m_32_7 : (Cond.selects RX4 yX4_hymnNote yX4_hymnNote) ∈ z_W := inr_32 (List.mem_of_getElem? (l := wsL_law_r32) (i := 7) rfl)
theorem m_32_8 : (Cond.code yX4_hymnNote cX4_hymnNote 3 (some .int)) ∈ z_W := inr_32 (List.mem_of_getElem? (l := wsL_law_r32) (i := 8) rfl)
theorem m_32_9 : (Cond.static yX10_hasNote) ∈ z_W := inr_32 (List.mem_of_getElem? (l := wsL_law_r32) (i := 9) rfl)
theorem m_32_10 : (Cond.code yX10_hasNote cX10_hasNote 3 (some .boolean)) ∈ z_W := inr_32 (List.mem_of_getElem? (l := wsL_law_r32) (i := 10) rfl)
theorem m_32_11 : (Cond.methodLink RL 80 yX11_plays) ∈ z_W := inr_32 (List.mem_of_getElem? (l := wsL_law_r32) (i := 11) rfl)
theorem m_32_12 : (Cond.instanceMethod yX11_plays) ∈ z_W := inr_32 (List.mem_of_getElem? (l := wsL_law_r32) (i := 12) rfl)
theorem m_32_13 : (Cond.selects RX11 yX11_plays yX11_plays) ∈ z_W := inr_32 (List.mem_of_getElem? (l := wsL_law_r32) (i := 13) rfl)
theorem m_32_14 : (Cond.code yX11_plays cX11_plays 3 (some .int)) ∈ z_W := inr_32 (List.mem_of_getElem? (l := wsL_law_r32) (i := 14) rfl)
theorem m_32_15 : (Cond.methodLink RX11 198 yX11_isShift) ∈ z_W := inr_32 (List.mem_of_getElem? (l := wsL_law_r32) (i := 15) rfl)
theorem m_32_16 : (Cond.static yX11_isShift) ∈ z_W := inr_32 (List.mem_of_getElem? (l := wsL_law_r32) (i := 16) rfl)
theorem m_32_17 : (Cond.code yX11_isShift cX11_isShift 1 (some .boolean)) ∈ z_W := inr_32 (List.mem_of_getElem? (l := wsL_law_r32) (i := 17) rfl)
theorem m_32_18 : (Cond.constantLong RX11 67 (-6)) ∈ z_W := inr_32 (List.mem_of_getElem? (l := wsL_law_r32) (i := 18) rfl)
theorem m_32_19 : (Cond.constantLong RX11 69 (6)) ∈ z_W := inr_32 (List.mem_of_getElem? (l := wsL_law_r32) (i := 19) rfl)
theorem m_32_20 : (Cond.methodLink RX11 201 yX11_churchNow) ∈ z_W := inr_32 (List.mem_of_getElem? (l := wsL_law_r32) (i := 20) rfl)
theorem m_32_21 : (Cond.instanceMethod yX11_churchNow) ∈ z_W := inr_32 (List.mem_of_getElem? (l := wsL_law_r32) (i := 21) rfl)
theorem m_32_22 : (Cond.selects RX11 yX11_churchNow yX11_churchNow) ∈ z_W := inr_32 (List.mem_of_getElem? (l := wsL_law_r32) (i := 22) rfl)
theorem m_32_23 : (Cond.code yX11_churchNow cX11_churchNow 1 (some .int)) ∈ z_W := inr_32 (List.mem_of_getElem? (l := wsL_law_r32) (i := 23) rfl)
theorem inr_33 {w : Cond} (h : w ∈ wsL_law_r33) : w ∈ z_W := z_WL (by unfold wsL_law; simp only [List.mem_append, h, true_or, or_true])
theorem m_33_0 : (Cond.methodLink RX11 194 yX11_playsBy) ∈ z_W := inr_33 (List.mem_of_getElem? (l := wsL_law_r33) (i := 0) rfl)
theorem m_33_1 : (Cond.instanceMethod yX11_playsBy) ∈ z_W := inr_33 (List.mem_of_getElem? (l := wsL_law_r33) (i := 1) rfl)
theorem m_33_2 : (Cond.selects RX11 yX11_playsBy yX11_playsBy) ∈ z_W := inr_33 (List.mem_of_getElem? (l := wsL_law_r33) (i := 2) rfl)
theorem m_33_3 : (Cond.code yX11_playsBy cX11_playsBy 6 (some .int)) ∈ z_W := inr_33 (List.mem_of_getElem? (l := wsL_law_r33) (i := 3) rfl)
theorem m_33_4 : (Cond.methodLink RX11 187 yX11_noteOf) ∈ z_W := inr_33 (List.mem_of_getElem? (l := wsL_law_r33) (i := 4) rfl)
theorem m_33_5 : (Cond.instanceMethod yX11_noteOf) ∈ z_W := inr_33 (List.mem_of_getElem? (l := wsL_law_r33) (i := 5) rfl)
theorem m_33_6 : (Cond.selects RX11 yX11_noteOf yX11_noteOf) ∈ z_W := inr_33 (List.mem_of_getElem? (l := wsL_law_r33) (i := 6) rfl)
theorem m_33_7 : (Cond.code yX11_noteOf cX11_noteOf 3 (some .int)) ∈ z_W := inr_33 (List.mem_of_getElem? (l := wsL_law_r33) (i := 7) rfl)
theorem m_33_8 : (Cond.methodLink RX11 190 yX11_isPlayed) ∈ z_W := inr_33 (List.mem_of_getElem? (l := wsL_law_r33) (i := 8) rfl)
theorem m_33_9 : (Cond.instanceMethod yX11_isPlayed) ∈ z_W := inr_33 (List.mem_of_getElem? (l := wsL_law_r33) (i := 9) rfl)
theorem m_33_10 : (Cond.selects RX11 yX11_isPlayed yX11_isPlayed) ∈ z_W := inr_33 (List.mem_of_getElem? (l := wsL_law_r33) (i := 10) rfl)
theorem m_33_11 : (Cond.code yX11_isPlayed cX11_isPlayed 5 (some .boolean)) ∈ z_W := inr_33 (List.mem_of_getElem? (l := wsL_law_r33) (i := 11) rfl)
theorem m_33_12 : (Cond.methodLink RL 81 yX10_best) ∈ z_W := inr_33 (List.mem_of_getElem? (l := wsL_law_r33) (i := 12) rfl)
theorem m_33_13 : (Cond.instanceMethod yX10_best) ∈ z_W := inr_33 (List.mem_of_getElem? (l := wsL_law_r33) (i := 13) rfl)
theorem m_33_14 : (Cond.selects RX10 yX10_best yX10_best) ∈ z_W := inr_33 (List.mem_of_getElem? (l := wsL_law_r33) (i := 14) rfl)
theorem m_33_15 : (Cond.code yX10_best cX10_best 9 (some .int)) ∈ z_W := inr_33 (List.mem_of_getElem? (l := wsL_law_r33) (i := 15) rfl)
theorem m_33_16 : (Cond.methodLink RL 84 yX11_best) ∈ z_W := inr_33 (List.mem_of_getElem? (l := wsL_law_r33) (i := 16) rfl)
theorem m_33_17 : (Cond.instanceMethod yX11_best) ∈ z_W := inr_33 (List.mem_of_getElem? (l := wsL_law_r33) (i := 17) rfl)
theorem m_33_18 : (Cond.selects RX11 yX11_best yX11_best) ∈ z_W := inr_33 (List.mem_of_getElem? (l := wsL_law_r33) (i := 18) rfl)
theorem m_33_19 : (Cond.code yX11_best cX11_best 8 (some .int)) ∈ z_W := inr_33 (List.mem_of_getElem? (l := wsL_law_r33) (i := 19) rfl)
theorem m_33_20 : (Cond.methodLink RL 85 yX10_missing) ∈ z_W := inr_33 (List.mem_of_getElem? (l := wsL_law_r33) (i := 20) rfl)
theorem m_33_21 : (Cond.instanceMethod yX10_missing) ∈ z_W := inr_33 (List.mem_of_getElem? (l := wsL_law_r33) (i := 21) rfl)
theorem m_33_22 : (Cond.selects RX10 yX10_missing yX10_missing) ∈ z_W := inr_33 (List.mem_of_getElem? (l := wsL_law_r33) (i := 22) rfl)
theorem m_33_23 : (Cond.code yX10_missing cX10_missing 8 (some .int)) ∈ z_W := inr_33 (List.mem_of_getElem? (l := wsL_law_r33) (i := 23) rfl)
theorem inr_34 {w : Cond} (h : w ∈ wsL_law_r34) : w ∈ z_W := z_WL (by unfold wsL_law; simp only [List.mem_append, h, true_or, or_true])
theorem m_34_0 : (Cond.methodLink RX10 216 yX4_hymnNote) ∈ z_W := inr_34 (List.mem_of_getElem? (l := wsL_law_r34) (i := 0) rfl)
theorem m_34_1 : (Cond.methodLink RX10 219 yX10_hasNote) ∈ z_W := inr_34 (List.mem_of_getElem? (l := wsL_law_r34) (i := 1) rfl)
theorem m_34_2 : (Cond.methodLink RL 88 yX11_missing) ∈ z_W := inr_34 (List.mem_of_getElem? (l := wsL_law_r34) (i := 2) rfl)
theorem m_34_3 : (Cond.instanceMethod yX11_missing) ∈ z_W := inr_34 (List.mem_of_getElem? (l := wsL_law_r34) (i := 3) rfl)
theorem m_34_4 : (Cond.selects RX11 yX11_missing yX11_missing) ∈ z_W := inr_34 (List.mem_of_getElem? (l := wsL_law_r34) (i := 4) rfl)
theorem m_34_5 : (Cond.code yX11_missing cX11_missing 7 (some .int)) ∈ z_W := inr_34 (List.mem_of_getElem? (l := wsL_law_r34) (i := 5) rfl)
theorem m_34_6 : (Cond.methodLink RL 89 yX10_fetchAll) ∈ z_W := inr_34 (List.mem_of_getElem? (l := wsL_law_r34) (i := 6) rfl)
theorem m_34_7 : (Cond.instanceMethod yX10_fetchAll) ∈ z_W := inr_34 (List.mem_of_getElem? (l := wsL_law_r34) (i := 7) rfl)
theorem m_34_8 : (Cond.selects RX10 yX10_fetchAll yX10_fetchAll) ∈ z_W := inr_34 (List.mem_of_getElem? (l := wsL_law_r34) (i := 8) rfl)
theorem m_34_9 : (Cond.code yX10_fetchAll cX10_fetchAll 7 (some .int)) ∈ z_W := inr_34 (List.mem_of_getElem? (l := wsL_law_r34) (i := 9) rfl)
theorem m_34_10 : (Cond.methodLink RX10 223 yX4_pipesToFetch) ∈ z_W := inr_34 (List.mem_of_getElem? (l := wsL_law_r34) (i := 10) rfl)
theorem m_34_11 : (Cond.instanceMethod yX4_pipesToFetch) ∈ z_W := inr_34 (List.mem_of_getElem? (l := wsL_law_r34) (i := 11) rfl)
theorem m_34_12 : (Cond.selects RX4 yX4_pipesToFetch yX4_pipesToFetch) ∈ z_W := inr_34 (List.mem_of_getElem? (l := wsL_law_r34) (i := 12) rfl)
theorem m_34_13 : (Cond.code yX4_pipesToFetch cX4_pipesToFetch 9 (some .int)) ∈ z_W := inr_34 (List.mem_of_getElem? (l := wsL_law_r34) (i := 13) rfl)
theorem m_34_14 : (Cond.methodLink RX4 130 yX4_firstOfNote) ∈ z_W := inr_34 (List.mem_of_getElem? (l := wsL_law_r34) (i := 14) rfl)
theorem m_34_15 : (Cond.instanceMethod yX4_firstOfNote) ∈ z_W := inr_34 (List.mem_of_getElem? (l := wsL_law_r34) (i := 15) rfl)
theorem m_34_16 : (Cond.selects RX4 yX4_firstOfNote yX4_firstOfNote) ∈ z_W := inr_34 (List.mem_of_getElem? (l := wsL_law_r34) (i := 16) rfl)
theorem m_34_17 : (Cond.code yX4_firstOfNote cX4_firstOfNote 3 (some .int)) ∈ z_W := inr_34 (List.mem_of_getElem? (l := wsL_law_r34) (i := 17) rfl)
theorem m_34_18 : (Cond.methodLink RX10 226 yX10_isFewer) ∈ z_W := inr_34 (List.mem_of_getElem? (l := wsL_law_r34) (i := 18) rfl)
theorem m_34_19 : (Cond.static yX10_isFewer) ∈ z_W := inr_34 (List.mem_of_getElem? (l := wsL_law_r34) (i := 19) rfl)
theorem m_34_20 : (Cond.code yX10_isFewer cX10_isFewer 4 (some .boolean)) ∈ z_W := inr_34 (List.mem_of_getElem? (l := wsL_law_r34) (i := 20) rfl)
theorem m_34_21 : (Cond.methodLink RX10 322 yJ6_bitCount_0f7a4) ∈ z_W := inr_34 (List.mem_of_getElem? (l := wsL_law_r34) (i := 21) rfl)
theorem m_34_22 : (Cond.static yJ6_bitCount_0f7a4) ∈ z_W := inr_34 (List.mem_of_getElem? (l := wsL_law_r34) (i := 22) rfl)
theorem m_34_23 : (Cond.initialized RJ6) ∈ z_W := inr_34 (List.mem_of_getElem? (l := wsL_law_r34) (i := 23) rfl)
theorem inr_35 {w : Cond} (h : w ∈ wsL_law_r35) : w ∈ z_W := z_WL (by unfold wsL_law; simp only [List.mem_append, h, true_or, or_true])
theorem m_35_0 : (Cond.code yJ6_bitCount_0f7a4 cJ6_bitCount_0f7a4 1 (some .int)) ∈ z_W := inr_35 (List.mem_of_getElem? (l := wsL_law_r35) (i := 0) rfl)
theorem m_35_1 : (Cond.constant RJ6 265 (1431655765)) ∈ z_W := inr_35 (List.mem_of_getElem? (l := wsL_law_r35) (i := 1) rfl)
theorem m_35_2 : (Cond.constant RJ6 266 (858993459)) ∈ z_W := inr_35 (List.mem_of_getElem? (l := wsL_law_r35) (i := 2) rfl)
theorem m_35_3 : (Cond.constant RJ6 267 (252645135)) ∈ z_W := inr_35 (List.mem_of_getElem? (l := wsL_law_r35) (i := 3) rfl)
theorem m_35_4 : (Cond.methodLink RL 92 yX11_fetchAll) ∈ z_W := inr_35 (List.mem_of_getElem? (l := wsL_law_r35) (i := 4) rfl)
theorem m_35_5 : (Cond.instanceMethod yX11_fetchAll) ∈ z_W := inr_35 (List.mem_of_getElem? (l := wsL_law_r35) (i := 5) rfl)
theorem m_35_6 : (Cond.selects RX11 yX11_fetchAll yX11_fetchAll) ∈ z_W := inr_35 (List.mem_of_getElem? (l := wsL_law_r35) (i := 6) rfl)
theorem m_35_7 : (Cond.code yX11_fetchAll cX11_fetchAll 6 (some .int)) ∈ z_W := inr_35 (List.mem_of_getElem? (l := wsL_law_r35) (i := 7) rfl)
theorem m_35_8 : (Cond.methodLink RX11 204 yX11_isWhole) ∈ z_W := inr_35 (List.mem_of_getElem? (l := wsL_law_r35) (i := 8) rfl)
theorem m_35_9 : (Cond.instanceMethod yX11_isWhole) ∈ z_W := inr_35 (List.mem_of_getElem? (l := wsL_law_r35) (i := 9) rfl)
theorem m_35_10 : (Cond.selects RX11 yX11_isWhole yX11_isWhole) ∈ z_W := inr_35 (List.mem_of_getElem? (l := wsL_law_r35) (i := 10) rfl)
theorem m_35_11 : (Cond.code yX11_isWhole cX11_isWhole 5 (some .boolean)) ∈ z_W := inr_35 (List.mem_of_getElem? (l := wsL_law_r35) (i := 11) rfl)
theorem m_35_12 : (Cond.methodLink RL 93 yX10_falls) ∈ z_W := inr_35 (List.mem_of_getElem? (l := wsL_law_r35) (i := 12) rfl)
theorem m_35_13 : (Cond.instanceMethod yX10_falls) ∈ z_W := inr_35 (List.mem_of_getElem? (l := wsL_law_r35) (i := 13) rfl)
theorem m_35_14 : (Cond.selects RX10 yX10_falls yX10_falls) ∈ z_W := inr_35 (List.mem_of_getElem? (l := wsL_law_r35) (i := 14) rfl)
theorem m_35_15 : (Cond.code yX10_falls cX10_falls 3 (some .int)) ∈ z_W := inr_35 (List.mem_of_getElem? (l := wsL_law_r35) (i := 15) rfl)
theorem m_35_16 : (Cond.methodLink RX10 229 yX4_canBeWhole) ∈ z_W := inr_35 (List.mem_of_getElem? (l := wsL_law_r35) (i := 16) rfl)
theorem m_35_17 : (Cond.instanceMethod yX4_canBeWhole) ∈ z_W := inr_35 (List.mem_of_getElem? (l := wsL_law_r35) (i := 17) rfl)
theorem m_35_18 : (Cond.selects RX4 yX4_canBeWhole yX4_canBeWhole) ∈ z_W := inr_35 (List.mem_of_getElem? (l := wsL_law_r35) (i := 18) rfl)
theorem m_35_19 : (Cond.code yX4_canBeWhole cX4_canBeWhole 5 (some .boolean)) ∈ z_W := inr_35 (List.mem_of_getElem? (l := wsL_law_r35) (i := 19) rfl)
theorem m_35_20 : (Cond.methodLink RX4 126 yX4_howManyPlayed) ∈ z_W := inr_35 (List.mem_of_getElem? (l := wsL_law_r35) (i := 20) rfl)
theorem m_35_21 : (Cond.methodLink RL 96 yX11_falls) ∈ z_W := inr_35 (List.mem_of_getElem? (l := wsL_law_r35) (i := 21) rfl)
theorem m_35_22 : (Cond.instanceMethod yX11_falls) ∈ z_W := inr_35 (List.mem_of_getElem? (l := wsL_law_r35) (i := 22) rfl)
theorem m_35_23 : (Cond.selects RX11 yX11_falls yX11_falls) ∈ z_W := inr_35 (List.mem_of_getElem? (l := wsL_law_r35) (i := 23) rfl)
theorem inr_36 {w : Cond} (h : w ∈ wsL_law_r36) : w ∈ z_W := z_WL (by unfold wsL_law; simp only [List.mem_append, h, true_or, or_true])
theorem m_36_0 : (Cond.code yX11_falls cX11_falls 3 (some .int)) ∈ z_W := inr_36 (List.mem_of_getElem? (l := wsL_law_r36) (i := 0) rfl)
theorem m_36_1 : (Cond.methodLink RL 97 yX10_walk) ∈ z_W := inr_36 (List.mem_of_getElem? (l := wsL_law_r36) (i := 1) rfl)
theorem m_36_2 : (Cond.instanceMethod yX10_walk) ∈ z_W := inr_36 (List.mem_of_getElem? (l := wsL_law_r36) (i := 2) rfl)
theorem m_36_3 : (Cond.selects RX10 yX10_walk yX10_walk) ∈ z_W := inr_36 (List.mem_of_getElem? (l := wsL_law_r36) (i := 3) rfl)
theorem m_36_4 : (Cond.code yX10_walk cX10_walk 3 (some .int)) ∈ z_W := inr_36 (List.mem_of_getElem? (l := wsL_law_r36) (i := 4) rfl)
theorem m_36_5 : (Cond.fieldLink RX10 240 "GonePipes$Walk" "length" "I") ∈ z_W := inr_36 (List.mem_of_getElem? (l := wsL_law_r36) (i := 5) rfl)
theorem m_36_6 : (Cond.fieldLink RX10 243 "GonePipes$Walk" "first" "I") ∈ z_W := inr_36 (List.mem_of_getElem? (l := wsL_law_r36) (i := 6) rfl)
theorem m_36_7 : (Cond.methodLink RX10 233 yX4_placesOf) ∈ z_W := inr_36 (List.mem_of_getElem? (l := wsL_law_r36) (i := 7) rfl)
theorem m_36_8 : (Cond.instanceMethod yX4_placesOf) ∈ z_W := inr_36 (List.mem_of_getElem? (l := wsL_law_r36) (i := 8) rfl)
theorem m_36_9 : (Cond.selects RX4 yX4_placesOf yX4_placesOf) ∈ z_W := inr_36 (List.mem_of_getElem? (l := wsL_law_r36) (i := 9) rfl)
theorem m_36_10 : (Cond.code yX4_placesOf cX4_placesOf 4 (some .int)) ∈ z_W := inr_36 (List.mem_of_getElem? (l := wsL_law_r36) (i := 10) rfl)
theorem m_36_11 : (Cond.methodLink RX10 236 yX9_find) ∈ z_W := inr_36 (List.mem_of_getElem? (l := wsL_law_r36) (i := 11) rfl)
theorem m_36_12 : (Cond.instanceMethod yX9_find) ∈ z_W := inr_36 (List.mem_of_getElem? (l := wsL_law_r36) (i := 12) rfl)
theorem m_36_13 : (Cond.selects RX9 yX9_find yX9_find) ∈ z_W := inr_36 (List.mem_of_getElem? (l := wsL_law_r36) (i := 13) rfl)
theorem m_36_14 : (Cond.code yX9_find cX9_find 5 none) ∈ z_W := inr_36 (List.mem_of_getElem? (l := wsL_law_r36) (i := 14) rfl)
theorem m_36_15 : (Cond.fieldLink RX9 19 "GonePipes$Walk" "length" "I") ∈ z_W := inr_36 (List.mem_of_getElem? (l := wsL_law_r36) (i := 15) rfl)
theorem m_36_16 : (Cond.fieldLink RX9 23 "GonePipes$Walk" "first" "I") ∈ z_W := inr_36 (List.mem_of_getElem? (l := wsL_law_r36) (i := 16) rfl)
theorem m_36_17 : (Cond.constant RX9 26 (1000000)) ∈ z_W := inr_36 (List.mem_of_getElem? (l := wsL_law_r36) (i := 17) rfl)
theorem m_36_18 : (Cond.fieldLink RX9 27 "GonePipes$Organ" "places" "I") ∈ z_W := inr_36 (List.mem_of_getElem? (l := wsL_law_r36) (i := 18) rfl)
theorem m_36_19 : (Cond.methodLink RX9 15 yX9_fill) ∈ z_W := inr_36 (List.mem_of_getElem? (l := wsL_law_r36) (i := 19) rfl)
theorem m_36_20 : (Cond.instanceMethod yX9_fill) ∈ z_W := inr_36 (List.mem_of_getElem? (l := wsL_law_r36) (i := 20) rfl)
theorem m_36_21 : (Cond.selects RX9 yX9_fill yX9_fill) ∈ z_W := inr_36 (List.mem_of_getElem? (l := wsL_law_r36) (i := 21) rfl)
theorem m_36_22 : (Cond.code yX9_fill cX9_fill 5 none) ∈ z_W := inr_36 (List.mem_of_getElem? (l := wsL_law_r36) (i := 22) rfl)
theorem m_36_23 : (Cond.methodLink RX9 36 yX9_leastFrom) ∈ z_W := inr_36 (List.mem_of_getElem? (l := wsL_law_r36) (i := 23) rfl)
theorem inr_37 {w : Cond} (h : w ∈ wsL_law_r37) : w ∈ z_W := z_WL (by unfold wsL_law; simp only [List.mem_append, h, true_or, or_true])
theorem m_37_0 : (Cond.instanceMethod yX9_leastFrom) ∈ z_W := inr_37 (List.mem_of_getElem? (l := wsL_law_r37) (i := 0) rfl)
theorem m_37_1 : (Cond.selects RX9 yX9_leastFrom yX9_leastFrom) ∈ z_W := inr_37 (List.mem_of_getElem? (l := wsL_law_r37) (i := 1) rfl)
theorem m_37_2 : (Cond.code yX9_leastFrom cX9_leastFrom 7 (some .int)) ∈ z_W := inr_37 (List.mem_of_getElem? (l := wsL_law_r37) (i := 2) rfl)
theorem m_37_3 : (Cond.methodLink RX9 40 Lib.Math.min.name) ∈ z_W := inr_37 (List.mem_of_getElem? (l := wsL_law_r37) (i := 3) rfl)
theorem m_37_4 : (Cond.static Lib.Math.min.name) ∈ z_W := inr_37 (List.mem_of_getElem? (l := wsL_law_r37) (i := 4) rfl)
theorem m_37_5 : (Cond.code Lib.Math.min.name Lib.Math.min.code 2 (some .int)) ∈ z_W := inr_37 (List.mem_of_getElem? (l := wsL_law_r37) (i := 5) rfl)
theorem m_37_6 : (Cond.methodLink RX9 32 yX4_howFar) ∈ z_W := inr_37 (List.mem_of_getElem? (l := wsL_law_r37) (i := 6) rfl)
theorem m_37_7 : (Cond.methodLink RL 100 yX11_walk) ∈ z_W := inr_37 (List.mem_of_getElem? (l := wsL_law_r37) (i := 7) rfl)
theorem m_37_8 : (Cond.instanceMethod yX11_walk) ∈ z_W := inr_37 (List.mem_of_getElem? (l := wsL_law_r37) (i := 8) rfl)
theorem m_37_9 : (Cond.selects RX11 yX11_walk yX11_walk) ∈ z_W := inr_37 (List.mem_of_getElem? (l := wsL_law_r37) (i := 9) rfl)
theorem m_37_10 : (Cond.code yX11_walk cX11_walk 6 (some .int)) ∈ z_W := inr_37 (List.mem_of_getElem? (l := wsL_law_r37) (i := 10) rfl)
theorem m_37_11 : (Cond.fieldLink RX11 214 "GonePipesModel" "shortest" "I") ∈ z_W := inr_37 (List.mem_of_getElem? (l := wsL_law_r37) (i := 11) rfl)
theorem m_37_12 : (Cond.fieldLink RX11 217 "GonePipesModel" "goFirst" "I") ∈ z_W := inr_37 (List.mem_of_getElem? (l := wsL_law_r37) (i := 12) rfl)
theorem m_37_13 : (Cond.methodLink RX11 226 yX11_layWalk) ∈ z_W := inr_37 (List.mem_of_getElem? (l := wsL_law_r37) (i := 13) rfl)
theorem m_37_14 : (Cond.instanceMethod yX11_layWalk) ∈ z_W := inr_37 (List.mem_of_getElem? (l := wsL_law_r37) (i := 14) rfl)
theorem m_37_15 : (Cond.selects RX11 yX11_layWalk yX11_layWalk) ∈ z_W := inr_37 (List.mem_of_getElem? (l := wsL_law_r37) (i := 15) rfl)
theorem m_37_16 : (Cond.code yX11_layWalk cX11_layWalk 5 none) ∈ z_W := inr_37 (List.mem_of_getElem? (l := wsL_law_r37) (i := 16) rfl)
theorem m_37_17 : (Cond.constant RX11 213 (1000000)) ∈ z_W := inr_37 (List.mem_of_getElem? (l := wsL_law_r37) (i := 17) rfl)
theorem m_37_18 : (Cond.methodLink RX11 220 yX11_longOf) ∈ z_W := inr_37 (List.mem_of_getElem? (l := wsL_law_r37) (i := 18) rfl)
theorem m_37_19 : (Cond.instanceMethod yX11_longOf) ∈ z_W := inr_37 (List.mem_of_getElem? (l := wsL_law_r37) (i := 19) rfl)
theorem m_37_20 : (Cond.selects RX11 yX11_longOf yX11_longOf) ∈ z_W := inr_37 (List.mem_of_getElem? (l := wsL_law_r37) (i := 20) rfl)
theorem m_37_21 : (Cond.code yX11_longOf cX11_longOf 4 (some .int)) ∈ z_W := inr_37 (List.mem_of_getElem? (l := wsL_law_r37) (i := 21) rfl)
theorem m_37_22 : (Cond.methodLink RX11 210 yX11_between) ∈ z_W := inr_37 (List.mem_of_getElem? (l := wsL_law_r37) (i := 22) rfl)
theorem m_37_23 : (Cond.instanceMethod yX11_between) ∈ z_W := inr_37 (List.mem_of_getElem? (l := wsL_law_r37) (i := 23) rfl)
theorem inr_38 {w : Cond} (h : w ∈ wsL_law_r38) : w ∈ z_W := z_WL (by unfold wsL_law; simp only [List.mem_append, h, true_or, or_true])
theorem m_38_0 : (Cond.selects RX11 yX11_between yX11_between) ∈ z_W := inr_38 (List.mem_of_getElem? (l := wsL_law_r38) (i := 0) rfl)
theorem m_38_1 : (Cond.code yX11_between cX11_between 3 (some .int)) ∈ z_W := inr_38 (List.mem_of_getElem? (l := wsL_law_r38) (i := 1) rfl)
theorem m_38_2 : (Cond.methodLink RX11 207 yX11_apart) ∈ z_W := inr_38 (List.mem_of_getElem? (l := wsL_law_r38) (i := 2) rfl)
theorem m_38_3 : (Cond.static yX11_apart) ∈ z_W := inr_38 (List.mem_of_getElem? (l := wsL_law_r38) (i := 3) rfl)
theorem m_38_4 : (Cond.code yX11_apart cX11_apart 2 (some .int)) ∈ z_W := inr_38 (List.mem_of_getElem? (l := wsL_law_r38) (i := 4) rfl)
theorem m_38_5 : (Cond.methodLink RX11 223 yX11_nextOrder) ∈ z_W := inr_38 (List.mem_of_getElem? (l := wsL_law_r38) (i := 5) rfl)
theorem m_38_6 : (Cond.instanceMethod yX11_nextOrder) ∈ z_W := inr_38 (List.mem_of_getElem? (l := wsL_law_r38) (i := 6) rfl)
theorem m_38_7 : (Cond.selects RX11 yX11_nextOrder yX11_nextOrder) ∈ z_W := inr_38 (List.mem_of_getElem? (l := wsL_law_r38) (i := 7) rfl)
theorem m_38_8 : (Cond.code yX11_nextOrder cX11_nextOrder 8 (some .boolean)) ∈ z_W := inr_38 (List.mem_of_getElem? (l := wsL_law_r38) (i := 8) rfl)
theorem m_38_9 : (Cond.methodLink RL 101 yX10_reading) ∈ z_W := inr_38 (List.mem_of_getElem? (l := wsL_law_r38) (i := 9) rfl)
theorem m_38_10 : (Cond.instanceMethod yX10_reading) ∈ z_W := inr_38 (List.mem_of_getElem? (l := wsL_law_r38) (i := 10) rfl)
theorem m_38_11 : (Cond.selects RX10 yX10_reading yX10_reading) ∈ z_W := inr_38 (List.mem_of_getElem? (l := wsL_law_r38) (i := 11) rfl)
theorem m_38_12 : (Cond.code yX10_reading cX10_reading 5 (some .int)) ∈ z_W := inr_38 (List.mem_of_getElem? (l := wsL_law_r38) (i := 12) rfl)
theorem m_38_13 : (Cond.fieldLink RX10 250 "GonePipes$Organ" "readings" "I") ∈ z_W := inr_38 (List.mem_of_getElem? (l := wsL_law_r38) (i := 13) rfl)
theorem m_38_14 : (Cond.methodLink RX10 246 yX4_addReading) ∈ z_W := inr_38 (List.mem_of_getElem? (l := wsL_law_r38) (i := 14) rfl)
theorem m_38_15 : (Cond.instanceMethod yX4_addReading) ∈ z_W := inr_38 (List.mem_of_getElem? (l := wsL_law_r38) (i := 15) rfl)
theorem m_38_16 : (Cond.selects RX4 yX4_addReading yX4_addReading) ∈ z_W := inr_38 (List.mem_of_getElem? (l := wsL_law_r38) (i := 16) rfl)
theorem m_38_17 : (Cond.code yX4_addReading cX4_addReading 6 (some .boolean)) ∈ z_W := inr_38 (List.mem_of_getElem? (l := wsL_law_r38) (i := 17) rfl)
theorem m_38_18 : (Cond.methodLink RL 105 yX11_reading) ∈ z_W := inr_38 (List.mem_of_getElem? (l := wsL_law_r38) (i := 18) rfl)
theorem m_38_19 : (Cond.instanceMethod yX11_reading) ∈ z_W := inr_38 (List.mem_of_getElem? (l := wsL_law_r38) (i := 19) rfl)
theorem m_38_20 : (Cond.selects RX11 yX11_reading yX11_reading) ∈ z_W := inr_38 (List.mem_of_getElem? (l := wsL_law_r38) (i := 20) rfl)
theorem m_38_21 : (Cond.code yX11_reading cX11_reading 6 (some .int)) ∈ z_W := inr_38 (List.mem_of_getElem? (l := wsL_law_r38) (i := 21) rfl)
theorem m_38_22 : (Cond.methodLink RL 106 yX10_forget) ∈ z_W := inr_38 (List.mem_of_getElem? (l := wsL_law_r38) (i := 22) rfl)
theorem m_38_23 : (Cond.instanceMethod yX10_forget) ∈ z_W := inr_38 (List.mem_of_getElem? (l := wsL_law_r38) (i := 23) rfl)
theorem inr_39 {w : Cond} (h : w ∈ wsL_law_r39) : w ∈ z_W := z_WL (by unfold wsL_law; simp only [List.mem_append, h, true_or, or_true])
theorem m_39_0 : (Cond.selects RX10 yX10_forget yX10_forget) ∈ z_W := inr_39 (List.mem_of_getElem? (l := wsL_law_r39) (i := 0) rfl)
theorem m_39_1 : (Cond.code yX10_forget cX10_forget 2 (some .int)) ∈ z_W := inr_39 (List.mem_of_getElem? (l := wsL_law_r39) (i := 1) rfl)
theorem m_39_2 : (Cond.methodLink RL 109 yX11_forget) ∈ z_W := inr_39 (List.mem_of_getElem? (l := wsL_law_r39) (i := 2) rfl)
theorem m_39_3 : (Cond.instanceMethod yX11_forget) ∈ z_W := inr_39 (List.mem_of_getElem? (l := wsL_law_r39) (i := 3) rfl)
theorem m_39_4 : (Cond.selects RX11 yX11_forget yX11_forget) ∈ z_W := inr_39 (List.mem_of_getElem? (l := wsL_law_r39) (i := 4) rfl)
theorem m_39_5 : (Cond.code yX11_forget cX11_forget 2 (some .int)) ∈ z_W := inr_39 (List.mem_of_getElem? (l := wsL_law_r39) (i := 5) rfl)
theorem m_39_6 : (Cond.methodLink RL 110 yX10_may) ∈ z_W := inr_39 (List.mem_of_getElem? (l := wsL_law_r39) (i := 6) rfl)
theorem m_39_7 : (Cond.instanceMethod yX10_may) ∈ z_W := inr_39 (List.mem_of_getElem? (l := wsL_law_r39) (i := 7) rfl)
theorem m_39_8 : (Cond.selects RX10 yX10_may yX10_may) ∈ z_W := inr_39 (List.mem_of_getElem? (l := wsL_law_r39) (i := 8) rfl)
theorem m_39_9 : (Cond.code yX10_may cX10_may 2 (some .int)) ∈ z_W := inr_39 (List.mem_of_getElem? (l := wsL_law_r39) (i := 9) rfl)
theorem m_39_10 : (Cond.methodLink RX10 253 yX10_kindsThatMayBe) ∈ z_W := inr_39 (List.mem_of_getElem? (l := wsL_law_r39) (i := 10) rfl)
theorem m_39_11 : (Cond.instanceMethod yX10_kindsThatMayBe) ∈ z_W := inr_39 (List.mem_of_getElem? (l := wsL_law_r39) (i := 11) rfl)
theorem m_39_12 : (Cond.selects RX10 yX10_kindsThatMayBe yX10_kindsThatMayBe) ∈ z_W := inr_39 (List.mem_of_getElem? (l := wsL_law_r39) (i := 12) rfl)
theorem m_39_13 : (Cond.code yX10_kindsThatMayBe cX10_kindsThatMayBe 4 (some .int)) ∈ z_W := inr_39 (List.mem_of_getElem? (l := wsL_law_r39) (i := 13) rfl)
theorem m_39_14 : (Cond.methodLink RX10 311 yX10_areReadingsSo) ∈ z_W := inr_39 (List.mem_of_getElem? (l := wsL_law_r39) (i := 14) rfl)
theorem m_39_15 : (Cond.instanceMethod yX10_areReadingsSo) ∈ z_W := inr_39 (List.mem_of_getElem? (l := wsL_law_r39) (i := 15) rfl)
theorem m_39_16 : (Cond.selects RX10 yX10_areReadingsSo yX10_areReadingsSo) ∈ z_W := inr_39 (List.mem_of_getElem? (l := wsL_law_r39) (i := 16) rfl)
theorem m_39_17 : (Cond.code yX10_areReadingsSo cX10_areReadingsSo 3 (some .boolean)) ∈ z_W := inr_39 (List.mem_of_getElem? (l := wsL_law_r39) (i := 17) rfl)
theorem m_39_18 : (Cond.methodLink RX10 315 yX4_lastReadingHour) ∈ z_W := inr_39 (List.mem_of_getElem? (l := wsL_law_r39) (i := 18) rfl)
theorem m_39_19 : (Cond.instanceMethod yX4_lastReadingHour) ∈ z_W := inr_39 (List.mem_of_getElem? (l := wsL_law_r39) (i := 19) rfl)
theorem m_39_20 : (Cond.selects RX4 yX4_lastReadingHour yX4_lastReadingHour) ∈ z_W := inr_39 (List.mem_of_getElem? (l := wsL_law_r39) (i := 20) rfl)
theorem m_39_21 : (Cond.code yX4_lastReadingHour cX4_lastReadingHour 3 (some .int)) ∈ z_W := inr_39 (List.mem_of_getElem? (l := wsL_law_r39) (i := 21) rfl)
theorem m_39_22 : (Cond.methodLink RX4 133 Lib.Math.max.name) ∈ z_W := inr_39 (List.mem_of_getElem? (l := wsL_law_r39) (i := 22) rfl)
theorem m_39_23 : (Cond.static Lib.Math.max.name) ∈ z_W := inr_39 (List.mem_of_getElem? (l := wsL_law_r39) (i := 23) rfl)
theorem inr_40 {w : Cond} (h : w ∈ wsL_law_r40) : w ∈ z_W := z_WL (by unfold wsL_law; simp only [List.mem_append, h, true_or, or_true])
theorem m_40_0 : (Cond.code Lib.Math.max.name Lib.Math.max.code 2 (some .int)) ∈ z_W := inr_40 (List.mem_of_getElem? (l := wsL_law_r40) (i := 0) rfl)
theorem m_40_1 : (Cond.methodLink RX10 318 yX4_agreesWith) ∈ z_W := inr_40 (List.mem_of_getElem? (l := wsL_law_r40) (i := 1) rfl)
theorem m_40_2 : (Cond.instanceMethod yX4_agreesWith) ∈ z_W := inr_40 (List.mem_of_getElem? (l := wsL_law_r40) (i := 2) rfl)
theorem m_40_3 : (Cond.selects RX4 yX4_agreesWith yX4_agreesWith) ∈ z_W := inr_40 (List.mem_of_getElem? (l := wsL_law_r40) (i := 3) rfl)
theorem m_40_4 : (Cond.code yX4_agreesWith cX4_agreesWith 6 (some .boolean)) ∈ z_W := inr_40 (List.mem_of_getElem? (l := wsL_law_r40) (i := 4) rfl)
theorem m_40_5 : (Cond.methodLink RX4 136 yX4_isAt) ∈ z_W := inr_40 (List.mem_of_getElem? (l := wsL_law_r40) (i := 5) rfl)
theorem m_40_6 : (Cond.instanceMethod yX4_isAt) ∈ z_W := inr_40 (List.mem_of_getElem? (l := wsL_law_r40) (i := 6) rfl)
theorem m_40_7 : (Cond.selects RX4 yX4_isAt yX4_isAt) ∈ z_W := inr_40 (List.mem_of_getElem? (l := wsL_law_r40) (i := 7) rfl)
theorem m_40_8 : (Cond.code yX4_isAt cX4_isAt 3 (some .boolean)) ∈ z_W := inr_40 (List.mem_of_getElem? (l := wsL_law_r40) (i := 8) rfl)
theorem m_40_9 : (Cond.methodLink RL 113 yX11_may) ∈ z_W := inr_40 (List.mem_of_getElem? (l := wsL_law_r40) (i := 9) rfl)
theorem m_40_10 : (Cond.instanceMethod yX11_may) ∈ z_W := inr_40 (List.mem_of_getElem? (l := wsL_law_r40) (i := 10) rfl)
theorem m_40_11 : (Cond.selects RX11 yX11_may yX11_may) ∈ z_W := inr_40 (List.mem_of_getElem? (l := wsL_law_r40) (i := 11) rfl)
theorem m_40_12 : (Cond.code yX11_may cX11_may 2 (some .int)) ∈ z_W := inr_40 (List.mem_of_getElem? (l := wsL_law_r40) (i := 12) rfl)
theorem m_40_13 : (Cond.methodLink RX11 235 yX11_kindsOf) ∈ z_W := inr_40 (List.mem_of_getElem? (l := wsL_law_r40) (i := 13) rfl)
theorem m_40_14 : (Cond.instanceMethod yX11_kindsOf) ∈ z_W := inr_40 (List.mem_of_getElem? (l := wsL_law_r40) (i := 14) rfl)
theorem m_40_15 : (Cond.selects RX11 yX11_kindsOf yX11_kindsOf) ∈ z_W := inr_40 (List.mem_of_getElem? (l := wsL_law_r40) (i := 15) rfl)
theorem m_40_16 : (Cond.code yX11_kindsOf cX11_kindsOf 4 (some .int)) ∈ z_W := inr_40 (List.mem_of_getElem? (l := wsL_law_r40) (i := 16) rfl)
theorem m_40_17 : (Cond.methodLink RX11 232 yX11_mayBe) ∈ z_W := inr_40 (List.mem_of_getElem? (l := wsL_law_r40) (i := 17) rfl)
theorem m_40_18 : (Cond.instanceMethod yX11_mayBe) ∈ z_W := inr_40 (List.mem_of_getElem? (l := wsL_law_r40) (i := 18) rfl)
theorem m_40_19 : (Cond.selects RX11 yX11_mayBe yX11_mayBe) ∈ z_W := inr_40 (List.mem_of_getElem? (l := wsL_law_r40) (i := 19) rfl)
theorem m_40_20 : (Cond.code yX11_mayBe cX11_mayBe 6 (some .boolean)) ∈ z_W := inr_40 (List.mem_of_getElem? (l := wsL_law_r40) (i := 20) rfl)
theorem m_40_21 : (Cond.methodLink RX11 229 yX11_isReadSo) ∈ z_W := inr_40 (List.mem_of_getElem? (l := wsL_law_r40) (i := 21) rfl)
theorem m_40_22 : (Cond.instanceMethod yX11_isReadSo) ∈ z_W := inr_40 (List.mem_of_getElem? (l := wsL_law_r40) (i := 22) rfl)
theorem m_40_23 : (Cond.selects RX11 yX11_isReadSo yX11_isReadSo) ∈ z_W := inr_40 (List.mem_of_getElem? (l := wsL_law_r40) (i := 23) rfl)
theorem inr_41 {w : Cond} (h : w ∈ wsL_law_r41) : w ∈ z_W := z_WL (by unfold wsL_law; simp only [List.mem_append, h, true_or, or_true])
theorem m_41_0 : (Cond.code yX11_isReadSo cX11_isReadSo 3 (some .boolean)) ∈ z_W := inr_41 (List.mem_of_getElem? (l := wsL_law_r41) (i := 0) rfl)
theorem m_41_1 : (Cond.methodLink RL 114 yX10_listen) ∈ z_W := inr_41 (List.mem_of_getElem? (l := wsL_law_r41) (i := 1) rfl)
theorem m_41_2 : (Cond.instanceMethod yX10_listen) ∈ z_W := inr_41 (List.mem_of_getElem? (l := wsL_law_r41) (i := 2) rfl)
theorem m_41_3 : (Cond.selects RX10 yX10_listen yX10_listen) ∈ z_W := inr_41 (List.mem_of_getElem? (l := wsL_law_r41) (i := 3) rfl)
theorem m_41_4 : (Cond.code yX10_listen cX10_listen 8 (some .int)) ∈ z_W := inr_41 (List.mem_of_getElem? (l := wsL_law_r41) (i := 4) rfl)
theorem m_41_5 : (Cond.methodLink RX10 256 yX10_tryKinds) ∈ z_W := inr_41 (List.mem_of_getElem? (l := wsL_law_r41) (i := 5) rfl)
theorem m_41_6 : (Cond.instanceMethod yX10_tryKinds) ∈ z_W := inr_41 (List.mem_of_getElem? (l := wsL_law_r41) (i := 6) rfl)
theorem m_41_7 : (Cond.selects RX10 yX10_tryKinds yX10_tryKinds) ∈ z_W := inr_41 (List.mem_of_getElem? (l := wsL_law_r41) (i := 7) rfl)
theorem m_41_8 : (Cond.code yX10_tryKinds cX10_tryKinds 4 none) ∈ z_W := inr_41 (List.mem_of_getElem? (l := wsL_law_r41) (i := 8) rfl)
theorem m_41_9 : (Cond.methodLink RX10 260 yX10_greaterPart) ∈ z_W := inr_41 (List.mem_of_getElem? (l := wsL_law_r41) (i := 9) rfl)
theorem m_41_10 : (Cond.instanceMethod yX10_greaterPart) ∈ z_W := inr_41 (List.mem_of_getElem? (l := wsL_law_r41) (i := 10) rfl)
theorem m_41_11 : (Cond.selects RX10 yX10_greaterPart yX10_greaterPart) ∈ z_W := inr_41 (List.mem_of_getElem? (l := wsL_law_r41) (i := 11) rfl)
theorem m_41_12 : (Cond.code yX10_greaterPart cX10_greaterPart 5 (some .int)) ∈ z_W := inr_41 (List.mem_of_getElem? (l := wsL_law_r41) (i := 12) rfl)
theorem m_41_13 : (Cond.methodLink RX10 327 Lib.Math.max.name) ∈ z_W := inr_41 (List.mem_of_getElem? (l := wsL_law_r41) (i := 13) rfl)
theorem m_41_14 : (Cond.methodLink RL 117 yX11_listen) ∈ z_W := inr_41 (List.mem_of_getElem? (l := wsL_law_r41) (i := 14) rfl)
theorem m_41_15 : (Cond.instanceMethod yX11_listen) ∈ z_W := inr_41 (List.mem_of_getElem? (l := wsL_law_r41) (i := 15) rfl)
theorem m_41_16 : (Cond.selects RX11 yX11_listen yX11_listen) ∈ z_W := inr_41 (List.mem_of_getElem? (l := wsL_law_r41) (i := 16) rfl)
theorem m_41_17 : (Cond.code yX11_listen cX11_listen 9 (some .int)) ∈ z_W := inr_41 (List.mem_of_getElem? (l := wsL_law_r41) (i := 17) rfl)
theorem m_41_18 : (Cond.methodLink RL 118 yX10_wish) ∈ z_W := inr_41 (List.mem_of_getElem? (l := wsL_law_r41) (i := 18) rfl)
theorem m_41_19 : (Cond.instanceMethod yX10_wish) ∈ z_W := inr_41 (List.mem_of_getElem? (l := wsL_law_r41) (i := 19) rfl)
theorem m_41_20 : (Cond.selects RX10 yX10_wish yX10_wish) ∈ z_W := inr_41 (List.mem_of_getElem? (l := wsL_law_r41) (i := 20) rfl)
theorem m_41_21 : (Cond.code yX10_wish cX10_wish 7 (some .int)) ∈ z_W := inr_41 (List.mem_of_getElem? (l := wsL_law_r41) (i := 21) rfl)
theorem m_41_22 : (Cond.methodLink RX10 263 yX4_wishTone) ∈ z_W := inr_41 (List.mem_of_getElem? (l := wsL_law_r41) (i := 22) rfl)
theorem m_41_23 : (Cond.instanceMethod yX4_wishTone) ∈ z_W := inr_41 (List.mem_of_getElem? (l := wsL_law_r41) (i := 23) rfl)
theorem inr_42 {w : Cond} (h : w ∈ wsL_law_r42) : w ∈ z_W := z_WL (by unfold wsL_law; simp only [List.mem_append, h, true_or, or_true])
theorem m_42_0 : (Cond.selects RX4 yX4_wishTone yX4_wishTone) ∈ z_W := inr_42 (List.mem_of_getElem? (l := wsL_law_r42) (i := 0) rfl)
theorem m_42_1 : (Cond.code yX4_wishTone cX4_wishTone 3 none) ∈ z_W := inr_42 (List.mem_of_getElem? (l := wsL_law_r42) (i := 1) rfl)
theorem m_42_2 : (Cond.methodLink RL 121 yX11_wish) ∈ z_W := inr_42 (List.mem_of_getElem? (l := wsL_law_r42) (i := 2) rfl)
theorem m_42_3 : (Cond.instanceMethod yX11_wish) ∈ z_W := inr_42 (List.mem_of_getElem? (l := wsL_law_r42) (i := 3) rfl)
theorem m_42_4 : (Cond.selects RX11 yX11_wish yX11_wish) ∈ z_W := inr_42 (List.mem_of_getElem? (l := wsL_law_r42) (i := 4) rfl)
theorem m_42_5 : (Cond.code yX11_wish cX11_wish 7 (some .int)) ∈ z_W := inr_42 (List.mem_of_getElem? (l := wsL_law_r42) (i := 5) rfl)
theorem m_42_6 : (Cond.methodLink RL 122 yX10_feast) ∈ z_W := inr_42 (List.mem_of_getElem? (l := wsL_law_r42) (i := 6) rfl)
theorem m_42_7 : (Cond.instanceMethod yX10_feast) ∈ z_W := inr_42 (List.mem_of_getElem? (l := wsL_law_r42) (i := 7) rfl)
theorem m_42_8 : (Cond.selects RX10 yX10_feast yX10_feast) ∈ z_W := inr_42 (List.mem_of_getElem? (l := wsL_law_r42) (i := 8) rfl)
theorem m_42_9 : (Cond.code yX10_feast cX10_feast 13 (some .int)) ∈ z_W := inr_42 (List.mem_of_getElem? (l := wsL_law_r42) (i := 9) rfl)
theorem m_42_10 : (Cond.constantLong RX10 272 (10)) ∈ z_W := inr_42 (List.mem_of_getElem? (l := wsL_law_r42) (i := 10) rfl)
theorem m_42_11 : (Cond.methodLink RX10 266 yX4_isFirstOfItsNote) ∈ z_W := inr_42 (List.mem_of_getElem? (l := wsL_law_r42) (i := 11) rfl)
theorem m_42_12 : (Cond.instanceMethod yX4_isFirstOfItsNote) ∈ z_W := inr_42 (List.mem_of_getElem? (l := wsL_law_r42) (i := 12) rfl)
theorem m_42_13 : (Cond.selects RX4 yX4_isFirstOfItsNote yX4_isFirstOfItsNote) ∈ z_W := inr_42 (List.mem_of_getElem? (l := wsL_law_r42) (i := 13) rfl)
theorem m_42_14 : (Cond.code yX4_isFirstOfItsNote cX4_isFirstOfItsNote 4 (some .boolean)) ∈ z_W := inr_42 (List.mem_of_getElem? (l := wsL_law_r42) (i := 14) rfl)
theorem m_42_15 : (Cond.methodLink RX10 269 yX4_howManyAwayOf) ∈ z_W := inr_42 (List.mem_of_getElem? (l := wsL_law_r42) (i := 15) rfl)
theorem m_42_16 : (Cond.instanceMethod yX4_howManyAwayOf) ∈ z_W := inr_42 (List.mem_of_getElem? (l := wsL_law_r42) (i := 16) rfl)
theorem m_42_17 : (Cond.selects RX4 yX4_howManyAwayOf yX4_howManyAwayOf) ∈ z_W := inr_42 (List.mem_of_getElem? (l := wsL_law_r42) (i := 17) rfl)
theorem m_42_18 : (Cond.code yX4_howManyAwayOf cX4_howManyAwayOf 4 (some .int)) ∈ z_W := inr_42 (List.mem_of_getElem? (l := wsL_law_r42) (i := 18) rfl)
theorem m_42_19 : (Cond.methodLink RX10 274 yX10_power) ∈ z_W := inr_42 (List.mem_of_getElem? (l := wsL_law_r42) (i := 19) rfl)
theorem m_42_20 : (Cond.static yX10_power) ∈ z_W := inr_42 (List.mem_of_getElem? (l := wsL_law_r42) (i := 20) rfl)
theorem m_42_21 : (Cond.code yX10_power cX10_power 6 (some .long)) ∈ z_W := inr_42 (List.mem_of_getElem? (l := wsL_law_r42) (i := 21) rfl)
theorem m_42_22 : (Cond.methodLink RX10 278 yX10_setFraction) ∈ z_W := inr_42 (List.mem_of_getElem? (l := wsL_law_r42) (i := 22) rfl)
theorem m_42_23 : (Cond.instanceMethod yX10_setFraction) ∈ z_W := inr_42 (List.mem_of_getElem? (l := wsL_law_r42) (i := 23) rfl)
theorem inr_43 {w : Cond} (h : w ∈ wsL_law_r43) : w ∈ z_W := z_WL (by unfold wsL_law; simp only [List.mem_append, h, true_or, or_true])
theorem m_43_0 : (Cond.selects RX10 yX10_setFraction yX10_setFraction) ∈ z_W := inr_43 (List.mem_of_getElem? (l := wsL_law_r43) (i := 0) rfl)
theorem m_43_1 : (Cond.code yX10_setFraction cX10_setFraction 7 none) ∈ z_W := inr_43 (List.mem_of_getElem? (l := wsL_law_r43) (i := 1) rfl)
theorem m_43_2 : (Cond.methodLink RX10 332 yX10_greatestDivisor) ∈ z_W := inr_43 (List.mem_of_getElem? (l := wsL_law_r43) (i := 2) rfl)
theorem m_43_3 : (Cond.static yX10_greatestDivisor) ∈ z_W := inr_43 (List.mem_of_getElem? (l := wsL_law_r43) (i := 3) rfl)
theorem m_43_4 : (Cond.code yX10_greatestDivisor cX10_greatestDivisor 7 (some .long)) ∈ z_W := inr_43 (List.mem_of_getElem? (l := wsL_law_r43) (i := 4) rfl)
theorem m_43_5 : (Cond.methodLink RL 126 yX11_feast) ∈ z_W := inr_43 (List.mem_of_getElem? (l := wsL_law_r43) (i := 5) rfl)
theorem m_43_6 : (Cond.instanceMethod yX11_feast) ∈ z_W := inr_43 (List.mem_of_getElem? (l := wsL_law_r43) (i := 6) rfl)
theorem m_43_7 : (Cond.selects RX11 yX11_feast yX11_feast) ∈ z_W := inr_43 (List.mem_of_getElem? (l := wsL_law_r43) (i := 7) rfl)
theorem m_43_8 : (Cond.code yX11_feast cX11_feast 14 (some .int)) ∈ z_W := inr_43 (List.mem_of_getElem? (l := wsL_law_r43) (i := 8) rfl)
theorem m_43_9 : (Cond.constantLong RX11 241 (10)) ∈ z_W := inr_43 (List.mem_of_getElem? (l := wsL_law_r43) (i := 9) rfl)
theorem m_43_10 : (Cond.methodLink RX11 243 yX11_fraction) ∈ z_W := inr_43 (List.mem_of_getElem? (l := wsL_law_r43) (i := 10) rfl)
theorem m_43_11 : (Cond.instanceMethod yX11_fraction) ∈ z_W := inr_43 (List.mem_of_getElem? (l := wsL_law_r43) (i := 11) rfl)
theorem m_43_12 : (Cond.selects RX11 yX11_fraction yX11_fraction) ∈ z_W := inr_43 (List.mem_of_getElem? (l := wsL_law_r43) (i := 12) rfl)
theorem m_43_13 : (Cond.code yX11_fraction cX11_fraction 11 none) ∈ z_W := inr_43 (List.mem_of_getElem? (l := wsL_law_r43) (i := 13) rfl)
theorem m_43_14 : (Cond.fieldLink RX11 238 "GonePipesModel" "above" "J") ∈ z_W := inr_43 (List.mem_of_getElem? (l := wsL_law_r43) (i := 14) rfl)
theorem m_43_15 : (Cond.methodLink RL 127 yX10_hours) ∈ z_W := inr_43 (List.mem_of_getElem? (l := wsL_law_r43) (i := 15) rfl)
theorem m_43_16 : (Cond.instanceMethod yX10_hours) ∈ z_W := inr_43 (List.mem_of_getElem? (l := wsL_law_r43) (i := 16) rfl)
theorem m_43_17 : (Cond.selects RX10 yX10_hours yX10_hours) ∈ z_W := inr_43 (List.mem_of_getElem? (l := wsL_law_r43) (i := 17) rfl)
theorem m_43_18 : (Cond.code yX10_hours cX10_hours 6 (some .int)) ∈ z_W := inr_43 (List.mem_of_getElem? (l := wsL_law_r43) (i := 18) rfl)
theorem m_43_19 : (Cond.constant RX10 282 (999999)) ∈ z_W := inr_43 (List.mem_of_getElem? (l := wsL_law_r43) (i := 19) rfl)
theorem m_43_20 : (Cond.constantLong RX10 283 (1103515245)) ∈ z_W := inr_43 (List.mem_of_getElem? (l := wsL_law_r43) (i := 20) rfl)
theorem m_43_21 : (Cond.constantLong RX10 285 (12345)) ∈ z_W := inr_43 (List.mem_of_getElem? (l := wsL_law_r43) (i := 21) rfl)
theorem m_43_22 : (Cond.constantLong RX10 287 (2147483648)) ∈ z_W := inr_43 (List.mem_of_getElem? (l := wsL_law_r43) (i := 22) rfl)
theorem m_43_23 : (Cond.constantLong RX10 289 (65536)) ∈ z_W := inr_43 (List.mem_of_getElem? (l := wsL_law_r43) (i := 23) rfl)
theorem inr_44 {w : Cond} (h : w ∈ wsL_law_r44) : w ∈ z_W := z_WL (by unfold wsL_law; simp only [List.mem_append, h, true_or, or_true])
theorem m_44_0 : (Cond.methodLink RL 130 yX11_hours) ∈ z_W := inr_44 (List.mem_of_getElem? (l := wsL_law_r44) (i := 0) rfl)
theorem m_44_1 : (Cond.instanceMethod yX11_hours) ∈ z_W := inr_44 (List.mem_of_getElem? (l := wsL_law_r44) (i := 1) rfl)
theorem m_44_2 : (Cond.selects RX11 yX11_hours yX11_hours) ∈ z_W := inr_44 (List.mem_of_getElem? (l := wsL_law_r44) (i := 2) rfl)
theorem m_44_3 : (Cond.code yX11_hours cX11_hours 7 (some .int)) ∈ z_W := inr_44 (List.mem_of_getElem? (l := wsL_law_r44) (i := 3) rfl)
theorem m_44_4 : (Cond.constantLong RX11 247 (999999)) ∈ z_W := inr_44 (List.mem_of_getElem? (l := wsL_law_r44) (i := 4) rfl)
theorem m_44_5 : (Cond.constantLong RX11 249 (60)) ∈ z_W := inr_44 (List.mem_of_getElem? (l := wsL_law_r44) (i := 5) rfl)
theorem m_44_6 : (Cond.constantLong RX11 251 (1103515245)) ∈ z_W := inr_44 (List.mem_of_getElem? (l := wsL_law_r44) (i := 6) rfl)
theorem m_44_7 : (Cond.constantLong RX11 253 (12345)) ∈ z_W := inr_44 (List.mem_of_getElem? (l := wsL_law_r44) (i := 7) rfl)
theorem m_44_8 : (Cond.constantLong RX11 255 (2147483648)) ∈ z_W := inr_44 (List.mem_of_getElem? (l := wsL_law_r44) (i := 8) rfl)
theorem m_44_9 : (Cond.constantLong RX11 257 (65536)) ∈ z_W := inr_44 (List.mem_of_getElem? (l := wsL_law_r44) (i := 9) rfl)
theorem m_44_10 : (Cond.methodLink RL 131 yX10_part) ∈ z_W := inr_44 (List.mem_of_getElem? (l := wsL_law_r44) (i := 10) rfl)
theorem m_44_11 : (Cond.instanceMethod yX10_part) ∈ z_W := inr_44 (List.mem_of_getElem? (l := wsL_law_r44) (i := 11) rfl)
theorem m_44_12 : (Cond.selects RX10 yX10_part yX10_part) ∈ z_W := inr_44 (List.mem_of_getElem? (l := wsL_law_r44) (i := 12) rfl)
theorem m_44_13 : (Cond.code yX10_part cX10_part 2 (some .long)) ∈ z_W := inr_44 (List.mem_of_getElem? (l := wsL_law_r44) (i := 13) rfl)
theorem m_44_14 : (Cond.methodLink RL 135 yX11_part) ∈ z_W := inr_44 (List.mem_of_getElem? (l := wsL_law_r44) (i := 14) rfl)
theorem m_44_15 : (Cond.instanceMethod yX11_part) ∈ z_W := inr_44 (List.mem_of_getElem? (l := wsL_law_r44) (i := 15) rfl)
theorem m_44_16 : (Cond.selects RX11 yX11_part yX11_part) ∈ z_W := inr_44 (List.mem_of_getElem? (l := wsL_law_r44) (i := 16) rfl)
theorem m_44_17 : (Cond.code yX11_part cX11_part 2 (some .long)) ∈ z_W := inr_44 (List.mem_of_getElem? (l := wsL_law_r44) (i := 17) rfl)
theorem m_44_18 : (Cond.methodLink RL 136 yX10_image) ∈ z_W := inr_44 (List.mem_of_getElem? (l := wsL_law_r44) (i := 18) rfl)
theorem m_44_19 : (Cond.instanceMethod yX10_image) ∈ z_W := inr_44 (List.mem_of_getElem? (l := wsL_law_r44) (i := 19) rfl)
theorem m_44_20 : (Cond.selects RX10 yX10_image yX10_image) ∈ z_W := inr_44 (List.mem_of_getElem? (l := wsL_law_r44) (i := 20) rfl)
theorem m_44_21 : (Cond.code yX10_image cX10_image 2 (some .int)) ∈ z_W := inr_44 (List.mem_of_getElem? (l := wsL_law_r44) (i := 21) rfl)
theorem m_44_22 : (Cond.methodLink RL 139 yX11_image) ∈ z_W := inr_44 (List.mem_of_getElem? (l := wsL_law_r44) (i := 22) rfl)
theorem m_44_23 : (Cond.instanceMethod yX11_image) ∈ z_W := inr_44 (List.mem_of_getElem? (l := wsL_law_r44) (i := 23) rfl)
theorem inr_45 {w : Cond} (h : w ∈ wsL_law_r45) : w ∈ z_W := z_WL (by unfold wsL_law; simp only [List.mem_append, h, true_or, or_true])
theorem m_45_0 : (Cond.selects RX11 yX11_image yX11_image) ∈ z_W := inr_45 (List.mem_of_getElem? (l := wsL_law_r45) (i := 0) rfl)
theorem m_45_1 : (Cond.code yX11_image cX11_image 3 (some .int)) ∈ z_W := inr_45 (List.mem_of_getElem? (l := wsL_law_r45) (i := 1) rfl)
theorem m_45_2 : (Cond.methodLink RL 140 yX10_from) ∈ z_W := inr_45 (List.mem_of_getElem? (l := wsL_law_r45) (i := 2) rfl)
theorem m_45_3 : (Cond.instanceMethod yX10_from) ∈ z_W := inr_45 (List.mem_of_getElem? (l := wsL_law_r45) (i := 3) rfl)
theorem m_45_4 : (Cond.selects RX10 yX10_from yX10_from) ∈ z_W := inr_45 (List.mem_of_getElem? (l := wsL_law_r45) (i := 4) rfl)
theorem m_45_5 : (Cond.code yX10_from cX10_from 2 (some .int)) ∈ z_W := inr_45 (List.mem_of_getElem? (l := wsL_law_r45) (i := 5) rfl)
theorem m_45_6 : (Cond.methodLink RL 143 yX11_from) ∈ z_W := inr_45 (List.mem_of_getElem? (l := wsL_law_r45) (i := 6) rfl)
theorem m_45_7 : (Cond.instanceMethod yX11_from) ∈ z_W := inr_45 (List.mem_of_getElem? (l := wsL_law_r45) (i := 7) rfl)
theorem m_45_8 : (Cond.selects RX11 yX11_from yX11_from) ∈ z_W := inr_45 (List.mem_of_getElem? (l := wsL_law_r45) (i := 8) rfl)
theorem m_45_9 : (Cond.code yX11_from cX11_from 3 (some .int)) ∈ z_W := inr_45 (List.mem_of_getElem? (l := wsL_law_r45) (i := 9) rfl)
theorem m_45_10 : (Cond.methodLink RL 144 yX10_status) ∈ z_W := inr_45 (List.mem_of_getElem? (l := wsL_law_r45) (i := 10) rfl)
theorem m_45_11 : (Cond.instanceMethod yX10_status) ∈ z_W := inr_45 (List.mem_of_getElem? (l := wsL_law_r45) (i := 11) rfl)
theorem m_45_12 : (Cond.selects RX10 yX10_status yX10_status) ∈ z_W := inr_45 (List.mem_of_getElem? (l := wsL_law_r45) (i := 12) rfl)
theorem m_45_13 : (Cond.code yX10_status cX10_status 2 (some .int)) ∈ z_W := inr_45 (List.mem_of_getElem? (l := wsL_law_r45) (i := 13) rfl)
theorem m_45_14 : (Cond.methodLink RL 147 yX11_status) ∈ z_W := inr_45 (List.mem_of_getElem? (l := wsL_law_r45) (i := 14) rfl)
theorem m_45_15 : (Cond.instanceMethod yX11_status) ∈ z_W := inr_45 (List.mem_of_getElem? (l := wsL_law_r45) (i := 15) rfl)
theorem m_45_16 : (Cond.selects RX11 yX11_status yX11_status) ∈ z_W := inr_45 (List.mem_of_getElem? (l := wsL_law_r45) (i := 16) rfl)
theorem m_45_17 : (Cond.code yX11_status cX11_status 2 (some .int)) ∈ z_W := inr_45 (List.mem_of_getElem? (l := wsL_law_r45) (i := 17) rfl)
theorem m_45_18 : (Cond.methodLink RL 148 yX10_count) ∈ z_W := inr_45 (List.mem_of_getElem? (l := wsL_law_r45) (i := 18) rfl)
theorem m_45_19 : (Cond.instanceMethod yX10_count) ∈ z_W := inr_45 (List.mem_of_getElem? (l := wsL_law_r45) (i := 19) rfl)
theorem m_45_20 : (Cond.selects RX10 yX10_count yX10_count) ∈ z_W := inr_45 (List.mem_of_getElem? (l := wsL_law_r45) (i := 20) rfl)
theorem m_45_21 : (Cond.code yX10_count cX10_count 2 (some .int)) ∈ z_W := inr_45 (List.mem_of_getElem? (l := wsL_law_r45) (i := 21) rfl)
theorem m_45_22 : (Cond.methodLink RX10 300 yX10_howMany) ∈ z_W := inr_45 (List.mem_of_getElem? (l := wsL_law_r45) (i := 22) rfl)
theorem m_45_23 : (Cond.instanceMethod yX10_howMany) ∈ z_W := inr_45 (List.mem_of_getElem? (l := wsL_law_r45) (i := 23) rfl)
theorem inr_46 {w : Cond} (h : w ∈ wsL_law_r46) : w ∈ z_W := z_WL (by unfold wsL_law; simp only [List.mem_append, h, true_or, or_true])
theorem m_46_0 : (Cond.selects RX10 yX10_howMany yX10_howMany) ∈ z_W := inr_46 (List.mem_of_getElem? (l := wsL_law_r46) (i := 0) rfl)
theorem m_46_1 : (Cond.code yX10_howMany cX10_howMany 2 (some .int)) ∈ z_W := inr_46 (List.mem_of_getElem? (l := wsL_law_r46) (i := 1) rfl)
theorem m_46_2 : (Cond.fieldLink RX10 336 "GonePipes$Past" "count" "I") ∈ z_W := inr_46 (List.mem_of_getElem? (l := wsL_law_r46) (i := 2) rfl)
theorem m_46_3 : (Cond.methodLink RL 151 yX11_count) ∈ z_W := inr_46 (List.mem_of_getElem? (l := wsL_law_r46) (i := 3) rfl)
theorem m_46_4 : (Cond.instanceMethod yX11_count) ∈ z_W := inr_46 (List.mem_of_getElem? (l := wsL_law_r46) (i := 4) rfl)
theorem m_46_5 : (Cond.selects RX11 yX11_count yX11_count) ∈ z_W := inr_46 (List.mem_of_getElem? (l := wsL_law_r46) (i := 5) rfl)
theorem m_46_6 : (Cond.code yX11_count cX11_count 2 (some .int)) ∈ z_W := inr_46 (List.mem_of_getElem? (l := wsL_law_r46) (i := 6) rfl)
theorem m_46_7 : (Cond.methodLink RX11 314 yX11_counted) ∈ z_W := inr_46 (List.mem_of_getElem? (l := wsL_law_r46) (i := 7) rfl)
theorem m_46_8 : (Cond.instanceMethod yX11_counted) ∈ z_W := inr_46 (List.mem_of_getElem? (l := wsL_law_r46) (i := 8) rfl)
theorem m_46_9 : (Cond.selects RX11 yX11_counted yX11_counted) ∈ z_W := inr_46 (List.mem_of_getElem? (l := wsL_law_r46) (i := 9) rfl)
theorem m_46_10 : (Cond.code yX11_counted cX11_counted 2 (some .int)) ∈ z_W := inr_46 (List.mem_of_getElem? (l := wsL_law_r46) (i := 10) rfl)
theorem m_46_11 : (Cond.methodLink RL 152 yX10_digest) ∈ z_W := inr_46 (List.mem_of_getElem? (l := wsL_law_r46) (i := 11) rfl)
theorem m_46_12 : (Cond.instanceMethod yX10_digest) ∈ z_W := inr_46 (List.mem_of_getElem? (l := wsL_law_r46) (i := 12) rfl)
theorem m_46_13 : (Cond.selects RX10 yX10_digest yX10_digest) ∈ z_W := inr_46 (List.mem_of_getElem? (l := wsL_law_r46) (i := 13) rfl)
theorem m_46_14 : (Cond.code yX10_digest cX10_digest 4 (some .long)) ∈ z_W := inr_46 (List.mem_of_getElem? (l := wsL_law_r46) (i := 14) rfl)
theorem m_46_15 : (Cond.constantLong RX10 303 (983)) ∈ z_W := inr_46 (List.mem_of_getElem? (l := wsL_law_r46) (i := 15) rfl)
theorem m_46_16 : (Cond.constantLong RX10 305 (31)) ∈ z_W := inr_46 (List.mem_of_getElem? (l := wsL_law_r46) (i := 16) rfl)
theorem m_46_17 : (Cond.methodLink RX10 307 yX4_digestOn) ∈ z_W := inr_46 (List.mem_of_getElem? (l := wsL_law_r46) (i := 17) rfl)
theorem m_46_18 : (Cond.instanceMethod yX4_digestOn) ∈ z_W := inr_46 (List.mem_of_getElem? (l := wsL_law_r46) (i := 18) rfl)
theorem m_46_19 : (Cond.selects RX4 yX4_digestOn yX4_digestOn) ∈ z_W := inr_46 (List.mem_of_getElem? (l := wsL_law_r46) (i := 19) rfl)
theorem m_46_20 : (Cond.code yX4_digestOn cX4_digestOn 4 (some .long)) ∈ z_W := inr_46 (List.mem_of_getElem? (l := wsL_law_r46) (i := 20) rfl)
theorem m_46_21 : (Cond.constantLong RX4 144 (31)) ∈ z_W := inr_46 (List.mem_of_getElem? (l := wsL_law_r46) (i := 21) rfl)
theorem m_46_22 : (Cond.methodLink RX4 140 yX4_digestRow) ∈ z_W := inr_46 (List.mem_of_getElem? (l := wsL_law_r46) (i := 22) rfl)
theorem m_46_23 : (Cond.static yX4_digestRow) ∈ z_W := inr_46 (List.mem_of_getElem? (l := wsL_law_r46) (i := 23) rfl)
theorem inr_47 {w : Cond} (h : w ∈ wsL_law_r47) : w ∈ z_W := z_WL (by unfold wsL_law; simp only [List.mem_append, h, true_or, or_true])
theorem m_47_0 : (Cond.code yX4_digestRow cX4_digestRow 6 (some .long)) ∈ z_W := inr_47 (List.mem_of_getElem? (l := wsL_law_r47) (i := 0) rfl)
theorem m_47_1 : (Cond.methodLink RL 156 yX11_digest) ∈ z_W := inr_47 (List.mem_of_getElem? (l := wsL_law_r47) (i := 1) rfl)
theorem m_47_2 : (Cond.instanceMethod yX11_digest) ∈ z_W := inr_47 (List.mem_of_getElem? (l := wsL_law_r47) (i := 2) rfl)
theorem m_47_3 : (Cond.selects RX11 yX11_digest yX11_digest) ∈ z_W := inr_47 (List.mem_of_getElem? (l := wsL_law_r47) (i := 3) rfl)
theorem m_47_4 : (Cond.code yX11_digest cX11_digest 4 (some .long)) ∈ z_W := inr_47 (List.mem_of_getElem? (l := wsL_law_r47) (i := 4) rfl)
theorem m_47_5 : (Cond.constantLong RX11 319 (983)) ∈ z_W := inr_47 (List.mem_of_getElem? (l := wsL_law_r47) (i := 5) rfl)
theorem m_47_6 : (Cond.constantLong RX11 317 (31)) ∈ z_W := inr_47 (List.mem_of_getElem? (l := wsL_law_r47) (i := 6) rfl)
theorem m_47_7 : (Cond.methodLink RX11 321 yX11_sums) ∈ z_W := inr_47 (List.mem_of_getElem? (l := wsL_law_r47) (i := 7) rfl)
theorem m_47_8 : (Cond.instanceMethod yX11_sums) ∈ z_W := inr_47 (List.mem_of_getElem? (l := wsL_law_r47) (i := 8) rfl)
theorem m_47_9 : (Cond.selects RX11 yX11_sums yX11_sums) ∈ z_W := inr_47 (List.mem_of_getElem? (l := wsL_law_r47) (i := 9) rfl)
theorem m_47_10 : (Cond.code yX11_sums cX11_sums 8 (some .long)) ∈ z_W := inr_47 (List.mem_of_getElem? (l := wsL_law_r47) (i := 10) rfl)
theorem m_x_0 : z_Wx[0]'(by decide) ∈ z_W := List.mem_append_right _ (List.getElem_mem _)
theorem m_x_1 : z_Wx[1]'(by decide) ∈ z_W := List.mem_append_right _ (List.getElem_mem _)
theorem m_x_2 : z_Wx[2]'(by decide) ∈ z_W := List.mem_append_right _ (List.getElem_mem _)
theorem m_x_3 : z_Wx[3]'(by decide) ∈ z_W := List.mem_append_right _ (List.getElem_mem _)
end
